theorem dL_law_232 : decode code 232 = .ok (.aload_n 1, 1) := dc_43 (by decide +kernel)
theorem dL_law_233 : decode code 233 = .ok (.aload_n 0, 1) := dc_42 (by decide +kernel)
theorem dL_law_234 : decode code 234 = .ok (.iload_n 3, 1) := dc_29 (by decide +kernel)
theorem dL_law_235 : decode code 235 = .ok (.iconst 1, 1) := dc_4 (by decide +kernel)
theorem dL_law_236 : decode code 236 = .ok (.iadd, 1) := dc_96 (by decide +kernel)
theorem dL_law_237 : decode code 237 = .ok (.iaload, 1) := dc_46 (by decide +kernel)
theorem dL_law_238 : decode code 238 = .ok (.aload_n 0, 1) := dc_42 (by decide +kernel)
theorem dL_law_239 : decode code 239 = .ok (.iload_n 3, 1) := dc_29 (by decide +kernel)
theorem dL_law_240 : decode code 240 = .ok (.iconst 2, 1) := dc_5 (by decide +kernel)
theorem dL_law_241 : decode code 241 = .ok (.iadd, 1) := dc_96 (by decide +kernel)
theorem dL_law_242 : decode code 242 = .ok (.iaload, 1) := dc_46 (by decide +kernel)
theorem dL_law_243 : decode code 243 = .ok (.invokevirtual 13, 3) := dc_182 0 13 (by decide +kernel)
theorem kw_3_22 : (Jvm.Cond.methodLink "ParishUnionLaw" (13 : Nat) ({ cls := "ParishUnion", name := "parish", desc := "(II)I" } : Jvm.MethodName)) ∈ gT := gT_of (tb_3 _ (List.mem_of_getElem? (i := 22) rfl)) rfl
theorem kw_3_25 : (Jvm.Cond.code ({ cls := "ParishUnion", name := "parish", desc := "(II)I" } : Jvm.MethodName) prog_1_method_2_code (4 : Nat) (Option.some Jvm.ClassFile.FieldType.int)) ∈ gT := gT_of (tb_3 _ (List.mem_of_getElem? (i := 25) rfl)) rfl
theorem okX11_parish : gQok yX11_parish cX11_parish 4 (Option.some Jvm.ClassFile.FieldType.int) 2 := ⟨kw_3_25, kw_1_1, by decide +kernel, by decide +kernel, by decide +kernel⟩
theorem kw_3_23 : (Jvm.Cond.instanceMethod ({ cls := "ParishUnion", name := "parish", desc := "(II)I" } : Jvm.MethodName)) ∈ gT := gT_of (tb_3 _ (List.mem_of_getElem? (i := 23) rfl)) rfl
theorem kw_3_24 : (Jvm.Cond.selects "ParishUnion" ({ cls := "ParishUnion", name := "parish", desc := "(II)I" } : Jvm.MethodName) ({ cls := "ParishUnion", name := "parish", desc := "(II)I" } : Jvm.MethodName)) ∈ gT := gT_of (tb_3 _ (List.mem_of_getElem? (i := 24) rfl)) rfl
theorem dL_law_246 : decode code 246 = .ok (.pop, 1) := dc_87 (by decide +kernel)
theorem dL_law_247 : decode code 247 = .ok (.aload_n 2, 1) := dc_44 (by decide +kernel)
theorem dL_law_248 : decode code 248 = .ok (.aload_n 0, 1) := dc_42 (by decide +kernel)
theorem dL_law_249 : decode code 249 = .ok (.iload_n 3, 1) := dc_29 (by decide +kernel)
theorem dL_law_250 : decode code 250 = .ok (.iconst 1, 1) := dc_4 (by decide +kernel)
theorem dL_law_251 : decode code 251 = .ok (.iadd, 1) := dc_96 (by decide +kernel)
theorem dL_law_252 : decode code 252 = .ok (.iaload, 1) := dc_46 (by decide +kernel)
theorem dL_law_253 : decode code 253 = .ok (.aload_n 0, 1) := dc_42 (by decide +kernel)
theorem dL_law_254 : decode code 254 = .ok (.iload_n 3, 1) := dc_29 (by decide +kernel)
theorem dL_law_255 : decode code 255 = .ok (.iconst 2, 1) := dc_5 (by decide +kernel)
theorem dL_law_256 : decode code 256 = .ok (.iadd, 1) := dc_96 (by decide +kernel)
theorem dL_law_257 : decode code 257 = .ok (.iaload, 1) := dc_46 (by decide +kernel)
theorem dL_law_258 : decode code 258 = .ok (.invokevirtual 17, 3) := dc_182 0 17 (by decide +kernel)
theorem kw_6_99 : (Jvm.Cond.methodLink "ParishUnionLaw" (17 : Nat) ({ cls := "ParishUnionModel", name := "parish", desc := "(II)I" } : Jvm.MethodName)) ∈ gT := gT_of (tb_6 _ (List.mem_of_getElem? (i := 99) rfl)) rfl
theorem kw_6_102 : (Jvm.Cond.code ({ cls := "ParishUnionModel", name := "parish", desc := "(II)I" } : Jvm.MethodName) prog_14_method_9_code (4 : Nat) (Option.some Jvm.ClassFile.FieldType.int)) ∈ gT := gT_of (tb_6 _ (List.mem_of_getElem? (i := 102) rfl)) rfl
theorem okX12_parish : gQok yX12_parish cX12_parish 4 (Option.some Jvm.ClassFile.FieldType.int) 2 := ⟨kw_6_102, kw_1_13, by decide +kernel, by decide +kernel, by decide +kernel⟩
theorem kw_6_100 : (Jvm.Cond.instanceMethod ({ cls := "ParishUnionModel", name := "parish", desc := "(II)I" } : Jvm.MethodName)) ∈ gT := gT_of (tb_6 _ (List.mem_of_getElem? (i := 100) rfl)) rfl
theorem kw_6_101 : (Jvm.Cond.selects "ParishUnionModel" ({ cls := "ParishUnionModel", name := "parish", desc := "(II)I" } : Jvm.MethodName) ({ cls := "ParishUnionModel", name := "parish", desc := "(II)I" } : Jvm.MethodName)) ∈ gT := gT_of (tb_6 _ (List.mem_of_getElem? (i := 101) rfl)) rfl
theorem dL_law_261 : decode code 261 = .ok (.pop, 1) := dc_87 (by decide +kernel)
theorem dL_law_262 : decode code 262 = .ok (.goto 1730, 3) := dc_167 6 194 1730 (by decide +kernel)
set_option maxRecDepth 100000 in
set_option maxHeartbeats 4000000 in
theorem law_case_0 {p : Program} {e : Env} {s : State} {m : MethodId} {below : List Frame} {meth : Method} {cd : Code} {l : Launch} {D : va_G} {cA : Nat → ClassId} {b Ln : Nat} {xs : Nat → Int32} (X : gCx p s m #[Value.ref b] meth cd s.heap.size D cA "ParishUnionLaw" code 4) (hr : meth.sig.returnType = ret) (hb : b < s.heap.size ∧ va_X b Ln xs s s.heap) (hLn : Ln ≤ 3584) {sz cs ss : Nat} {M : gM} (L : lwI sz cs ss M) (i : Int) (hi : 0 ≤ i ∧ i + 7 ≤ (Ln : Int)) (kk : ∀ (sz cs ss : Nat) (M1 : gM), lwI sz cs ss M1 → G p l e room_1 s m #[Value.ref b] below meth cd s.heap.size D cA 4 (lw_Z below #[Value.ref b] s) cs ss M1 sz 1992 [(3, gJ i), (2, gA s.heap.size 190), (1, gA s.heap.size 0), (0, .ref b)] []) : G p l e room_1 s m #[Value.ref b] below meth cd s.heap.size D cA 4 (lw_Z below #[Value.ref b] s) cs ss M sz 232 [(3, gJ i), (2, gA s.heap.size 190), (1, gA s.heap.size 0), (0, .ref b)] [] := by
  obtain ⟨hsz, I, C, W, LA, LB, LK, LR⟩ := L
  have hN := gN_of hsz I
  obtain ⟨ac, hac, rac⟩ : ∃ v : Int, M 1 13 = v ∧ (0 ≤ v ∧ v ≤ 10) := by
    obtain ⟨v, hv, rv⟩ := gRd I (by decide) (gsz hsz (by decide)) rc_1_13.1
    exact ⟨v, hv, by omega⟩
  obtain ⟨ab, hab, rab⟩ : ∃ v : Int, M 191 4 = v ∧ (0 ≤ v ∧ v ≤ 10) := by
    obtain ⟨v, hv, rv⟩ := gRd I (by decide) (gsz hsz (by decide)) (rs_NA (k := 4) (by omega)).1
    exact ⟨v, hv, by omega⟩
  have hRm : cs + 0 ≤ room_1.cells ∧ ss + 0 ≤ room_1.slots := by
    show cs + 0 ≤ 349274 ∧ ss + 0 ≤ 8054428
    have := lwK.room LK
    omega
  obtain ⟨u1, eu1, ru1⟩ : ∃ z : Int, xs (i + 1).toNat = Int32.ofInt z ∧ (-2147483648 ≤ z ∧ z ≤ 2147483647) := ⟨_, gi_of _, gi_rg _⟩
  obtain ⟨u2, eu2, ru2⟩ : ∃ z : Int, xs (i + 2).toNat = Int32.ofInt z ∧ (-2147483648 ≤ z ∧ z ≤ 2147483647) := ⟨_, gi_of _, gi_rg _⟩
  obtain ⟨u3, eu3, ru3⟩ : ∃ z : Int, xs (i + 3).toNat = Int32.ofInt z ∧ (-2147483648 ≤ z ∧ z ≤ 2147483647) := ⟨_, gi_of _, gi_rg _⟩
  obtain ⟨u4, eu4, ru4⟩ : ∃ z : Int, xs (i + 4).toNat = Int32.ofInt z ∧ (-2147483648 ≤ z ∧ z ≤ 2147483647) := ⟨_, gi_of _, gi_rg _⟩
  obtain ⟨u5, eu5, ru5⟩ : ∃ z : Int, xs (i + 5).toNat = Int32.ofInt z ∧ (-2147483648 ≤ z ∧ z ≤ 2147483647) := ⟨_, gi_of _, gi_rg _⟩
  obtain ⟨u6, eu6, ru6⟩ : ∃ z : Int, xs (i + 6).toNat = Int32.ofInt z ∧ (-2147483648 ≤ z ∧ z ≤ 2147483647) := ⟨_, gi_of _, gi_rg _⟩
  refine g_aload_n (n := 233) X 2 dL_law_232 rfl rfl rfl ?_
  refine g_aload_n (n := 234) X 3 dL_law_233 rfl rfl rfl ?_
  refine g_iload_n (n := 235) X 0 dL_law_234 rfl rfl rfl ?_
  refine g_iconst (n := 236) X dL_law_235 rfl ?_
  refine g_iadd (n := 237) (z := i + 1) X dL_law_236 (by omega) rfl ?_
  refine g_scrld (n := 238) (z := u1) X hb (by omega) (by omega) (by omega) dL_law_237 rfl eu1 ?_
  refine g_aload_n (n := 239) X 3 dL_law_238 rfl rfl rfl ?_
  refine g_iload_n (n := 240) X 0 dL_law_239 rfl rfl rfl ?_
  refine g_iconst (n := 241) X dL_law_240 rfl ?_
  refine g_iadd (n := 242) (z := i + 2) X dL_law_241 (by omega) rfl ?_
  refine g_scrld (n := 243) (z := u2) X hb (by omega) (by omega) (by omega) dL_law_242 rfl eu2 ?_
  refine g_callVi (n := 246) (As := [gJ u1, gJ u2]) (rest := []) (cs1 := cs) (ss1 := ss) X (s_X11_parish u1 (by omega) u2 (by omega) hsz I C ) okX11_parish kw_3_22 ⟨kw_3_23, kw_3_24⟩ ⟨rfl, rfl⟩ ⟨Nat.le_of_ble_eq_true rfl, Nat.le_of_ble_eq_true rfl⟩ rfl (by decide) (gsz hsz (by decide)) lay_0 rfl rfl (Nat.le_of_ble_eq_true rfl) hRm rfl rfl dL_law_243 rfl (fun v1 M2 P3 => ?_)
  obtain ⟨rv1, IM2, CM2, FM2, xM2⟩ := P3
  refine g_pop (n := 247) X dL_law_246 rfl rfl ?_
  refine g_aload_n (n := 248) X 1 dL_law_247 rfl rfl rfl ?_
  refine g_aload_n (n := 249) X 3 dL_law_248 rfl rfl rfl ?_
  refine g_iload_n (n := 250) X 0 dL_law_249 rfl rfl rfl ?_
  refine g_iconst (n := 251) X dL_law_250 rfl ?_
  refine g_iadd (n := 252) (z := i + 1) X dL_law_251 (by omega) rfl ?_
  refine g_scrld (n := 253) (z := u1) X hb (by omega) (by omega) (by omega) dL_law_252 rfl eu1 ?_
  refine g_aload_n (n := 254) X 3 dL_law_253 rfl rfl rfl ?_
  refine g_iload_n (n := 255) X 0 dL_law_254 rfl rfl rfl ?_
  refine g_iconst (n := 256) X dL_law_255 rfl ?_
  refine g_iadd (n := 257) (z := i + 2) X dL_law_256 (by omega) rfl ?_
  refine g_scrld (n := 258) (z := u2) X hb (by omega) (by omega) (by omega) dL_law_257 rfl eu2 ?_
  refine g_callVi (n := 261) (As := [gJ u1, gJ u2]) (rest := []) (cs1 := cs) (ss1 := ss) X (s_X12_parish u1 (by omega) u2 (by omega) hsz IM2 CM2 ) okX12_parish kw_6_99 ⟨kw_6_100, kw_6_101⟩ ⟨rfl, rfl⟩ ⟨Nat.le_of_ble_eq_true rfl, Nat.le_of_ble_eq_true rfl⟩ rfl (by decide) (gsz hsz (by decide)) lay_190 rfl rfl (Nat.le_of_ble_eq_true rfl) hRm rfl rfl dL_law_258 rfl (fun v4 M5 P6 => ?_)
  obtain ⟨rv4, IM5, CM5, FM5, xM5⟩ := P6
  refine g_pop (n := 262) X dL_law_261 rfl rfl ?_
  refine g_goto (tgt := 1992) X dL_law_262 (by decide) ?_
  exact kk _ _ _ _ ⟨hsz, IM5, CM5, (gW.fr (S := 35184372088834) W ⟨sz, hsz, I⟩ (gFr.c (gFr.c gFr.rf FM2 rfl) FM5 rfl) rfl), (by rw [((gFr.at FM5 rc_1_13.2.2 rfl).trans (gFr.at FM2 rc_1_13.2.2 rfl))]; exact LA), (by rw [((gFr.at FM5 (rs_NA (k := 4) (by omega)).2.2 rfl).trans (gFr.at FM2 (rs_NA (k := 4) (by omega)).2.2 rfl))]; exact LB), (lwK.fr LK ((gFr.c (gFr.c gFr.rf FM2 rfl) FM5 rfl) : gFr 35184372088834 M M5) rfl), ⟨(rl_now.fr (rl_now.fr LR.1 hN FM2 rfl) (gN_of hsz IM2) FM5 rfl), (rl_npers.fr (rl_npers.fr LR.2.1 hN FM2 rfl) (gN_of hsz IM2) FM5 rfl), (rl_sex.fr (rl_sex.fr LR.2.2.1 hN FM2 rfl) (gN_of hsz IM2) FM5 rfl), (rl_born.fr (rl_born.fr LR.2.2.2.1 hN FM2 rfl) (gN_of hsz IM2) FM5 rfl), (rl_nright.fr (rl_nright.fr LR.2.2.2.2.1 hN FM2 rfl) (gN_of hsz IM2) FM5 rfl), (rl_nent.fr (rl_nent.fr LR.2.2.2.2.2.1 hN FM2 rfl) (gN_of hsz IM2) FM5 rfl), (rl_rkind.fr (rl_rkind.fr LR.2.2.2.2.2.2.1 hN FM2 rfl) (gN_of hsz IM2) FM5 rfl), (rl_rwho.fr (rl_rwho.fr LR.2.2.2.2.2.2.2.1 hN FM2 rfl) (gN_of hsz IM2) FM5 rfl), (rl_rto.fr (rl_rto.fr LR.2.2.2.2.2.2.2.2.1 hN FM2 rfl) (gN_of hsz IM2) FM5 rfl), (rl_rn.fr (rl_rn.fr LR.2.2.2.2.2.2.2.2.2.1 hN FM2 rfl) (gN_of hsz IM2) FM5 rfl), (rl_rweek.fr (rl_rweek.fr LR.2.2.2.2.2.2.2.2.2.2.1 hN FM2 rfl) (gN_of hsz IM2) FM5 rfl), (rl_rsure.fr (rl_rsure.fr LR.2.2.2.2.2.2.2.2.2.2.2.1 hN FM2 rfl) (gN_of hsz IM2) FM5 rfl), (rl_proofs.fr (rl_proofs.fr LR.2.2.2.2.2.2.2.2.2.2.2.2 hN FM2 rfl) (gN_of hsz IM2) FM5 rfl)⟩⟩
theorem dL_law_265 : decode code 265 = .ok (.aload_n 1, 1) := dc_43 (by decide +kernel)
theorem dL_law_266 : decode code 266 = .ok (.aload_n 0, 1) := dc_42 (by decide +kernel)
theorem dL_law_267 : decode code 267 = .ok (.iload_n 3, 1) := dc_29 (by decide +kernel)
theorem dL_law_268 : decode code 268 = .ok (.iconst 1, 1) := dc_4 (by decide +kernel)
theorem dL_law_269 : decode code 269 = .ok (.iadd, 1) := dc_96 (by decide +kernel)
theorem dL_law_270 : decode code 270 = .ok (.iaload, 1) := dc_46 (by decide +kernel)
theorem dL_law_271 : decode code 271 = .ok (.aload_n 0, 1) := dc_42 (by decide +kernel)
theorem dL_law_272 : decode code 272 = .ok (.iload_n 3, 1) := dc_29 (by decide +kernel)
theorem dL_law_273 : decode code 273 = .ok (.iconst 2, 1) := dc_5 (by decide +kernel)
theorem dL_law_274 : decode code 274 = .ok (.iadd, 1) := dc_96 (by decide +kernel)
theorem dL_law_275 : decode code 275 = .ok (.iaload, 1) := dc_46 (by decide +kernel)
theorem dL_law_276 : decode code 276 = .ok (.aload_n 0, 1) := dc_42 (by decide +kernel)
theorem dL_law_277 : decode code 277 = .ok (.iload_n 3, 1) := dc_29 (by decide +kernel)
theorem dL_law_278 : decode code 278 = .ok (.iconst 3, 1) := dc_6 (by decide +kernel)
theorem dL_law_279 : decode code 279 = .ok (.iadd, 1) := dc_96 (by decide +kernel)
theorem dL_law_280 : decode code 280 = .ok (.iaload, 1) := dc_46 (by decide +kernel)
theorem dL_law_281 : decode code 281 = .ok (.invokevirtual 18, 3) := dc_182 0 18 (by decide +kernel)
theorem kw_3_32 : (Jvm.Cond.methodLink "ParishUnionLaw" (18 : Nat) ({ cls := "ParishUnion", name := "road", desc := "(III)I" } : Jvm.MethodName)) ∈ gT := gT_of (tb_3 _ (List.mem_of_getElem? (i := 32) rfl)) rfl
theorem kw_3_35 : (Jvm.Cond.code ({ cls := "ParishUnion", name := "road", desc := "(III)I" } : Jvm.MethodName) prog_1_method_3_code (4 : Nat) (Option.some Jvm.ClassFile.FieldType.int)) ∈ gT := gT_of (tb_3 _ (List.mem_of_getElem? (i := 35) rfl)) rfl
theorem okX11_road : gQok yX11_road cX11_road 4 (Option.some Jvm.ClassFile.FieldType.int) 3 := ⟨kw_3_35, kw_1_1, by decide +kernel, by decide +kernel, by decide +kernel⟩
theorem kw_3_33 : (Jvm.Cond.instanceMethod ({ cls := "ParishUnion", name := "road", desc := "(III)I" } : Jvm.MethodName)) ∈ gT := gT_of (tb_3 _ (List.mem_of_getElem? (i := 33) rfl)) rfl
theorem kw_3_34 : (Jvm.Cond.selects "ParishUnion" ({ cls := "ParishUnion", name := "road", desc := "(III)I" } : Jvm.MethodName) ({ cls := "ParishUnion", name := "road", desc := "(III)I" } : Jvm.MethodName)) ∈ gT := gT_of (tb_3 _ (List.mem_of_getElem? (i := 34) rfl)) rfl
theorem dL_law_284 : decode code 284 = .ok (.pop, 1) := dc_87 (by decide +kernel)
theorem dL_law_285 : decode code 285 = .ok (.aload_n 2, 1) := dc_44 (by decide +kernel)
theorem dL_law_286 : decode code 286 = .ok (.aload_n 0, 1) := dc_42 (by decide +kernel)
theorem dL_law_287 : decode code 287 = .ok (.iload_n 3, 1) := dc_29 (by decide +kernel)
theorem dL_law_288 : decode code 288 = .ok (.iconst 1, 1) := dc_4 (by decide +kernel)
theorem dL_law_289 : decode code 289 = .ok (.iadd, 1) := dc_96 (by decide +kernel)
theorem dL_law_290 : decode code 290 = .ok (.iaload, 1) := dc_46 (by decide +kernel)
theorem dL_law_291 : decode code 291 = .ok (.aload_n 0, 1) := dc_42 (by decide +kernel)
theorem dL_law_292 : decode code 292 = .ok (.iload_n 3, 1) := dc_29 (by decide +kernel)
theorem dL_law_293 : decode code 293 = .ok (.iconst 2, 1) := dc_5 (by decide +kernel)
theorem dL_law_294 : decode code 294 = .ok (.iadd, 1) := dc_96 (by decide +kernel)
theorem dL_law_295 : decode code 295 = .ok (.iaload, 1) := dc_46 (by decide +kernel)
theorem dL_law_296 : decode code 296 = .ok (.aload_n 0, 1) := dc_42 (by decide +kernel)
theorem dL_law_297 : decode code 297 = .ok (.iload_n 3, 1) := dc_29 (by decide +kernel)
theorem dL_law_298 : decode code 298 = .ok (.iconst 3, 1) := dc_6 (by decide +kernel)
theorem dL_law_299 : decode code 299 = .ok (.iadd, 1) := dc_96 (by decide +kernel)
theorem dL_law_300 : decode code 300 = .ok (.iaload, 1) := dc_46 (by decide +kernel)
theorem dL_law_301 : decode code 301 = .ok (.invokevirtual 22, 3) := dc_182 0 22 (by decide +kernel)
theorem kw_6_109 : (Jvm.Cond.methodLink "ParishUnionLaw" (22 : Nat) ({ cls := "ParishUnionModel", name := "road", desc := "(III)I" } : Jvm.MethodName)) ∈ gT := gT_of (tb_6 _ (List.mem_of_getElem? (i := 109) rfl)) rfl
theorem kw_6_112 : (Jvm.Cond.code ({ cls := "ParishUnionModel", name := "road", desc := "(III)I" } : Jvm.MethodName) prog_14_method_11_code (10 : Nat) (Option.some Jvm.ClassFile.FieldType.int)) ∈ gT := gT_of (tb_6 _ (List.mem_of_getElem? (i := 112) rfl)) rfl
theorem okX12_road : gQok yX12_road cX12_road 10 (Option.some Jvm.ClassFile.FieldType.int) 3 := ⟨kw_6_112, kw_1_13, by decide +kernel, by decide +kernel, by decide +kernel⟩
theorem kw_6_110 : (Jvm.Cond.instanceMethod ({ cls := "ParishUnionModel", name := "road", desc := "(III)I" } : Jvm.MethodName)) ∈ gT := gT_of (tb_6 _ (List.mem_of_getElem? (i := 110) rfl)) rfl
theorem kw_6_111 : (Jvm.Cond.selects "ParishUnionModel" ({ cls := "ParishUnionModel", name := "road", desc := "(III)I" } : Jvm.MethodName) ({ cls := "ParishUnionModel", name := "road", desc := "(III)I" } : Jvm.MethodName)) ∈ gT := gT_of (tb_6 _ (List.mem_of_getElem? (i := 111) rfl)) rfl
theorem dL_law_304 : decode code 304 = .ok (.pop, 1) := dc_87 (by decide +kernel)
theorem dL_law_305 : decode code 305 = .ok (.goto 1687, 3) := dc_167 6 151 1687 (by decide +kernel)
set_option maxRecDepth 100000 in
set_option maxHeartbeats 4000000 in
theorem law_case_1 {p : Program} {e : Env} {s : State} {m : MethodId} {below : List Frame} {meth : Method} {cd : Code} {l : Launch} {D : va_G} {cA : Nat → ClassId} {b Ln : Nat} {xs : Nat → Int32} (X : gCx p s m #[Value.ref b] meth cd s.heap.size D cA "ParishUnionLaw" code 4) (hr : meth.sig.returnType = ret) (hb : b < s.heap.size ∧ va_X b Ln xs s s.heap) (hLn : Ln ≤ 3584) {sz cs ss : Nat} {M : gM} (L : lwI sz cs ss M) (i : Int) (hi : 0 ≤ i ∧ i + 7 ≤ (Ln : Int)) (kk : ∀ (sz cs ss : Nat) (M1 : gM), lwI sz cs ss M1 → G p l e room_1 s m #[Value.ref b] below meth cd s.heap.size D cA 4 (lw_Z below #[Value.ref b] s) cs ss M1 sz 1992 [(3, gJ i), (2, gA s.heap.size 190), (1, gA s.heap.size 0), (0, .ref b)] []) : G p l e room_1 s m #[Value.ref b] below meth cd s.heap.size D cA 4 (lw_Z below #[Value.ref b] s) cs ss M sz 265 [(3, gJ i), (2, gA s.heap.size 190), (1, gA s.heap.size 0), (0, .ref b)] [] := by
  obtain ⟨hsz, I, C, W, LA, LB, LK, LR⟩ := L
  have hN := gN_of hsz I
  obtain ⟨ac, hac, rac⟩ : ∃ v : Int, M 1 13 = v ∧ (0 ≤ v ∧ v ≤ 10) := by
    obtain ⟨v, hv, rv⟩ := gRd I (by decide) (gsz hsz (by decide)) rc_1_13.1
    exact ⟨v, hv, by omega⟩
  obtain ⟨ab, hab, rab⟩ : ∃ v : Int, M 191 4 = v ∧ (0 ≤ v ∧ v ≤ 10) := by
    obtain ⟨v, hv, rv⟩ := gRd I (by decide) (gsz hsz (by decide)) (rs_NA (k := 4) (by omega)).1
    exact ⟨v, hv, by omega⟩
  have hRm : cs + 0 ≤ room_1.cells ∧ ss + 0 ≤ room_1.slots := by
    show cs + 0 ≤ 349274 ∧ ss + 0 ≤ 8054428
    have := lwK.room LK
    omega
  obtain ⟨u1, eu1, ru1⟩ : ∃ z : Int, xs (i + 1).toNat = Int32.ofInt z ∧ (-2147483648 ≤ z ∧ z ≤ 2147483647) := ⟨_, gi_of _, gi_rg _⟩
  obtain ⟨u2, eu2, ru2⟩ : ∃ z : Int, xs (i + 2).toNat = Int32.ofInt z ∧ (-2147483648 ≤ z ∧ z ≤ 2147483647) := ⟨_, gi_of _, gi_rg _⟩
  obtain ⟨u3, eu3, ru3⟩ : ∃ z : Int, xs (i + 3).toNat = Int32.ofInt z ∧ (-2147483648 ≤ z ∧ z ≤ 2147483647) := ⟨_, gi_of _, gi_rg _⟩
  obtain ⟨u4, eu4, ru4⟩ : ∃ z : Int, xs (i + 4).toNat = Int32.ofInt z ∧ (-2147483648 ≤ z ∧ z ≤ 2147483647) := ⟨_, gi_of _, gi_rg _⟩
  obtain ⟨u5, eu5, ru5⟩ : ∃ z : Int, xs (i + 5).toNat = Int32.ofInt z ∧ (-2147483648 ≤ z ∧ z ≤ 2147483647) := ⟨_, gi_of _, gi_rg _⟩
  obtain ⟨u6, eu6, ru6⟩ : ∃ z : Int, xs (i + 6).toNat = Int32.ofInt z ∧ (-2147483648 ≤ z ∧ z ≤ 2147483647) := ⟨_, gi_of _, gi_rg _⟩
  refine g_aload_n (n := 266) X 2 dL_law_265 rfl rfl rfl ?_
  refine g_aload_n (n := 267) X 3 dL_law_266 rfl rfl rfl ?_
  refine g_iload_n (n := 268) X 0 dL_law_267 rfl rfl rfl ?_
  refine g_iconst (n := 269) X dL_law_268 rfl ?_
  refine g_iadd (n := 270) (z := i + 1) X dL_law_269 (by omega) rfl ?_
  refine g_scrld (n := 271) (z := u1) X hb (by omega) (by omega) (by omega) dL_law_270 rfl eu1 ?_
  refine g_aload_n (n := 272) X 3 dL_law_271 rfl rfl rfl ?_
  refine g_iload_n (n := 273) X 0 dL_law_272 rfl rfl rfl ?_
  refine g_iconst (n := 274) X dL_law_273 rfl ?_
  refine g_iadd (n := 275) (z := i + 2) X dL_law_274 (by omega) rfl ?_
  refine g_scrld (n := 276) (z := u2) X hb (by omega) (by omega) (by omega) dL_law_275 rfl eu2 ?_
  refine g_aload_n (n := 277) X 3 dL_law_276 rfl rfl rfl ?_
  refine g_iload_n (n := 278) X 0 dL_law_277 rfl rfl rfl ?_
  refine g_iconst (n := 279) X dL_law_278 rfl ?_
  refine g_iadd (n := 280) (z := i + 3) X dL_law_279 (by omega) rfl ?_
  refine g_scrld (n := 281) (z := u3) X hb (by omega) (by omega) (by omega) dL_law_280 rfl eu3 ?_
  refine g_callVi (n := 284) (As := [gJ u1, gJ u2, gJ u3]) (rest := []) (cs1 := cs) (ss1 := ss) X (s_X11_road u1 (by omega) u2 (by omega) u3 (by omega) hsz I C ) okX11_road kw_3_32 ⟨kw_3_33, kw_3_34⟩ ⟨rfl, rfl⟩ ⟨Nat.le_of_ble_eq_true rfl, Nat.le_of_ble_eq_true rfl⟩ rfl (by decide) (gsz hsz (by decide)) lay_0 rfl rfl (Nat.le_of_ble_eq_true rfl) hRm rfl rfl dL_law_281 rfl (fun v1 M2 P3 => ?_)
  obtain ⟨rv1, IM2, CM2, FM2⟩ := P3
  refine g_pop (n := 285) X dL_law_284 rfl rfl ?_
  refine g_aload_n (n := 286) X 1 dL_law_285 rfl rfl rfl ?_
  refine g_aload_n (n := 287) X 3 dL_law_286 rfl rfl rfl ?_
  refine g_iload_n (n := 288) X 0 dL_law_287 rfl rfl rfl ?_
  refine g_iconst (n := 289) X dL_law_288 rfl ?_
  refine g_iadd (n := 290) (z := i + 1) X dL_law_289 (by omega) rfl ?_
  refine g_scrld (n := 291) (z := u1) X hb (by omega) (by omega) (by omega) dL_law_290 rfl eu1 ?_
  refine g_aload_n (n := 292) X 3 dL_law_291 rfl rfl rfl ?_
  refine g_iload_n (n := 293) X 0 dL_law_292 rfl rfl rfl ?_
  refine g_iconst (n := 294) X dL_law_293 rfl ?_
  refine g_iadd (n := 295) (z := i + 2) X dL_law_294 (by omega) rfl ?_
  refine g_scrld (n := 296) (z := u2) X hb (by omega) (by omega) (by omega) dL_law_295 rfl eu2 ?_
  refine g_aload_n (n := 297) X 3 dL_law_296 rfl rfl rfl ?_
  refine g_iload_n (n := 298) X 0 dL_law_297 rfl rfl rfl ?_
  refine g_iconst (n := 299) X dL_law_298 rfl ?_
  refine g_iadd (n := 300) (z := i + 3) X dL_law_299 (by omega) rfl ?_
  refine g_scrld (n := 301) (z := u3) X hb (by omega) (by omega) (by omega) dL_law_300 rfl eu3 ?_
  refine g_callVi (n := 304) (As := [gJ u1, gJ u2, gJ u3]) (rest := []) (cs1 := cs) (ss1 := ss) X (s_X12_road u1 (by omega) u2 (by omega) u3 (by omega) hsz IM2 CM2 ) okX12_road kw_6_109 ⟨kw_6_110, kw_6_111⟩ ⟨rfl, rfl⟩ ⟨Nat.le_of_ble_eq_true rfl, Nat.le_of_ble_eq_true rfl⟩ rfl (by decide) (gsz hsz (by decide)) lay_190 rfl rfl (Nat.le_of_ble_eq_true rfl) hRm rfl rfl dL_law_301 rfl (fun v4 M5 P6 => ?_)
  obtain ⟨rv4, IM5, CM5, FM5⟩ := P6
  refine g_pop (n := 305) X dL_law_304 rfl rfl ?_
  refine g_goto (tgt := 1992) X dL_law_305 (by decide) ?_
  exact kk _ _ _ _ ⟨hsz, IM5, CM5, (gW.fr (S := 36893558516163280900) W ⟨sz, hsz, I⟩ (gFr.c (gFr.c gFr.rf FM2 rfl) FM5 rfl) rfl), (by rw [((gFr.at FM5 rc_1_13.2.2 rfl).trans (gFr.at FM2 rc_1_13.2.2 rfl))]; exact LA), (by rw [((gFr.at FM5 (rs_NA (k := 4) (by omega)).2.2 rfl).trans (gFr.at FM2 (rs_NA (k := 4) (by omega)).2.2 rfl))]; exact LB), (lwK.fr LK ((gFr.c (gFr.c gFr.rf FM2 rfl) FM5 rfl) : gFr 36893558516163280900 M M5) rfl), ⟨(rl_now.fr (rl_now.fr LR.1 hN FM2 rfl) (gN_of hsz IM2) FM5 rfl), (rl_npers.fr (rl_npers.fr LR.2.1 hN FM2 rfl) (gN_of hsz IM2) FM5 rfl), (rl_sex.fr (rl_sex.fr LR.2.2.1 hN FM2 rfl) (gN_of hsz IM2) FM5 rfl), (rl_born.fr (rl_born.fr LR.2.2.2.1 hN FM2 rfl) (gN_of hsz IM2) FM5 rfl), (rl_nright.fr (rl_nright.fr LR.2.2.2.2.1 hN FM2 rfl) (gN_of hsz IM2) FM5 rfl), (rl_nent.fr (rl_nent.fr LR.2.2.2.2.2.1 hN FM2 rfl) (gN_of hsz IM2) FM5 rfl), (rl_rkind.fr (rl_rkind.fr LR.2.2.2.2.2.2.1 hN FM2 rfl) (gN_of hsz IM2) FM5 rfl), (rl_rwho.fr (rl_rwho.fr LR.2.2.2.2.2.2.2.1 hN FM2 rfl) (gN_of hsz IM2) FM5 rfl), (rl_rto.fr (rl_rto.fr LR.2.2.2.2.2.2.2.2.1 hN FM2 rfl) (gN_of hsz IM2) FM5 rfl), (rl_rn.fr (rl_rn.fr LR.2.2.2.2.2.2.2.2.2.1 hN FM2 rfl) (gN_of hsz IM2) FM5 rfl), (rl_rweek.fr (rl_rweek.fr LR.2.2.2.2.2.2.2.2.2.2.1 hN FM2 rfl) (gN_of hsz IM2) FM5 rfl), (rl_rsure.fr (rl_rsure.fr LR.2.2.2.2.2.2.2.2.2.2.2.1 hN FM2 rfl) (gN_of hsz IM2) FM5 rfl), (rl_proofs.fr (rl_proofs.fr LR.2.2.2.2.2.2.2.2.2.2.2.2 hN FM2 rfl) (gN_of hsz IM2) FM5 rfl)⟩⟩
theorem dL_law_308 : decode code 308 = .ok (.aload_n 1, 1) := dc_43 (by decide +kernel)
theorem dL_law_309 : decode code 309 = .ok (.aload_n 0, 1) := dc_42 (by decide +kernel)
theorem dL_law_310 : decode code 310 = .ok (.iload_n 3, 1) := dc_29 (by decide +kernel)
theorem dL_law_311 : decode code 311 = .ok (.iconst 1, 1) := dc_4 (by decide +kernel)
theorem dL_law_312 : decode code 312 = .ok (.iadd, 1) := dc_96 (by decide +kernel)
theorem dL_law_313 : decode code 313 = .ok (.iaload, 1) := dc_46 (by decide +kernel)
theorem dL_law_314 : decode code 314 = .ok (.aload_n 0, 1) := dc_42 (by decide +kernel)
theorem dL_law_315 : decode code 315 = .ok (.iload_n 3, 1) := dc_29 (by decide +kernel)
theorem dL_law_316 : decode code 316 = .ok (.iconst 2, 1) := dc_5 (by decide +kernel)
theorem dL_law_317 : decode code 317 = .ok (.iadd, 1) := dc_96 (by decide +kernel)
theorem dL_law_318 : decode code 318 = .ok (.iaload, 1) := dc_46 (by decide +kernel)
theorem dL_law_319 : decode code 319 = .ok (.invokevirtual 23, 3) := dc_182 0 23 (by decide +kernel)
theorem kw_3_47 : (Jvm.Cond.methodLink "ParishUnionLaw" (23 : Nat) ({ cls := "ParishUnion", name := "far", desc := "(II)I" } : Jvm.MethodName)) ∈ gT := gT_of (tb_3 _ (List.mem_of_getElem? (i := 47) rfl)) rfl
theorem kw_3_50 : (Jvm.Cond.code ({ cls := "ParishUnion", name := "far", desc := "(II)I" } : Jvm.MethodName) prog_1_method_4_code (3 : Nat) (Option.some Jvm.ClassFile.FieldType.int)) ∈ gT := gT_of (tb_3 _ (List.mem_of_getElem? (i := 50) rfl)) rfl
theorem okX11_far : gQok yX11_far cX11_far 3 (Option.some Jvm.ClassFile.FieldType.int) 2 := ⟨kw_3_50, kw_1_1, by decide +kernel, by decide +kernel, by decide +kernel⟩
theorem kw_3_48 : (Jvm.Cond.instanceMethod ({ cls := "ParishUnion", name := "far", desc := "(II)I" } : Jvm.MethodName)) ∈ gT := gT_of (tb_3 _ (List.mem_of_getElem? (i := 48) rfl)) rfl
theorem kw_3_49 : (Jvm.Cond.selects "ParishUnion" ({ cls := "ParishUnion", name := "far", desc := "(II)I" } : Jvm.MethodName) ({ cls := "ParishUnion", name := "far", desc := "(II)I" } : Jvm.MethodName)) ∈ gT := gT_of (tb_3 _ (List.mem_of_getElem? (i := 49) rfl)) rfl
theorem dL_law_322 : decode code 322 = .ok (.pop, 1) := dc_87 (by decide +kernel)
theorem dL_law_323 : decode code 323 = .ok (.aload_n 2, 1) := dc_44 (by decide +kernel)
theorem dL_law_324 : decode code 324 = .ok (.aload_n 0, 1) := dc_42 (by decide +kernel)
theorem dL_law_325 : decode code 325 = .ok (.iload_n 3, 1) := dc_29 (by decide +kernel)
theorem dL_law_326 : decode code 326 = .ok (.iconst 1, 1) := dc_4 (by decide +kernel)
theorem dL_law_327 : decode code 327 = .ok (.iadd, 1) := dc_96 (by decide +kernel)
theorem dL_law_328 : decode code 328 = .ok (.iaload, 1) := dc_46 (by decide +kernel)
theorem dL_law_329 : decode code 329 = .ok (.aload_n 0, 1) := dc_42 (by decide +kernel)
theorem dL_law_330 : decode code 330 = .ok (.iload_n 3, 1) := dc_29 (by decide +kernel)
theorem dL_law_331 : decode code 331 = .ok (.iconst 2, 1) := dc_5 (by decide +kernel)
theorem dL_law_332 : decode code 332 = .ok (.iadd, 1) := dc_96 (by decide +kernel)
theorem dL_law_333 : decode code 333 = .ok (.iaload, 1) := dc_46 (by decide +kernel)
theorem dL_law_334 : decode code 334 = .ok (.invokevirtual 26, 3) := dc_182 0 26 (by decide +kernel)
theorem kw_6_117 : (Jvm.Cond.methodLink "ParishUnionLaw" (26 : Nat) ({ cls := "ParishUnionModel", name := "far", desc := "(II)I" } : Jvm.MethodName)) ∈ gT := gT_of (tb_6 _ (List.mem_of_getElem? (i := 117) rfl)) rfl
theorem kw_6_120 : (Jvm.Cond.code ({ cls := "ParishUnionModel", name := "far", desc := "(II)I" } : Jvm.MethodName) prog_14_method_12_code (3 : Nat) (Option.some Jvm.ClassFile.FieldType.int)) ∈ gT := gT_of (tb_6 _ (List.mem_of_getElem? (i := 120) rfl)) rfl
theorem okX12_far : gQok yX12_far cX12_far 3 (Option.some Jvm.ClassFile.FieldType.int) 2 := ⟨kw_6_120, kw_1_13, by decide +kernel, by decide +kernel, by decide +kernel⟩
theorem kw_6_118 : (Jvm.Cond.instanceMethod ({ cls := "ParishUnionModel", name := "far", desc := "(II)I" } : Jvm.MethodName)) ∈ gT := gT_of (tb_6 _ (List.mem_of_getElem? (i := 118) rfl)) rfl
theorem kw_6_119 : (Jvm.Cond.selects "ParishUnionModel" ({ cls := "ParishUnionModel", name := "far", desc := "(II)I" } : Jvm.MethodName) ({ cls := "ParishUnionModel", name := "far", desc := "(II)I" } : Jvm.MethodName)) ∈ gT := gT_of (tb_6 _ (List.mem_of_getElem? (i := 119) rfl)) rfl
theorem dL_law_337 : decode code 337 = .ok (.pop, 1) := dc_87 (by decide +kernel)
theorem dL_law_338 : decode code 338 = .ok (.goto 1654, 3) := dc_167 6 118 1654 (by decide +kernel)
set_option maxRecDepth 100000 in
set_option maxHeartbeats 4000000 in
theorem law_case_2 {p : Program} {e : Env} {s : State} {m : MethodId} {below : List Frame} {meth : Method} {cd : Code} {l : Launch} {D : va_G} {cA : Nat → ClassId} {b Ln : Nat} {xs : Nat → Int32} (X : gCx p s m #[Value.ref b] meth cd s.heap.size D cA "ParishUnionLaw" code 4) (hr : meth.sig.returnType = ret) (hb : b < s.heap.size ∧ va_X b Ln xs s s.heap) (hLn : Ln ≤ 3584) {sz cs ss : Nat} {M : gM} (L : lwI sz cs ss M) (i : Int) (hi : 0 ≤ i ∧ i + 7 ≤ (Ln : Int)) (kk : ∀ (sz cs ss : Nat) (M1 : gM), lwI sz cs ss M1 → G p l e room_1 s m #[Value.ref b] below meth cd s.heap.size D cA 4 (lw_Z below #[Value.ref b] s) cs ss M1 sz 1992 [(3, gJ i), (2, gA s.heap.size 190), (1, gA s.heap.size 0), (0, .ref b)] []) : G p l e room_1 s m #[Value.ref b] below meth cd s.heap.size D cA 4 (lw_Z below #[Value.ref b] s) cs ss M sz 308 [(3, gJ i), (2, gA s.heap.size 190), (1, gA s.heap.size 0), (0, .ref b)] [] := by
  obtain ⟨hsz, I, C, W, LA, LB, LK, LR⟩ := L
  have hN := gN_of hsz I
  obtain ⟨ac, hac, rac⟩ : ∃ v : Int, M 1 13 = v ∧ (0 ≤ v ∧ v ≤ 10) := by
    obtain ⟨v, hv, rv⟩ := gRd I (by decide) (gsz hsz (by decide)) rc_1_13.1
    exact ⟨v, hv, by omega⟩
  obtain ⟨ab, hab, rab⟩ : ∃ v : Int, M 191 4 = v ∧ (0 ≤ v ∧ v ≤ 10) := by
    obtain ⟨v, hv, rv⟩ := gRd I (by decide) (gsz hsz (by decide)) (rs_NA (k := 4) (by omega)).1
    exact ⟨v, hv, by omega⟩
  have hRm : cs + 0 ≤ room_1.cells ∧ ss + 0 ≤ room_1.slots := by
    show cs + 0 ≤ 349274 ∧ ss + 0 ≤ 8054428
    have := lwK.room LK
    omega
  obtain ⟨u1, eu1, ru1⟩ : ∃ z : Int, xs (i + 1).toNat = Int32.ofInt z ∧ (-2147483648 ≤ z ∧ z ≤ 2147483647) := ⟨_, gi_of _, gi_rg _⟩
  obtain ⟨u2, eu2, ru2⟩ : ∃ z : Int, xs (i + 2).toNat = Int32.ofInt z ∧ (-2147483648 ≤ z ∧ z ≤ 2147483647) := ⟨_, gi_of _, gi_rg _⟩
  obtain ⟨u3, eu3, ru3⟩ : ∃ z : Int, xs (i + 3).toNat = Int32.ofInt z ∧ (-2147483648 ≤ z ∧ z ≤ 2147483647) := ⟨_, gi_of _, gi_rg _⟩
  obtain ⟨u4, eu4, ru4⟩ : ∃ z : Int, xs (i + 4).toNat = Int32.ofInt z ∧ (-2147483648 ≤ z ∧ z ≤ 2147483647) := ⟨_, gi_of _, gi_rg _⟩
  obtain ⟨u5, eu5, ru5⟩ : ∃ z : Int, xs (i + 5).toNat = Int32.ofInt z ∧ (-2147483648 ≤ z ∧ z ≤ 2147483647) := ⟨_, gi_of _, gi_rg _⟩
  obtain ⟨u6, eu6, ru6⟩ : ∃ z : Int, xs (i + 6).toNat = Int32.ofInt z ∧ (-2147483648 ≤ z ∧ z ≤ 2147483647) := ⟨_, gi_of _, gi_rg _⟩
  refine g_aload_n (n := 309) X 2 dL_law_308 rfl rfl rfl ?_
  refine g_aload_n (n := 310) X 3 dL_law_309 rfl rfl rfl ?_
  refine g_iload_n (n := 311) X 0 dL_law_310 rfl rfl rfl ?_
  refine g_iconst (n := 312) X dL_law_311 rfl ?_
  refine g_iadd (n := 313) (z := i + 1) X dL_law_312 (by omega) rfl ?_
  refine g_scrld (n := 314) (z := u1) X hb (by omega) (by omega) (by omega) dL_law_313 rfl eu1 ?_
  refine g_aload_n (n := 315) X 3 dL_law_314 rfl rfl rfl ?_
  refine g_iload_n (n := 316) X 0 dL_law_315 rfl rfl rfl ?_
  refine g_iconst (n := 317) X dL_law_316 rfl ?_
  refine g_iadd (n := 318) (z := i + 2) X dL_law_317 (by omega) rfl ?_
  refine g_scrld (n := 319) (z := u2) X hb (by omega) (by omega) (by omega) dL_law_318 rfl eu2 ?_
  refine g_callVi (n := 322) (As := [gJ u1, gJ u2]) (rest := []) (cs1 := cs) (ss1 := ss) X (s_X11_far u1 (by omega) u2 (by omega) hsz I C ) okX11_far kw_3_47 ⟨kw_3_48, kw_3_49⟩ ⟨rfl, rfl⟩ ⟨Nat.le_of_ble_eq_true rfl, Nat.le_of_ble_eq_true rfl⟩ rfl (by decide) (gsz hsz (by decide)) lay_0 rfl rfl (Nat.le_of_ble_eq_true rfl) hRm rfl rfl dL_law_319 rfl (fun v1 M2 P3 => ?_)
  obtain ⟨rfl, rv1⟩ := P3
  refine g_pop (n := 323) X dL_law_322 rfl rfl ?_
  refine g_aload_n (n := 324) X 1 dL_law_323 rfl rfl rfl ?_
  refine g_aload_n (n := 325) X 3 dL_law_324 rfl rfl rfl ?_
  refine g_iload_n (n := 326) X 0 dL_law_325 rfl rfl rfl ?_
  refine g_iconst (n := 327) X dL_law_326 rfl ?_
  refine g_iadd (n := 328) (z := i + 1) X dL_law_327 (by omega) rfl ?_
  refine g_scrld (n := 329) (z := u1) X hb (by omega) (by omega) (by omega) dL_law_328 rfl eu1 ?_
  refine g_aload_n (n := 330) X 3 dL_law_329 rfl rfl rfl ?_
  refine g_iload_n (n := 331) X 0 dL_law_330 rfl rfl rfl ?_
  refine g_iconst (n := 332) X dL_law_331 rfl ?_
  refine g_iadd (n := 333) (z := i + 2) X dL_law_332 (by omega) rfl ?_
  refine g_scrld (n := 334) (z := u2) X hb (by omega) (by omega) (by omega) dL_law_333 rfl eu2 ?_
  refine g_callVi (n := 337) (As := [gJ u1, gJ u2]) (rest := []) (cs1 := cs) (ss1 := ss) X (s_X12_far u1 (by omega) u2 (by omega) hsz I C ) okX12_far kw_6_117 ⟨kw_6_118, kw_6_119⟩ ⟨rfl, rfl⟩ ⟨Nat.le_of_ble_eq_true rfl, Nat.le_of_ble_eq_true rfl⟩ rfl (by decide) (gsz hsz (by decide)) lay_190 rfl rfl (Nat.le_of_ble_eq_true rfl) hRm rfl rfl dL_law_334 rfl (fun v4 M5 P6 => ?_)
  obtain ⟨rfl, rv4⟩ := P6
  refine g_pop (n := 338) X dL_law_337 rfl rfl ?_
  refine g_goto (tgt := 1992) X dL_law_338 (by decide) ?_
  exact kk _ _ _ _ ⟨hsz, I, C, W, LA, LB, (lwK.fr LK (gFr.rf : gFr 0 M M) rfl), ⟨LR.1, LR.2.1, LR.2.2.1, LR.2.2.2.1, LR.2.2.2.2.1, LR.2.2.2.2.2.1, LR.2.2.2.2.2.2.1, LR.2.2.2.2.2.2.2.1, LR.2.2.2.2.2.2.2.2.1, LR.2.2.2.2.2.2.2.2.2.1, LR.2.2.2.2.2.2.2.2.2.2.1, LR.2.2.2.2.2.2.2.2.2.2.2.1, LR.2.2.2.2.2.2.2.2.2.2.2.2⟩⟩
theorem dL_law_341 : decode code 341 = .ok (.aload_n 1, 1) := dc_43 (by decide +kernel)
theorem dL_law_342 : decode code 342 = .ok (.aload_n 0, 1) := dc_42 (by decide +kernel)
theorem dL_law_343 : decode code 343 = .ok (.iload_n 3, 1) := dc_29 (by decide +kernel)
theorem dL_law_344 : decode code 344 = .ok (.iconst 1, 1) := dc_4 (by decide +kernel)
theorem dL_law_345 : decode code 345 = .ok (.iadd, 1) := dc_96 (by decide +kernel)
theorem dL_law_346 : decode code 346 = .ok (.iaload, 1) := dc_46 (by decide +kernel)
theorem dL_law_347 : decode code 347 = .ok (.aload_n 0, 1) := dc_42 (by decide +kernel)
theorem dL_law_348 : decode code 348 = .ok (.iload_n 3, 1) := dc_29 (by decide +kernel)
theorem dL_law_349 : decode code 349 = .ok (.iconst 2, 1) := dc_5 (by decide +kernel)
theorem dL_law_350 : decode code 350 = .ok (.iadd, 1) := dc_96 (by decide +kernel)
theorem dL_law_351 : decode code 351 = .ok (.iaload, 1) := dc_46 (by decide +kernel)
theorem dL_law_352 : decode code 352 = .ok (.aload_n 0, 1) := dc_42 (by decide +kernel)
theorem dL_law_353 : decode code 353 = .ok (.iload_n 3, 1) := dc_29 (by decide +kernel)
theorem dL_law_354 : decode code 354 = .ok (.iconst 3, 1) := dc_6 (by decide +kernel)
theorem dL_law_355 : decode code 355 = .ok (.iadd, 1) := dc_96 (by decide +kernel)
theorem dL_law_356 : decode code 356 = .ok (.iaload, 1) := dc_46 (by decide +kernel)
theorem dL_law_357 : decode code 357 = .ok (.aload_n 0, 1) := dc_42 (by decide +kernel)
theorem dL_law_358 : decode code 358 = .ok (.iload_n 3, 1) := dc_29 (by decide +kernel)
theorem dL_law_359 : decode code 359 = .ok (.iconst 4, 1) := dc_7 (by decide +kernel)
theorem dL_law_360 : decode code 360 = .ok (.iadd, 1) := dc_96 (by decide +kernel)
theorem dL_law_361 : decode code 361 = .ok (.iaload, 1) := dc_46 (by decide +kernel)
theorem dL_law_362 : decode code 362 = .ok (.aload_n 0, 1) := dc_42 (by decide +kernel)
theorem dL_law_363 : decode code 363 = .ok (.iload_n 3, 1) := dc_29 (by decide +kernel)
theorem dL_law_364 : decode code 364 = .ok (.iconst 5, 1) := dc_8 (by decide +kernel)
theorem dL_law_365 : decode code 365 = .ok (.iadd, 1) := dc_96 (by decide +kernel)
theorem dL_law_366 : decode code 366 = .ok (.iaload, 1) := dc_46 (by decide +kernel)
theorem dL_law_367 : decode code 367 = .ok (.invokevirtual 27, 3) := dc_182 0 27 (by decide +kernel)
theorem kw_3_52 : (Jvm.Cond.methodLink "ParishUnionLaw" (27 : Nat) ({ cls := "ParishUnion", name := "person", desc := "(IIIII)I" } : Jvm.MethodName)) ∈ gT := gT_of (tb_3 _ (List.mem_of_getElem? (i := 52) rfl)) rfl
theorem kw_3_55 : (Jvm.Cond.code ({ cls := "ParishUnion", name := "person", desc := "(IIIII)I" } : Jvm.MethodName) prog_1_method_5_code (7 : Nat) (Option.some Jvm.ClassFile.FieldType.int)) ∈ gT := gT_of (tb_3 _ (List.mem_of_getElem? (i := 55) rfl)) rfl
theorem okX11_person : gQok yX11_person cX11_person 7 (Option.some Jvm.ClassFile.FieldType.int) 5 := ⟨kw_3_55, kw_1_1, by decide +kernel, by decide +kernel, by decide +kernel⟩
theorem kw_3_53 : (Jvm.Cond.instanceMethod ({ cls := "ParishUnion", name := "person", desc := "(IIIII)I" } : Jvm.MethodName)) ∈ gT := gT_of (tb_3 _ (List.mem_of_getElem? (i := 53) rfl)) rfl
theorem kw_3_54 : (Jvm.Cond.selects "ParishUnion" ({ cls := "ParishUnion", name := "person", desc := "(IIIII)I" } : Jvm.MethodName) ({ cls := "ParishUnion", name := "person", desc := "(IIIII)I" } : Jvm.MethodName)) ∈ gT := gT_of (tb_3 _ (List.mem_of_getElem? (i := 54) rfl)) rfl
theorem dL_law_370 : decode code 370 = .ok (.pop, 1) := dc_87 (by decide +kernel)
theorem dL_law_371 : decode code 371 = .ok (.aload_n 2, 1) := dc_44 (by decide +kernel)
theorem dL_law_372 : decode code 372 = .ok (.aload_n 0, 1) := dc_42 (by decide +kernel)
theorem dL_law_373 : decode code 373 = .ok (.iload_n 3, 1) := dc_29 (by decide +kernel)
theorem dL_law_374 : decode code 374 = .ok (.iconst 1, 1) := dc_4 (by decide +kernel)
theorem dL_law_375 : decode code 375 = .ok (.iadd, 1) := dc_96 (by decide +kernel)
theorem dL_law_376 : decode code 376 = .ok (.iaload, 1) := dc_46 (by decide +kernel)
theorem dL_law_377 : decode code 377 = .ok (.aload_n 0, 1) := dc_42 (by decide +kernel)
theorem dL_law_378 : decode code 378 = .ok (.iload_n 3, 1) := dc_29 (by decide +kernel)
theorem dL_law_379 : decode code 379 = .ok (.iconst 2, 1) := dc_5 (by decide +kernel)
theorem dL_law_380 : decode code 380 = .ok (.iadd, 1) := dc_96 (by decide +kernel)
theorem dL_law_381 : decode code 381 = .ok (.iaload, 1) := dc_46 (by decide +kernel)
theorem dL_law_382 : decode code 382 = .ok (.aload_n 0, 1) := dc_42 (by decide +kernel)
theorem dL_law_383 : decode code 383 = .ok (.iload_n 3, 1) := dc_29 (by decide +kernel)
theorem dL_law_384 : decode code 384 = .ok (.iconst 3, 1) := dc_6 (by decide +kernel)
theorem dL_law_385 : decode code 385 = .ok (.iadd, 1) := dc_96 (by decide +kernel)
theorem dL_law_386 : decode code 386 = .ok (.iaload, 1) := dc_46 (by decide +kernel)
theorem dL_law_387 : decode code 387 = .ok (.aload_n 0, 1) := dc_42 (by decide +kernel)
theorem dL_law_388 : decode code 388 = .ok (.iload_n 3, 1) := dc_29 (by decide +kernel)
theorem dL_law_389 : decode code 389 = .ok (.iconst 4, 1) := dc_7 (by decide +kernel)
theorem dL_law_390 : decode code 390 = .ok (.iadd, 1) := dc_96 (by decide +kernel)
theorem dL_law_391 : decode code 391 = .ok (.iaload, 1) := dc_46 (by decide +kernel)
theorem dL_law_392 : decode code 392 = .ok (.aload_n 0, 1) := dc_42 (by decide +kernel)
theorem dL_law_393 : decode code 393 = .ok (.iload_n 3, 1) := dc_29 (by decide +kernel)
theorem dL_law_394 : decode code 394 = .ok (.iconst 5, 1) := dc_8 (by decide +kernel)
theorem dL_law_395 : decode code 395 = .ok (.iadd, 1) := dc_96 (by decide +kernel)
theorem dL_law_396 : decode code 396 = .ok (.iaload, 1) := dc_46 (by decide +kernel)
theorem dL_law_397 : decode code 397 = .ok (.invokevirtual 31, 3) := dc_182 0 31 (by decide +kernel)
theorem kw_6_121 : (Jvm.Cond.methodLink "ParishUnionLaw" (31 : Nat) ({ cls := "ParishUnionModel", name := "person", desc := "(IIIII)I" } : Jvm.MethodName)) ∈ gT := gT_of (tb_6 _ (List.mem_of_getElem? (i := 121) rfl)) rfl
theorem kw_6_124 : (Jvm.Cond.code ({ cls := "ParishUnionModel", name := "person", desc := "(IIIII)I" } : Jvm.MethodName) prog_14_method_13_code (8 : Nat) (Option.some Jvm.ClassFile.FieldType.int)) ∈ gT := gT_of (tb_6 _ (List.mem_of_getElem? (i := 124) rfl)) rfl
theorem okX12_person : gQok yX12_person cX12_person 8 (Option.some Jvm.ClassFile.FieldType.int) 5 := ⟨kw_6_124, kw_1_13, by decide +kernel, by decide +kernel, by decide +kernel⟩
theorem kw_6_122 : (Jvm.Cond.instanceMethod ({ cls := "ParishUnionModel", name := "person", desc := "(IIIII)I" } : Jvm.MethodName)) ∈ gT := gT_of (tb_6 _ (List.mem_of_getElem? (i := 122) rfl)) rfl
theorem kw_6_123 : (Jvm.Cond.selects "ParishUnionModel" ({ cls := "ParishUnionModel", name := "person", desc := "(IIIII)I" } : Jvm.MethodName) ({ cls := "ParishUnionModel", name := "person", desc := "(IIIII)I" } : Jvm.MethodName)) ∈ gT := gT_of (tb_6 _ (List.mem_of_getElem? (i := 123) rfl)) rfl
theorem dL_law_400 : decode code 400 = .ok (.pop, 1) := dc_87 (by decide +kernel)
theorem dL_law_401 : decode code 401 = .ok (.goto 1591, 3) := dc_167 6 55 1591 (by decide +kernel)
set_option maxRecDepth 100000 in
set_option maxHeartbeats 4000000 in
theorem law_case_3 {p : Program} {e : Env} {s : State} {m : MethodId} {below : List Frame} {meth : Method} {cd : Code} {l : Launch} {D : va_G} {cA : Nat → ClassId} {b Ln : Nat} {xs : Nat → Int32} (X : gCx p s m #[Value.ref b] meth cd s.heap.size D cA "ParishUnionLaw" code 4) (hr : meth.sig.returnType = ret) (hb : b < s.heap.size ∧ va_X b Ln xs s s.heap) (hLn : Ln ≤ 3584) {sz cs ss : Nat} {M : gM} (L : lwI sz cs ss M) (i : Int) (hi : 0 ≤ i ∧ i + 7 ≤ (Ln : Int)) (kk : ∀ (sz cs ss : Nat) (M1 : gM), lwI sz cs ss M1 → G p l e room_1 s m #[Value.ref b] below meth cd s.heap.size D cA 4 (lw_Z below #[Value.ref b] s) cs ss M1 sz 1992 [(3, gJ i), (2, gA s.heap.size 190), (1, gA s.heap.size 0), (0, .ref b)] []) : G p l e room_1 s m #[Value.ref b] below meth cd s.heap.size D cA 4 (lw_Z below #[Value.ref b] s) cs ss M sz 341 [(3, gJ i), (2, gA s.heap.size 190), (1, gA s.heap.size 0), (0, .ref b)] [] := by
  obtain ⟨hsz, I, C, W, LA, LB, LK, LR⟩ := L
  have hN := gN_of hsz I
  obtain ⟨ac, hac, rac⟩ : ∃ v : Int, M 1 13 = v ∧ (0 ≤ v ∧ v ≤ 10) := by
    obtain ⟨v, hv, rv⟩ := gRd I (by decide) (gsz hsz (by decide)) rc_1_13.1
    exact ⟨v, hv, by omega⟩
  obtain ⟨ab, hab, rab⟩ : ∃ v : Int, M 191 4 = v ∧ (0 ≤ v ∧ v ≤ 10) := by
    obtain ⟨v, hv, rv⟩ := gRd I (by decide) (gsz hsz (by decide)) (rs_NA (k := 4) (by omega)).1
    exact ⟨v, hv, by omega⟩
  have hRm : cs + 0 ≤ room_1.cells ∧ ss + 0 ≤ room_1.slots := by
    show cs + 0 ≤ 349274 ∧ ss + 0 ≤ 8054428
    have := lwK.room LK
    omega
  obtain ⟨u1, eu1, ru1⟩ : ∃ z : Int, xs (i + 1).toNat = Int32.ofInt z ∧ (-2147483648 ≤ z ∧ z ≤ 2147483647) := ⟨_, gi_of _, gi_rg _⟩
  obtain ⟨u2, eu2, ru2⟩ : ∃ z : Int, xs (i + 2).toNat = Int32.ofInt z ∧ (-2147483648 ≤ z ∧ z ≤ 2147483647) := ⟨_, gi_of _, gi_rg _⟩
  obtain ⟨u3, eu3, ru3⟩ : ∃ z : Int, xs (i + 3).toNat = Int32.ofInt z ∧ (-2147483648 ≤ z ∧ z ≤ 2147483647) := ⟨_, gi_of _, gi_rg _⟩
  obtain ⟨u4, eu4, ru4⟩ : ∃ z : Int, xs (i + 4).toNat = Int32.ofInt z ∧ (-2147483648 ≤ z ∧ z ≤ 2147483647) := ⟨_, gi_of _, gi_rg _⟩
  obtain ⟨u5, eu5, ru5⟩ : ∃ z : Int, xs (i + 5).toNat = Int32.ofInt z ∧ (-2147483648 ≤ z ∧ z ≤ 2147483647) := ⟨_, gi_of _, gi_rg _⟩
  obtain ⟨u6, eu6, ru6⟩ : ∃ z : Int, xs (i + 6).toNat = Int32.ofInt z ∧ (-2147483648 ≤ z ∧ z ≤ 2147483647) := ⟨_, gi_of _, gi_rg _⟩
  refine g_aload_n (n := 342) X 2 dL_law_341 rfl rfl rfl ?_
  refine g_aload_n (n := 343) X 3 dL_law_342 rfl rfl rfl ?_
  refine g_iload_n (n := 344) X 0 dL_law_343 rfl rfl rfl ?_
  refine g_iconst (n := 345) X dL_law_344 rfl ?_
  refine g_iadd (n := 346) (z := i + 1) X dL_law_345 (by omega) rfl ?_
  refine g_scrld (n := 347) (z := u1) X hb (by omega) (by omega) (by omega) dL_law_346 rfl eu1 ?_
  refine g_aload_n (n := 348) X 3 dL_law_347 rfl rfl rfl ?_
  refine g_iload_n (n := 349) X 0 dL_law_348 rfl rfl rfl ?_
  refine g_iconst (n := 350) X dL_law_349 rfl ?_
  refine g_iadd (n := 351) (z := i + 2) X dL_law_350 (by omega) rfl ?_
  refine g_scrld (n := 352) (z := u2) X hb (by omega) (by omega) (by omega) dL_law_351 rfl eu2 ?_
  refine g_aload_n (n := 353) X 3 dL_law_352 rfl rfl rfl ?_
  refine g_iload_n (n := 354) X 0 dL_law_353 rfl rfl rfl ?_
  refine g_iconst (n := 355) X dL_law_354 rfl ?_
  refine g_iadd (n := 356) (z := i + 3) X dL_law_355 (by omega) rfl ?_
  refine g_scrld (n := 357) (z := u3) X hb (by omega) (by omega) (by omega) dL_law_356 rfl eu3 ?_
  refine g_aload_n (n := 358) X 3 dL_law_357 rfl rfl rfl ?_
  refine g_iload_n (n := 359) X 0 dL_law_358 rfl rfl rfl ?_
  refine g_iconst (n := 360) X dL_law_359 rfl ?_
  refine g_iadd (n := 361) (z := i + 4) X dL_law_360 (by omega) rfl ?_
  refine g_scrld (n := 362) (z := u4) X hb (by omega) (by omega) (by omega) dL_law_361 rfl eu4 ?_
  refine g_aload_n (n := 363) X 3 dL_law_362 rfl rfl rfl ?_
  refine g_iload_n (n := 364) X 0 dL_law_363 rfl rfl rfl ?_
  refine g_iconst (n := 365) X dL_law_364 rfl ?_
  refine g_iadd (n := 366) (z := i + 5) X dL_law_365 (by omega) rfl ?_
  refine g_scrld (n := 367) (z := u5) X hb (by omega) (by omega) (by omega) dL_law_366 rfl eu5 ?_
  refine g_callVi (n := 370) (As := [gJ u1, gJ u2, gJ u3, gJ u4, gJ u5]) (rest := []) (cs1 := cs) (ss1 := ss) X (s_X11_person u1 (by omega) u2 (by omega) u3 (by omega) u4 (by omega) u5 (by omega) hsz I C ) okX11_person kw_3_52 ⟨kw_3_53, kw_3_54⟩ ⟨rfl, rfl⟩ ⟨Nat.le_of_ble_eq_true rfl, Nat.le_of_ble_eq_true rfl⟩ rfl (by decide) (gsz hsz (by decide)) lay_0 rfl rfl (Nat.le_of_ble_eq_true rfl) hRm rfl rfl dL_law_367 rfl (fun v1 M2 P3 => ?_)
  obtain ⟨rv1, IM2, CM2, FM2, xM2⟩ := P3
  refine g_pop (n := 371) X dL_law_370 rfl rfl ?_
  refine g_aload_n (n := 372) X 1 dL_law_371 rfl rfl rfl ?_
  refine g_aload_n (n := 373) X 3 dL_law_372 rfl rfl rfl ?_
  refine g_iload_n (n := 374) X 0 dL_law_373 rfl rfl rfl ?_
  refine g_iconst (n := 375) X dL_law_374 rfl ?_
  refine g_iadd (n := 376) (z := i + 1) X dL_law_375 (by omega) rfl ?_
  refine g_scrld (n := 377) (z := u1) X hb (by omega) (by omega) (by omega) dL_law_376 rfl eu1 ?_
  refine g_aload_n (n := 378) X 3 dL_law_377 rfl rfl rfl ?_
  refine g_iload_n (n := 379) X 0 dL_law_378 rfl rfl rfl ?_
  refine g_iconst (n := 380) X dL_law_379 rfl ?_
  refine g_iadd (n := 381) (z := i + 2) X dL_law_380 (by omega) rfl ?_
  refine g_scrld (n := 382) (z := u2) X hb (by omega) (by omega) (by omega) dL_law_381 rfl eu2 ?_
  refine g_aload_n (n := 383) X 3 dL_law_382 rfl rfl rfl ?_
  refine g_iload_n (n := 384) X 0 dL_law_383 rfl rfl rfl ?_
  refine g_iconst (n := 385) X dL_law_384 rfl ?_
  refine g_iadd (n := 386) (z := i + 3) X dL_law_385 (by omega) rfl ?_
  refine g_scrld (n := 387) (z := u3) X hb (by omega) (by omega) (by omega) dL_law_386 rfl eu3 ?_
  refine g_aload_n (n := 388) X 3 dL_law_387 rfl rfl rfl ?_
  refine g_iload_n (n := 389) X 0 dL_law_388 rfl rfl rfl ?_
  refine g_iconst (n := 390) X dL_law_389 rfl ?_
  refine g_iadd (n := 391) (z := i + 4) X dL_law_390 (by omega) rfl ?_
  refine g_scrld (n := 392) (z := u4) X hb (by omega) (by omega) (by omega) dL_law_391 rfl eu4 ?_
  refine g_aload_n (n := 393) X 3 dL_law_392 rfl rfl rfl ?_
  refine g_iload_n (n := 394) X 0 dL_law_393 rfl rfl rfl ?_
  refine g_iconst (n := 395) X dL_law_394 rfl ?_
  refine g_iadd (n := 396) (z := i + 5) X dL_law_395 (by omega) rfl ?_
  refine g_scrld (n := 397) (z := u5) X hb (by omega) (by omega) (by omega) dL_law_396 rfl eu5 ?_
  refine g_callVi (n := 400) (As := [gJ u1, gJ u2, gJ u3, gJ u4, gJ u5]) (rest := []) (cs1 := cs) (ss1 := ss) X (s_X12_person u1 (by omega) u2 (by omega) u3 (by omega) u4 (by omega) u5 (by omega) hsz IM2 CM2 (gW.fr (S := 1048632) W ⟨sz, hsz, I⟩ (gFr.c gFr.rf FM2 rfl) rfl)) okX12_person kw_6_121 ⟨kw_6_122, kw_6_123⟩ ⟨rfl, rfl⟩ ⟨Nat.le_of_ble_eq_true rfl, Nat.le_of_ble_eq_true rfl⟩ rfl (by decide) (gsz hsz (by decide)) lay_190 rfl rfl (Nat.le_of_ble_eq_true rfl) hRm rfl rfl dL_law_397 rfl (fun v4 M5 P6 => ?_)
  obtain ⟨rv4, IM5, CM5, FM5, xM5⟩ := P6
  refine g_pop (n := 401) X dL_law_400 rfl rfl ?_
  refine g_goto (tgt := 1992) X dL_law_401 (by decide) ?_
  obtain ⟨hz, hR_npers, hR_sex, hR_born⟩ := rel_person LR.2.1 LR.1 LR.2.2.1 LR.2.2.2.1 xM2 (fun k => gFr.s191 FM2 rfl k) xM5.2 (fun p h0 h1 => gFr.at FM5 (rP_0 (o := 31 + p) (by omega)).2.2 rfl) (fun p h0 h1 => gFr.at FM5 (rP_1 (o := 31 + p) (by omega)).2.2 rfl) (gFr.at FM5 rc_1_10.2.2 rfl)
  exact kk _ _ _ _ ⟨hsz, IM5, CM5, xM5.1, (by rw [((gFr.at FM5 rc_1_13.2.2 rfl).trans (gFr.at FM2 rc_1_13.2.2 rfl))]; exact LA), (by rw [((gFr.at FM5 (rs_NA (k := 4) (by omega)).2.2 rfl).trans (gFr.at FM2 (rs_NA (k := 4) (by omega)).2.2 rfl))]; exact LB), (lwK.fr LK ((gFr.c (gFr.c gFr.rf FM2 rfl) FM5 rfl) : gFr 590297499277286441016 M M5) rfl), ⟨(rl_now.fr (rl_now.fr LR.1 hN FM2 rfl) (gN_of hsz IM2) FM5 rfl), hR_npers, hR_sex, hR_born, (rl_nright.fr (rl_nright.fr LR.2.2.2.2.1 hN FM2 rfl) (gN_of hsz IM2) FM5 rfl), (rl_nent.fr (rl_nent.fr LR.2.2.2.2.2.1 hN FM2 rfl) (gN_of hsz IM2) FM5 rfl), (rl_rkind.fr (rl_rkind.fr LR.2.2.2.2.2.2.1 hN FM2 rfl) (gN_of hsz IM2) FM5 rfl), (rl_rwho.fr (rl_rwho.fr LR.2.2.2.2.2.2.2.1 hN FM2 rfl) (gN_of hsz IM2) FM5 rfl), (rl_rto.fr (rl_rto.fr LR.2.2.2.2.2.2.2.2.1 hN FM2 rfl) (gN_of hsz IM2) FM5 rfl), (rl_rn.fr (rl_rn.fr LR.2.2.2.2.2.2.2.2.2.1 hN FM2 rfl) (gN_of hsz IM2) FM5 rfl), (rl_rweek.fr (rl_rweek.fr LR.2.2.2.2.2.2.2.2.2.2.1 hN FM2 rfl) (gN_of hsz IM2) FM5 rfl), (rl_rsure.fr (rl_rsure.fr LR.2.2.2.2.2.2.2.2.2.2.2.1 hN FM2 rfl) (gN_of hsz IM2) FM5 rfl), (rl_proofs.fr (rl_proofs.fr LR.2.2.2.2.2.2.2.2.2.2.2.2 hN FM2 rfl) (gN_of hsz IM2) FM5 rfl)⟩⟩
theorem dL_law_404 : decode code 404 = .ok (.aload_n 1, 1) := dc_43 (by decide +kernel)
theorem dL_law_405 : decode code 405 = .ok (.aload_n 0, 1) := dc_42 (by decide +kernel)
theorem dL_law_406 : decode code 406 = .ok (.iload_n 3, 1) := dc_29 (by decide +kernel)
theorem dL_law_407 : decode code 407 = .ok (.iconst 1, 1) := dc_4 (by decide +kernel)
theorem dL_law_408 : decode code 408 = .ok (.iadd, 1) := dc_96 (by decide +kernel)
theorem dL_law_409 : decode code 409 = .ok (.iaload, 1) := dc_46 (by decide +kernel)
theorem dL_law_410 : decode code 410 = .ok (.aload_n 0, 1) := dc_42 (by decide +kernel)
theorem dL_law_411 : decode code 411 = .ok (.iload_n 3, 1) := dc_29 (by decide +kernel)
theorem dL_law_412 : decode code 412 = .ok (.iconst 2, 1) := dc_5 (by decide +kernel)
theorem dL_law_413 : decode code 413 = .ok (.iadd, 1) := dc_96 (by decide +kernel)
theorem dL_law_414 : decode code 414 = .ok (.iaload, 1) := dc_46 (by decide +kernel)
theorem dL_law_415 : decode code 415 = .ok (.invokevirtual 32, 3) := dc_182 0 32 (by decide +kernel)
theorem kw_3_68 : (Jvm.Cond.methodLink "ParishUnionLaw" (32 : Nat) ({ cls := "ParishUnion", name := "about", desc := "(II)I" } : Jvm.MethodName)) ∈ gT := gT_of (tb_3 _ (List.mem_of_getElem? (i := 68) rfl)) rfl
theorem kw_3_71 : (Jvm.Cond.code ({ cls := "ParishUnion", name := "about", desc := "(II)I" } : Jvm.MethodName) prog_1_method_6_code (4 : Nat) (Option.some Jvm.ClassFile.FieldType.int)) ∈ gT := gT_of (tb_3 _ (List.mem_of_getElem? (i := 71) rfl)) rfl
theorem okX11_about : gQok yX11_about cX11_about 4 (Option.some Jvm.ClassFile.FieldType.int) 2 := ⟨kw_3_71, kw_1_1, by decide +kernel, by decide +kernel, by decide +kernel⟩
theorem kw_3_69 : (Jvm.Cond.instanceMethod ({ cls := "ParishUnion", name := "about", desc := "(II)I" } : Jvm.MethodName)) ∈ gT := gT_of (tb_3 _ (List.mem_of_getElem? (i := 69) rfl)) rfl
theorem kw_3_70 : (Jvm.Cond.selects "ParishUnion" ({ cls := "ParishUnion", name := "about", desc := "(II)I" } : Jvm.MethodName) ({ cls := "ParishUnion", name := "about", desc := "(II)I" } : Jvm.MethodName)) ∈ gT := gT_of (tb_3 _ (List.mem_of_getElem? (i := 70) rfl)) rfl
theorem dL_law_418 : decode code 418 = .ok (.pop, 1) := dc_87 (by decide +kernel)
theorem dL_law_419 : decode code 419 = .ok (.aload_n 2, 1) := dc_44 (by decide +kernel)
theorem dL_law_420 : decode code 420 = .ok (.aload_n 0, 1) := dc_42 (by decide +kernel)
theorem dL_law_421 : decode code 421 = .ok (.iload_n 3, 1) := dc_29 (by decide +kernel)
theorem dL_law_422 : decode code 422 = .ok (.iconst 1, 1) := dc_4 (by decide +kernel)
theorem dL_law_423 : decode code 423 = .ok (.iadd, 1) := dc_96 (by decide +kernel)
theorem dL_law_424 : decode code 424 = .ok (.iaload, 1) := dc_46 (by decide +kernel)
theorem dL_law_425 : decode code 425 = .ok (.aload_n 0, 1) := dc_42 (by decide +kernel)
theorem dL_law_426 : decode code 426 = .ok (.iload_n 3, 1) := dc_29 (by decide +kernel)
theorem dL_law_427 : decode code 427 = .ok (.iconst 2, 1) := dc_5 (by decide +kernel)
theorem dL_law_428 : decode code 428 = .ok (.iadd, 1) := dc_96 (by decide +kernel)
theorem dL_law_429 : decode code 429 = .ok (.iaload, 1) := dc_46 (by decide +kernel)
theorem dL_law_430 : decode code 430 = .ok (.invokevirtual 35, 3) := dc_182 0 35 (by decide +kernel)
theorem kw_6_129 : (Jvm.Cond.methodLink "ParishUnionLaw" (35 : Nat) ({ cls := "ParishUnionModel", name := "about", desc := "(II)I" } : Jvm.MethodName)) ∈ gT := gT_of (tb_6 _ (List.mem_of_getElem? (i := 129) rfl)) rfl
theorem kw_6_132 : (Jvm.Cond.code ({ cls := "ParishUnionModel", name := "about", desc := "(II)I" } : Jvm.MethodName) prog_14_method_14_code (3 : Nat) (Option.some Jvm.ClassFile.FieldType.int)) ∈ gT := gT_of (tb_6 _ (List.mem_of_getElem? (i := 132) rfl)) rfl
theorem okX12_about : gQok yX12_about cX12_about 3 (Option.some Jvm.ClassFile.FieldType.int) 2 := ⟨kw_6_132, kw_1_13, by decide +kernel, by decide +kernel, by decide +kernel⟩
theorem kw_6_130 : (Jvm.Cond.instanceMethod ({ cls := "ParishUnionModel", name := "about", desc := "(II)I" } : Jvm.MethodName)) ∈ gT := gT_of (tb_6 _ (List.mem_of_getElem? (i := 130) rfl)) rfl
theorem kw_6_131 : (Jvm.Cond.selects "ParishUnionModel" ({ cls := "ParishUnionModel", name := "about", desc := "(II)I" } : Jvm.MethodName) ({ cls := "ParishUnionModel", name := "about", desc := "(II)I" } : Jvm.MethodName)) ∈ gT := gT_of (tb_6 _ (List.mem_of_getElem? (i := 131) rfl)) rfl
theorem dL_law_433 : decode code 433 = .ok (.pop, 1) := dc_87 (by decide +kernel)
theorem dL_law_434 : decode code 434 = .ok (.goto 1558, 3) := dc_167 6 22 1558 (by decide +kernel)
set_option maxRecDepth 100000 in
set_option maxHeartbeats 4000000 in
theorem law_case_4 {p : Program} {e : Env} {s : State} {m : MethodId} {below : List Frame} {meth : Method} {cd : Code} {l : Launch} {D : va_G} {cA : Nat → ClassId} {b Ln : Nat} {xs : Nat → Int32} (X : gCx p s m #[Value.ref b] meth cd s.heap.size D cA "ParishUnionLaw" code 4) (hr : meth.sig.returnType = ret) (hb : b < s.heap.size ∧ va_X b Ln xs s s.heap) (hLn : Ln ≤ 3584) {sz cs ss : Nat} {M : gM} (L : lwI sz cs ss M) (i : Int) (hi : 0 ≤ i ∧ i + 7 ≤ (Ln : Int)) (kk : ∀ (sz cs ss : Nat) (M1 : gM), lwI sz cs ss M1 → G p l e room_1 s m #[Value.ref b] below meth cd s.heap.size D cA 4 (lw_Z below #[Value.ref b] s) cs ss M1 sz 1992 [(3, gJ i), (2, gA s.heap.size 190), (1, gA s.heap.size 0), (0, .ref b)] []) : G p l e room_1 s m #[Value.ref b] below meth cd s.heap.size D cA 4 (lw_Z below #[Value.ref b] s) cs ss M sz 404 [(3, gJ i), (2, gA s.heap.size 190), (1, gA s.heap.size 0), (0, .ref b)] [] := by
  obtain ⟨hsz, I, C, W, LA, LB, LK, LR⟩ := L
  have hN := gN_of hsz I
  obtain ⟨ac, hac, rac⟩ : ∃ v : Int, M 1 13 = v ∧ (0 ≤ v ∧ v ≤ 10) := by
    obtain ⟨v, hv, rv⟩ := gRd I (by decide) (gsz hsz (by decide)) rc_1_13.1
    exact ⟨v, hv, by omega⟩
  obtain ⟨ab, hab, rab⟩ : ∃ v : Int, M 191 4 = v ∧ (0 ≤ v ∧ v ≤ 10) := by
    obtain ⟨v, hv, rv⟩ := gRd I (by decide) (gsz hsz (by decide)) (rs_NA (k := 4) (by omega)).1
    exact ⟨v, hv, by omega⟩
  have hRm : cs + 0 ≤ room_1.cells ∧ ss + 0 ≤ room_1.slots := by
    show cs + 0 ≤ 349274 ∧ ss + 0 ≤ 8054428
    have := lwK.room LK
    omega
  obtain ⟨u1, eu1, ru1⟩ : ∃ z : Int, xs (i + 1).toNat = Int32.ofInt z ∧ (-2147483648 ≤ z ∧ z ≤ 2147483647) := ⟨_, gi_of _, gi_rg _⟩
  obtain ⟨u2, eu2, ru2⟩ : ∃ z : Int, xs (i + 2).toNat = Int32.ofInt z ∧ (-2147483648 ≤ z ∧ z ≤ 2147483647) := ⟨_, gi_of _, gi_rg _⟩
  obtain ⟨u3, eu3, ru3⟩ : ∃ z : Int, xs (i + 3).toNat = Int32.ofInt z ∧ (-2147483648 ≤ z ∧ z ≤ 2147483647) := ⟨_, gi_of _, gi_rg _⟩
  obtain ⟨u4, eu4, ru4⟩ : ∃ z : Int, xs (i + 4).toNat = Int32.ofInt z ∧ (-2147483648 ≤ z ∧ z ≤ 2147483647) := ⟨_, gi_of _, gi_rg _⟩
  obtain ⟨u5, eu5, ru5⟩ : ∃ z : Int, xs (i + 5).toNat = Int32.ofInt z ∧ (-2147483648 ≤ z ∧ z ≤ 2147483647) := ⟨_, gi_of _, gi_rg _⟩
  obtain ⟨u6, eu6, ru6⟩ : ∃ z : Int, xs (i + 6).toNat = Int32.ofInt z ∧ (-2147483648 ≤ z ∧ z ≤ 2147483647) := ⟨_, gi_of _, gi_rg _⟩
  refine g_aload_n (n := 405) X 2 dL_law_404 rfl rfl rfl ?_
  refine g_aload_n (n := 406) X 3 dL_law_405 rfl rfl rfl ?_
  refine g_iload_n (n := 407) X 0 dL_law_406 rfl rfl rfl ?_
  refine g_iconst (n := 408) X dL_law_407 rfl ?_
  refine g_iadd (n := 409) (z := i + 1) X dL_law_408 (by omega) rfl ?_
  refine g_scrld (n := 410) (z := u1) X hb (by omega) (by omega) (by omega) dL_law_409 rfl eu1 ?_
  refine g_aload_n (n := 411) X 3 dL_law_410 rfl rfl rfl ?_
  refine g_iload_n (n := 412) X 0 dL_law_411 rfl rfl rfl ?_
  refine g_iconst (n := 413) X dL_law_412 rfl ?_
  refine g_iadd (n := 414) (z := i + 2) X dL_law_413 (by omega) rfl ?_
  refine g_scrld (n := 415) (z := u2) X hb (by omega) (by omega) (by omega) dL_law_414 rfl eu2 ?_
  refine g_callVi (n := 418) (As := [gJ u1, gJ u2]) (rest := []) (cs1 := cs) (ss1 := ss) X (s_X11_about u1 (by omega) u2 (by omega) hsz I C ) okX11_about kw_3_68 ⟨kw_3_69, kw_3_70⟩ ⟨rfl, rfl⟩ ⟨Nat.le_of_ble_eq_true rfl, Nat.le_of_ble_eq_true rfl⟩ rfl (by decide) (gsz hsz (by decide)) lay_0 rfl rfl (Nat.le_of_ble_eq_true rfl) hRm rfl rfl dL_law_415 rfl (fun v1 M2 P3 => ?_)
  obtain ⟨rfl, rv1⟩ := P3
  refine g_pop (n := 419) X dL_law_418 rfl rfl ?_
  refine g_aload_n (n := 420) X 1 dL_law_419 rfl rfl rfl ?_
  refine g_aload_n (n := 421) X 3 dL_law_420 rfl rfl rfl ?_
  refine g_iload_n (n := 422) X 0 dL_law_421 rfl rfl rfl ?_
  refine g_iconst (n := 423) X dL_law_422 rfl ?_
  refine g_iadd (n := 424) (z := i + 1) X dL_law_423 (by omega) rfl ?_
  refine g_scrld (n := 425) (z := u1) X hb (by omega) (by omega) (by omega) dL_law_424 rfl eu1 ?_
  refine g_aload_n (n := 426) X 3 dL_law_425 rfl rfl rfl ?_
  refine g_iload_n (n := 427) X 0 dL_law_426 rfl rfl rfl ?_
  refine g_iconst (n := 428) X dL_law_427 rfl ?_
  refine g_iadd (n := 429) (z := i + 2) X dL_law_428 (by omega) rfl ?_
  refine g_scrld (n := 430) (z := u2) X hb (by omega) (by omega) (by omega) dL_law_429 rfl eu2 ?_
  refine g_callVi (n := 433) (As := [gJ u1, gJ u2]) (rest := []) (cs1 := cs) (ss1 := ss) X (s_X12_about u1 (by omega) u2 (by omega) hsz I C ) okX12_about kw_6_129 ⟨kw_6_130, kw_6_131⟩ ⟨rfl, rfl⟩ ⟨Nat.le_of_ble_eq_true rfl, Nat.le_of_ble_eq_true rfl⟩ rfl (by decide) (gsz hsz (by decide)) lay_190 rfl rfl (Nat.le_of_ble_eq_true rfl) hRm rfl rfl dL_law_430 rfl (fun v4 M5 P6 => ?_)
  obtain ⟨rfl, rv4⟩ := P6
  refine g_pop (n := 434) X dL_law_433 rfl rfl ?_
  refine g_goto (tgt := 1992) X dL_law_434 (by decide) ?_
  exact kk _ _ _ _ ⟨hsz, I, C, W, LA, LB, (lwK.fr LK (gFr.rf : gFr 0 M M) rfl), ⟨LR.1, LR.2.1, LR.2.2.1, LR.2.2.2.1, LR.2.2.2.2.1, LR.2.2.2.2.2.1, LR.2.2.2.2.2.2.1, LR.2.2.2.2.2.2.2.1, LR.2.2.2.2.2.2.2.2.1, LR.2.2.2.2.2.2.2.2.2.1, LR.2.2.2.2.2.2.2.2.2.2.1, LR.2.2.2.2.2.2.2.2.2.2.2.1, LR.2.2.2.2.2.2.2.2.2.2.2.2⟩⟩
theorem dL_law_437 : decode code 437 = .ok (.aload_n 1, 1) := dc_43 (by decide +kernel)
theorem dL_law_438 : decode code 438 = .ok (.aload_n 0, 1) := dc_42 (by decide +kernel)
theorem dL_law_439 : decode code 439 = .ok (.iload_n 3, 1) := dc_29 (by decide +kernel)
theorem dL_law_440 : decode code 440 = .ok (.iconst 1, 1) := dc_4 (by decide +kernel)
theorem dL_law_441 : decode code 441 = .ok (.iadd, 1) := dc_96 (by decide +kernel)
theorem dL_law_442 : decode code 442 = .ok (.iaload, 1) := dc_46 (by decide +kernel)
theorem dL_law_443 : decode code 443 = .ok (.aload_n 0, 1) := dc_42 (by decide +kernel)
theorem dL_law_444 : decode code 444 = .ok (.iload_n 3, 1) := dc_29 (by decide +kernel)
theorem dL_law_445 : decode code 445 = .ok (.iconst 2, 1) := dc_5 (by decide +kernel)
theorem dL_law_446 : decode code 446 = .ok (.iadd, 1) := dc_96 (by decide +kernel)
theorem dL_law_447 : decode code 447 = .ok (.iaload, 1) := dc_46 (by decide +kernel)
theorem dL_law_448 : decode code 448 = .ok (.aload_n 0, 1) := dc_42 (by decide +kernel)
theorem dL_law_449 : decode code 449 = .ok (.iload_n 3, 1) := dc_29 (by decide +kernel)
theorem dL_law_450 : decode code 450 = .ok (.iconst 3, 1) := dc_6 (by decide +kernel)
theorem dL_law_451 : decode code 451 = .ok (.iadd, 1) := dc_96 (by decide +kernel)
theorem dL_law_452 : decode code 452 = .ok (.iaload, 1) := dc_46 (by decide +kernel)
theorem dL_law_453 : decode code 453 = .ok (.aload_n 0, 1) := dc_42 (by decide +kernel)
theorem dL_law_454 : decode code 454 = .ok (.iload_n 3, 1) := dc_29 (by decide +kernel)
theorem dL_law_455 : decode code 455 = .ok (.iconst 4, 1) := dc_7 (by decide +kernel)
theorem dL_law_456 : decode code 456 = .ok (.iadd, 1) := dc_96 (by decide +kernel)
theorem dL_law_457 : decode code 457 = .ok (.iaload, 1) := dc_46 (by decide +kernel)
theorem dL_law_458 : decode code 458 = .ok (.aload_n 0, 1) := dc_42 (by decide +kernel)
theorem dL_law_459 : decode code 459 = .ok (.iload_n 3, 1) := dc_29 (by decide +kernel)
theorem dL_law_460 : decode code 460 = .ok (.iconst 5, 1) := dc_8 (by decide +kernel)
theorem dL_law_461 : decode code 461 = .ok (.iadd, 1) := dc_96 (by decide +kernel)
theorem dL_law_462 : decode code 462 = .ok (.iaload, 1) := dc_46 (by decide +kernel)
theorem dL_law_463 : decode code 463 = .ok (.ifCond .eq 7, 3) := dc_153 0 7 7 (by decide +kernel)
theorem dL_law_470 : decode code 470 = .ok (.iconst 0, 1) := dc_3 (by decide +kernel)
theorem dL_law_471 : decode code 471 = .ok (.aload_n 0, 1) := dc_42 (by decide +kernel)
theorem dL_law_472 : decode code 472 = .ok (.iload_n 3, 1) := dc_29 (by decide +kernel)
theorem dL_law_473 : decode code 473 = .ok (.bipush 6, 2) := dc_16 6 6 (by decide +kernel)
theorem dL_law_475 : decode code 475 = .ok (.iadd, 1) := dc_96 (by decide +kernel)
theorem dL_law_476 : decode code 476 = .ok (.iaload, 1) := dc_46 (by decide +kernel)
theorem dL_law_477 : decode code 477 = .ok (.ifCond .eq 7, 3) := dc_153 0 7 7 (by decide +kernel)
theorem dL_law_484 : decode code 484 = .ok (.iconst 0, 1) := dc_3 (by decide +kernel)
theorem dL_law_485 : decode code 485 = .ok (.invokevirtual 36, 3) := dc_182 0 36 (by decide +kernel)
theorem kw_3_72 : (Jvm.Cond.methodLink "ParishUnionLaw" (36 : Nat) ({ cls := "ParishUnion", name := "hire", desc := "(IIIIZZ)I" } : Jvm.MethodName)) ∈ gT := gT_of (tb_3 _ (List.mem_of_getElem? (i := 72) rfl)) rfl
theorem kw_3_75 : (Jvm.Cond.code ({ cls := "ParishUnion", name := "hire", desc := "(IIIIZZ)I" } : Jvm.MethodName) prog_1_method_7_code (7 : Nat) (Option.some Jvm.ClassFile.FieldType.int)) ∈ gT := gT_of (tb_3 _ (List.mem_of_getElem? (i := 75) rfl)) rfl
theorem okX11_hire : gQok yX11_hire cX11_hire 7 (Option.some Jvm.ClassFile.FieldType.int) 6 := ⟨kw_3_75, kw_1_1, by decide +kernel, by decide +kernel, by decide +kernel⟩
theorem kw_3_73 : (Jvm.Cond.instanceMethod ({ cls := "ParishUnion", name := "hire", desc := "(IIIIZZ)I" } : Jvm.MethodName)) ∈ gT := gT_of (tb_3 _ (List.mem_of_getElem? (i := 73) rfl)) rfl
theorem kw_3_74 : (Jvm.Cond.selects "ParishUnion" ({ cls := "ParishUnion", name := "hire", desc := "(IIIIZZ)I" } : Jvm.MethodName) ({ cls := "ParishUnion", name := "hire", desc := "(IIIIZZ)I" } : Jvm.MethodName)) ∈ gT := gT_of (tb_3 _ (List.mem_of_getElem? (i := 74) rfl)) rfl
theorem dL_law_488 : decode code 488 = .ok (.pop, 1) := dc_87 (by decide +kernel)
theorem dL_law_489 : decode code 489 = .ok (.aload_n 2, 1) := dc_44 (by decide +kernel)
theorem dL_law_490 : decode code 490 = .ok (.aload_n 0, 1) := dc_42 (by decide +kernel)
theorem dL_law_491 : decode code 491 = .ok (.iload_n 3, 1) := dc_29 (by decide +kernel)
theorem dL_law_492 : decode code 492 = .ok (.iconst 1, 1) := dc_4 (by decide +kernel)
theorem dL_law_493 : decode code 493 = .ok (.iadd, 1) := dc_96 (by decide +kernel)
theorem dL_law_494 : decode code 494 = .ok (.iaload, 1) := dc_46 (by decide +kernel)
theorem dL_law_495 : decode code 495 = .ok (.aload_n 0, 1) := dc_42 (by decide +kernel)
theorem dL_law_496 : decode code 496 = .ok (.iload_n 3, 1) := dc_29 (by decide +kernel)
theorem dL_law_497 : decode code 497 = .ok (.iconst 2, 1) := dc_5 (by decide +kernel)
theorem dL_law_498 : decode code 498 = .ok (.iadd, 1) := dc_96 (by decide +kernel)
theorem dL_law_499 : decode code 499 = .ok (.iaload, 1) := dc_46 (by decide +kernel)
theorem dL_law_500 : decode code 500 = .ok (.aload_n 0, 1) := dc_42 (by decide +kernel)
theorem dL_law_501 : decode code 501 = .ok (.iload_n 3, 1) := dc_29 (by decide +kernel)
theorem dL_law_502 : decode code 502 = .ok (.iconst 3, 1) := dc_6 (by decide +kernel)
theorem dL_law_503 : decode code 503 = .ok (.iadd, 1) := dc_96 (by decide +kernel)
theorem dL_law_504 : decode code 504 = .ok (.iaload, 1) := dc_46 (by decide +kernel)
theorem dL_law_505 : decode code 505 = .ok (.aload_n 0, 1) := dc_42 (by decide +kernel)
theorem dL_law_506 : decode code 506 = .ok (.iload_n 3, 1) := dc_29 (by decide +kernel)
theorem dL_law_507 : decode code 507 = .ok (.iconst 4, 1) := dc_7 (by decide +kernel)
theorem dL_law_508 : decode code 508 = .ok (.iadd, 1) := dc_96 (by decide +kernel)
theorem dL_law_509 : decode code 509 = .ok (.iaload, 1) := dc_46 (by decide +kernel)
theorem dL_law_510 : decode code 510 = .ok (.aload_n 0, 1) := dc_42 (by decide +kernel)
theorem dL_law_511 : decode code 511 = .ok (.iload_n 3, 1) := dc_29 (by decide +kernel)
theorem dL_law_512 : decode code 512 = .ok (.iconst 5, 1) := dc_8 (by decide +kernel)
theorem dL_law_513 : decode code 513 = .ok (.iadd, 1) := dc_96 (by decide +kernel)
theorem dL_law_514 : decode code 514 = .ok (.iaload, 1) := dc_46 (by decide +kernel)
theorem dL_law_515 : decode code 515 = .ok (.ifCond .eq 7, 3) := dc_153 0 7 7 (by decide +kernel)
theorem dL_law_522 : decode code 522 = .ok (.iconst 0, 1) := dc_3 (by decide +kernel)
theorem dL_law_523 : decode code 523 = .ok (.aload_n 0, 1) := dc_42 (by decide +kernel)
theorem dL_law_524 : decode code 524 = .ok (.iload_n 3, 1) := dc_29 (by decide +kernel)
theorem dL_law_525 : decode code 525 = .ok (.bipush 6, 2) := dc_16 6 6 (by decide +kernel)
theorem dL_law_527 : decode code 527 = .ok (.iadd, 1) := dc_96 (by decide +kernel)
theorem dL_law_528 : decode code 528 = .ok (.iaload, 1) := dc_46 (by decide +kernel)
theorem dL_law_529 : decode code 529 = .ok (.ifCond .eq 7, 3) := dc_153 0 7 7 (by decide +kernel)
theorem dL_law_536 : decode code 536 = .ok (.iconst 0, 1) := dc_3 (by decide +kernel)
theorem dL_law_537 : decode code 537 = .ok (.invokevirtual 40, 3) := dc_182 0 40 (by decide +kernel)
theorem kw_6_133 : (Jvm.Cond.methodLink "ParishUnionLaw" (40 : Nat) ({ cls := "ParishUnionModel", name := "hire", desc := "(IIIIZZ)I" } : Jvm.MethodName)) ∈ gT := gT_of (tb_6 _ (List.mem_of_getElem? (i := 133) rfl)) rfl
theorem kw_6_136 : (Jvm.Cond.code ({ cls := "ParishUnionModel", name := "hire", desc := "(IIIIZZ)I" } : Jvm.MethodName) prog_14_method_18_code (7 : Nat) (Option.some Jvm.ClassFile.FieldType.int)) ∈ gT := gT_of (tb_6 _ (List.mem_of_getElem? (i := 136) rfl)) rfl
theorem okX12_hire : gQok yX12_hire cX12_hire 7 (Option.some Jvm.ClassFile.FieldType.int) 6 := ⟨kw_6_136, kw_1_13, by decide +kernel, by decide +kernel, by decide +kernel⟩
theorem kw_6_134 : (Jvm.Cond.instanceMethod ({ cls := "ParishUnionModel", name := "hire", desc := "(IIIIZZ)I" } : Jvm.MethodName)) ∈ gT := gT_of (tb_6 _ (List.mem_of_getElem? (i := 134) rfl)) rfl
theorem kw_6_135 : (Jvm.Cond.selects "ParishUnionModel" ({ cls := "ParishUnionModel", name := "hire", desc := "(IIIIZZ)I" } : Jvm.MethodName) ({ cls := "ParishUnionModel", name := "hire", desc := "(IIIIZZ)I" } : Jvm.MethodName)) ∈ gT := gT_of (tb_6 _ (List.mem_of_getElem? (i := 135) rfl)) rfl
theorem dL_law_540 : decode code 540 = .ok (.pop, 1) := dc_87 (by decide +kernel)
theorem dL_law_541 : decode code 541 = .ok (.goto 1451, 3) := dc_167 5 171 1451 (by decide +kernel)
theorem dL_law_480 : decode code 480 = .ok (.iconst 1, 1) := dc_4 (by decide +kernel)
theorem dL_law_481 : decode code 481 = .ok (.goto 4, 3) := dc_167 0 4 4 (by decide +kernel)
theorem dL_law_532 : decode code 532 = .ok (.iconst 1, 1) := dc_4 (by decide +kernel)
theorem dL_law_533 : decode code 533 = .ok (.goto 4, 3) := dc_167 0 4 4 (by decide +kernel)
theorem dL_law_466 : decode code 466 = .ok (.iconst 1, 1) := dc_4 (by decide +kernel)
theorem dL_law_467 : decode code 467 = .ok (.goto 4, 3) := dc_167 0 4 4 (by decide +kernel)
theorem dL_law_518 : decode code 518 = .ok (.iconst 1, 1) := dc_4 (by decide +kernel)
theorem dL_law_519 : decode code 519 = .ok (.goto 4, 3) := dc_167 0 4 4 (by decide +kernel)
set_option maxRecDepth 100000 in
set_option maxHeartbeats 4000000 in
theorem law_case_5 {p : Program} {e : Env} {s : State} {m : MethodId} {below : List Frame} {meth : Method} {cd : Code} {l : Launch} {D : va_G} {cA : Nat → ClassId} {b Ln : Nat} {xs : Nat → Int32} (X : gCx p s m #[Value.ref b] meth cd s.heap.size D cA "ParishUnionLaw" code 4) (hr : meth.sig.returnType = ret) (hb : b < s.heap.size ∧ va_X b Ln xs s s.heap) (hLn : Ln ≤ 3584) {sz cs ss : Nat} {M : gM} (L : lwI sz cs ss M) (i : Int) (hi : 0 ≤ i ∧ i + 7 ≤ (Ln : Int)) (kk : ∀ (sz cs ss : Nat) (M1 : gM), lwI sz cs ss M1 → G p l e room_1 s m #[Value.ref b] below meth cd s.heap.size D cA 4 (lw_Z below #[Value.ref b] s) cs ss M1 sz 1992 [(3, gJ i), (2, gA s.heap.size 190), (1, gA s.heap.size 0), (0, .ref b)] []) : G p l e room_1 s m #[Value.ref b] below meth cd s.heap.size D cA 4 (lw_Z below #[Value.ref b] s) cs ss M sz 437 [(3, gJ i), (2, gA s.heap.size 190), (1, gA s.heap.size 0), (0, .ref b)] [] := by
  obtain ⟨hsz, I, C, W, LA, LB, LK, LR⟩ := L
  have hN := gN_of hsz I
  obtain ⟨ac, hac, rac⟩ : ∃ v : Int, M 1 13 = v ∧ (0 ≤ v ∧ v ≤ 10) := by
    obtain ⟨v, hv, rv⟩ := gRd I (by decide) (gsz hsz (by decide)) rc_1_13.1
    exact ⟨v, hv, by omega⟩
  obtain ⟨ab, hab, rab⟩ : ∃ v : Int, M 191 4 = v ∧ (0 ≤ v ∧ v ≤ 10) := by
    obtain ⟨v, hv, rv⟩ := gRd I (by decide) (gsz hsz (by decide)) (rs_NA (k := 4) (by omega)).1
    exact ⟨v, hv, by omega⟩
  have hRm : cs + 0 ≤ room_1.cells ∧ ss + 0 ≤ room_1.slots := by
    show cs + 0 ≤ 349274 ∧ ss + 0 ≤ 8054428
    have := lwK.room LK
    omega
  obtain ⟨u1, eu1, ru1⟩ : ∃ z : Int, xs (i + 1).toNat = Int32.ofInt z ∧ (-2147483648 ≤ z ∧ z ≤ 2147483647) := ⟨_, gi_of _, gi_rg _⟩
  obtain ⟨u2, eu2, ru2⟩ : ∃ z : Int, xs (i + 2).toNat = Int32.ofInt z ∧ (-2147483648 ≤ z ∧ z ≤ 2147483647) := ⟨_, gi_of _, gi_rg _⟩
  obtain ⟨u3, eu3, ru3⟩ : ∃ z : Int, xs (i + 3).toNat = Int32.ofInt z ∧ (-2147483648 ≤ z ∧ z ≤ 2147483647) := ⟨_, gi_of _, gi_rg _⟩
  obtain ⟨u4, eu4, ru4⟩ : ∃ z : Int, xs (i + 4).toNat = Int32.ofInt z ∧ (-2147483648 ≤ z ∧ z ≤ 2147483647) := ⟨_, gi_of _, gi_rg _⟩
  obtain ⟨u5, eu5, ru5⟩ : ∃ z : Int, xs (i + 5).toNat = Int32.ofInt z ∧ (-2147483648 ≤ z ∧ z ≤ 2147483647) := ⟨_, gi_of _, gi_rg _⟩
  obtain ⟨u6, eu6, ru6⟩ : ∃ z : Int, xs (i + 6).toNat = Int32.ofInt z ∧ (-2147483648 ≤ z ∧ z ≤ 2147483647) := ⟨_, gi_of _, gi_rg _⟩
  refine g_aload_n (n := 438) X 2 dL_law_437 rfl rfl rfl ?_
  refine g_aload_n (n := 439) X 3 dL_law_438 rfl rfl rfl ?_
  refine g_iload_n (n := 440) X 0 dL_law_439 rfl rfl rfl ?_
  refine g_iconst (n := 441) X dL_law_440 rfl ?_
  refine g_iadd (n := 442) (z := i + 1) X dL_law_441 (by omega) rfl ?_
  refine g_scrld (n := 443) (z := u1) X hb (by omega) (by omega) (by omega) dL_law_442 rfl eu1 ?_
  refine g_aload_n (n := 444) X 3 dL_law_443 rfl rfl rfl ?_
  refine g_iload_n (n := 445) X 0 dL_law_444 rfl rfl rfl ?_
  refine g_iconst (n := 446) X dL_law_445 rfl ?_
  refine g_iadd (n := 447) (z := i + 2) X dL_law_446 (by omega) rfl ?_
  refine g_scrld (n := 448) (z := u2) X hb (by omega) (by omega) (by omega) dL_law_447 rfl eu2 ?_
  refine g_aload_n (n := 449) X 3 dL_law_448 rfl rfl rfl ?_
  refine g_iload_n (n := 450) X 0 dL_law_449 rfl rfl rfl ?_
  refine g_iconst (n := 451) X dL_law_450 rfl ?_
  refine g_iadd (n := 452) (z := i + 3) X dL_law_451 (by omega) rfl ?_
  refine g_scrld (n := 453) (z := u3) X hb (by omega) (by omega) (by omega) dL_law_452 rfl eu3 ?_
  refine g_aload_n (n := 454) X 3 dL_law_453 rfl rfl rfl ?_
  refine g_iload_n (n := 455) X 0 dL_law_454 rfl rfl rfl ?_
  refine g_iconst (n := 456) X dL_law_455 rfl ?_
  refine g_iadd (n := 457) (z := i + 4) X dL_law_456 (by omega) rfl ?_
  refine g_scrld (n := 458) (z := u4) X hb (by omega) (by omega) (by omega) dL_law_457 rfl eu4 ?_
  refine g_aload_n (n := 459) X 3 dL_law_458 rfl rfl rfl ?_
  refine g_iload_n (n := 460) X 0 dL_law_459 rfl rfl rfl ?_
  refine g_iconst (n := 461) X dL_law_460 rfl ?_
  refine g_iadd (n := 462) (z := i + 5) X dL_law_461 (by omega) rfl ?_
  refine g_scrld (n := 463) (z := u5) X hb (by omega) (by omega) (by omega) dL_law_462 rfl eu5 ?_
  refine g_if_eq (n := 466) (tgt := 470) X dL_law_463 (by decide) (by omega) rfl (fun c1 => ?_) (fun c1 => ?_)
  · refine g_iconst (n := 471) X dL_law_470 rfl ?_
    refine g_aload_n (n := 472) X 3 dL_law_471 rfl rfl rfl ?_
    refine g_iload_n (n := 473) X 0 dL_law_472 rfl rfl rfl ?_
    refine g_bipush (n := 475) X dL_law_473 (by decide +kernel) rfl ?_
    refine g_iadd (n := 476) (z := i + 6) X dL_law_475 (by omega) rfl ?_
    refine g_scrld (n := 477) (z := u6) X hb (by omega) (by omega) (by omega) dL_law_476 rfl eu6 ?_
    refine g_if_eq (n := 480) (tgt := 484) X dL_law_477 (by decide) (by omega) rfl (fun c2 => ?_) (fun c2 => ?_)
    · refine g_iconst (n := 485) X dL_law_484 rfl ?_
      refine g_callVi (n := 488) (As := [gJ u1, gJ u2, gJ u3, gJ u4, gJ 0, gJ 0]) (rest := []) (cs1 := cs) (ss1 := ss) X (s_X11_hire u1 (by omega) u2 (by omega) u3 (by omega) u4 (by omega) 0 (by omega) 0 (by omega) hsz I C ) okX11_hire kw_3_72 ⟨kw_3_73, kw_3_74⟩ ⟨rfl, rfl⟩ ⟨Nat.le_of_ble_eq_true rfl, Nat.le_of_ble_eq_true rfl⟩ rfl (by decide) (gsz hsz (by decide)) lay_0 rfl rfl (Nat.le_of_ble_eq_true rfl) hRm rfl rfl dL_law_485 rfl (fun v3 M4 P5 => ?_)
      obtain ⟨rv3, IM4, CM4, FM4, xM4⟩ := P5
      refine g_pop (n := 489) X dL_law_488 rfl rfl ?_
      refine g_aload_n (n := 490) X 1 dL_law_489 rfl rfl rfl ?_
      refine g_aload_n (n := 491) X 3 dL_law_490 rfl rfl rfl ?_
      refine g_iload_n (n := 492) X 0 dL_law_491 rfl rfl rfl ?_
      refine g_iconst (n := 493) X dL_law_492 rfl ?_
      refine g_iadd (n := 494) (z := i + 1) X dL_law_493 (by omega) rfl ?_
      refine g_scrld (n := 495) (z := u1) X hb (by omega) (by omega) (by omega) dL_law_494 rfl eu1 ?_
      refine g_aload_n (n := 496) X 3 dL_law_495 rfl rfl rfl ?_
      refine g_iload_n (n := 497) X 0 dL_law_496 rfl rfl rfl ?_
      refine g_iconst (n := 498) X dL_law_497 rfl ?_
      refine g_iadd (n := 499) (z := i + 2) X dL_law_498 (by omega) rfl ?_
      refine g_scrld (n := 500) (z := u2) X hb (by omega) (by omega) (by omega) dL_law_499 rfl eu2 ?_
      refine g_aload_n (n := 501) X 3 dL_law_500 rfl rfl rfl ?_
      refine g_iload_n (n := 502) X 0 dL_law_501 rfl rfl rfl ?_
      refine g_iconst (n := 503) X dL_law_502 rfl ?_
      refine g_iadd (n := 504) (z := i + 3) X dL_law_503 (by omega) rfl ?_
      refine g_scrld (n := 505) (z := u3) X hb (by omega) (by omega) (by omega) dL_law_504 rfl eu3 ?_
      refine g_aload_n (n := 506) X 3 dL_law_505 rfl rfl rfl ?_
      refine g_iload_n (n := 507) X 0 dL_law_506 rfl rfl rfl ?_
      refine g_iconst (n := 508) X dL_law_507 rfl ?_
      refine g_iadd (n := 509) (z := i + 4) X dL_law_508 (by omega) rfl ?_
      refine g_scrld (n := 510) (z := u4) X hb (by omega) (by omega) (by omega) dL_law_509 rfl eu4 ?_
      refine g_aload_n (n := 511) X 3 dL_law_510 rfl rfl rfl ?_
      refine g_iload_n (n := 512) X 0 dL_law_511 rfl rfl rfl ?_
      refine g_iconst (n := 513) X dL_law_512 rfl ?_
      refine g_iadd (n := 514) (z := i + 5) X dL_law_513 (by omega) rfl ?_
      refine g_scrld (n := 515) (z := u5) X hb (by omega) (by omega) (by omega) dL_law_514 rfl eu5 ?_
      refine g_if_eq (n := 518) (tgt := 522) X dL_law_515 (by decide) (by omega) rfl (fun c6 => ?_) (fun c6 => by exfalso; omega)
      refine g_iconst (n := 523) X dL_law_522 rfl ?_
      refine g_aload_n (n := 524) X 3 dL_law_523 rfl rfl rfl ?_
      refine g_iload_n (n := 525) X 0 dL_law_524 rfl rfl rfl ?_
      refine g_bipush (n := 527) X dL_law_525 (by decide +kernel) rfl ?_
      refine g_iadd (n := 528) (z := i + 6) X dL_law_527 (by omega) rfl ?_
      refine g_scrld (n := 529) (z := u6) X hb (by omega) (by omega) (by omega) dL_law_528 rfl eu6 ?_
      refine g_if_eq (n := 532) (tgt := 536) X dL_law_529 (by decide) (by omega) rfl (fun c7 => ?_) (fun c7 => by exfalso; omega)
      refine g_iconst (n := 537) X dL_law_536 rfl ?_
      refine g_callVi (n := 540) (As := [gJ u1, gJ u2, gJ u3, gJ u4, gJ 0, gJ 0]) (rest := []) (cs1 := cs) (ss1 := ss) X (s_X12_hire u1 (by omega) u2 (by omega) u3 (by omega) u4 (by omega) 0 (by omega) 0 (by omega) hsz IM4 CM4 (gW.fr (S := 1237940039285380274901221504) W ⟨sz, hsz, I⟩ (gFr.c gFr.rf FM4 rfl) rfl)) okX12_hire kw_6_133 ⟨kw_6_134, kw_6_135⟩ ⟨rfl, rfl⟩ ⟨Nat.le_of_ble_eq_true rfl, Nat.le_of_ble_eq_true rfl⟩ rfl (by decide) (gsz hsz (by decide)) lay_190 rfl rfl (Nat.le_of_ble_eq_true rfl) hRm rfl rfl dL_law_537 rfl (fun v8 M9 P10 => ?_)
      obtain ⟨rv8, IM9, CM9, FM9, xM9⟩ := P10
      refine g_pop (n := 541) X dL_law_540 rfl rfl ?_
      refine g_goto (tgt := 1992) X dL_law_541 (by decide) ?_
      obtain ⟨hz, hR_nright, hR_nent, hR_rkind, hR_rwho, hR_rto, hR_rn, hR_rweek, hR_rsure, hR_proofs⟩ := rel_hire LR.2.1 LR.1 LR.2.2.2.2.1 LR.2.2.2.2.2.1 (gR_of hsz I) LR.2.2.2.2.2.2.1 LR.2.2.2.2.2.2.2.1 LR.2.2.2.2.2.2.2.2.1 LR.2.2.2.2.2.2.2.2.2.1 LR.2.2.2.2.2.2.2.2.2.2.1 LR.2.2.2.2.2.2.2.2.2.2.2.1 LR.2.2.2.2.2.2.2.2.2.2.2.2 xM4 xM9.2 (fun k => gFr.s191 FM4 rfl k) (fun r k h0 h1 h2 h3 => gFr.Rt FM9 rfl (o := 47 + r) (by omega) k) (gFr.at FM9 rc_1_11.2.2 rfl) (gFr.at FM9 rc_1_12.2.2 rfl)
      exact kk _ _ _ _ ⟨hsz, IM9, CM9, xM9.1, (by rw [((gFr.at FM9 rc_1_13.2.2 rfl).trans (gFr.at FM4 rc_1_13.2.2 rfl))]; exact LA), (by rw [((gFr.at FM9 (rs_NA (k := 4) (by omega)).2.2 rfl).trans (gFr.at FM4 (rs_NA (k := 4) (by omega)).2.2 rfl))]; exact LB), (lwK.fr LK ((gFr.c (gFr.c gFr.rf FM4 rfl) FM9 rfl) : gFr 1702168144315460173946683520 M M9) rfl), ⟨(rl_now.fr (rl_now.fr LR.1 hN FM4 rfl) (gN_of hsz IM4) FM9 rfl), (rl_npers.fr (rl_npers.fr LR.2.1 hN FM4 rfl) (gN_of hsz IM4) FM9 rfl), (rl_sex.fr (rl_sex.fr LR.2.2.1 hN FM4 rfl) (gN_of hsz IM4) FM9 rfl), (rl_born.fr (rl_born.fr LR.2.2.2.1 hN FM4 rfl) (gN_of hsz IM4) FM9 rfl), hR_nright, hR_nent, hR_rkind, hR_rwho, hR_rto, hR_rn, hR_rweek, hR_rsure, hR_proofs⟩⟩
    · refine g_iconst (n := 481) X dL_law_480 rfl ?_
      refine g_goto (tgt := 485) X dL_law_481 (by decide) ?_
      refine g_callVi (n := 488) (As := [gJ u1, gJ u2, gJ u3, gJ u4, gJ 0, gJ 1]) (rest := []) (cs1 := cs) (ss1 := ss) X (s_X11_hire u1 (by omega) u2 (by omega) u3 (by omega) u4 (by omega) 0 (by omega) 1 (by omega) hsz I C ) okX11_hire kw_3_72 ⟨kw_3_73, kw_3_74⟩ ⟨rfl, rfl⟩ ⟨Nat.le_of_ble_eq_true rfl, Nat.le_of_ble_eq_true rfl⟩ rfl (by decide) (gsz hsz (by decide)) lay_0 rfl rfl (Nat.le_of_ble_eq_true rfl) hRm rfl rfl dL_law_485 rfl (fun v11 M12 P13 => ?_)
      obtain ⟨rv11, IM12, CM12, FM12, xM12⟩ := P13
      refine g_pop (n := 489) X dL_law_488 rfl rfl ?_
      refine g_aload_n (n := 490) X 1 dL_law_489 rfl rfl rfl ?_
      refine g_aload_n (n := 491) X 3 dL_law_490 rfl rfl rfl ?_
      refine g_iload_n (n := 492) X 0 dL_law_491 rfl rfl rfl ?_
      refine g_iconst (n := 493) X dL_law_492 rfl ?_
      refine g_iadd (n := 494) (z := i + 1) X dL_law_493 (by omega) rfl ?_
      refine g_scrld (n := 495) (z := u1) X hb (by omega) (by omega) (by omega) dL_law_494 rfl eu1 ?_
      refine g_aload_n (n := 496) X 3 dL_law_495 rfl rfl rfl ?_
      refine g_iload_n (n := 497) X 0 dL_law_496 rfl rfl rfl ?_
      refine g_iconst (n := 498) X dL_law_497 rfl ?_
      refine g_iadd (n := 499) (z := i + 2) X dL_law_498 (by omega) rfl ?_
      refine g_scrld (n := 500) (z := u2) X hb (by omega) (by omega) (by omega) dL_law_499 rfl eu2 ?_
      refine g_aload_n (n := 501) X 3 dL_law_500 rfl rfl rfl ?_
      refine g_iload_n (n := 502) X 0 dL_law_501 rfl rfl rfl ?_
      refine g_iconst (n := 503) X dL_law_502 rfl ?_
      refine g_iadd (n := 504) (z := i + 3) X dL_law_503 (by omega) rfl ?_
      refine g_scrld (n := 505) (z := u3) X hb (by omega) (by omega) (by omega) dL_law_504 rfl eu3 ?_
      refine g_aload_n (n := 506) X 3 dL_law_505 rfl rfl rfl ?_
      refine g_iload_n (n := 507) X 0 dL_law_506 rfl rfl rfl ?_
      refine g_iconst (n := 508) X dL_law_507 rfl ?_
      refine g_iadd (n := 509) (z := i + 4) X dL_law_508 (by omega) rfl ?_
      refine g_scrld (n := 510) (z := u4) X hb (by omega) (by omega) (by omega) dL_law_509 rfl eu4 ?_
      refine g_aload_n (n := 511) X 3 dL_law_510 rfl rfl rfl ?_
      refine g_iload_n (n := 512) X 0 dL_law_511 rfl rfl rfl ?_
      refine g_iconst (n := 513) X dL_law_512 rfl ?_
      refine g_iadd (n := 514) (z := i + 5) X dL_law_513 (by omega) rfl ?_
      refine g_scrld (n := 515) (z := u5) X hb (by omega) (by omega) (by omega) dL_law_514 rfl eu5 ?_
      refine g_if_eq (n := 518) (tgt := 522) X dL_law_515 (by decide) (by omega) rfl (fun c14 => ?_) (fun c14 => by exfalso; omega)
      refine g_iconst (n := 523) X dL_law_522 rfl ?_
      refine g_aload_n (n := 524) X 3 dL_law_523 rfl rfl rfl ?_
      refine g_iload_n (n := 525) X 0 dL_law_524 rfl rfl rfl ?_
      refine g_bipush (n := 527) X dL_law_525 (by decide +kernel) rfl ?_
      refine g_iadd (n := 528) (z := i + 6) X dL_law_527 (by omega) rfl ?_
      refine g_scrld (n := 529) (z := u6) X hb (by omega) (by omega) (by omega) dL_law_528 rfl eu6 ?_
      refine g_if_eq (n := 532) (tgt := 536) X dL_law_529 (by decide) (by omega) rfl (fun c15 => by exfalso; omega) (fun c15 => ?_)
      refine g_iconst (n := 533) X dL_law_532 rfl ?_
      refine g_goto (tgt := 537) X dL_law_533 (by decide) ?_
      refine g_callVi (n := 540) (As := [gJ u1, gJ u2, gJ u3, gJ u4, gJ 0, gJ 1]) (rest := []) (cs1 := cs) (ss1 := ss) X (s_X12_hire u1 (by omega) u2 (by omega) u3 (by omega) u4 (by omega) 0 (by omega) 1 (by omega) hsz IM12 CM12 (gW.fr (S := 1237940039285380274901221504) W ⟨sz, hsz, I⟩ (gFr.c gFr.rf FM12 rfl) rfl)) okX12_hire kw_6_133 ⟨kw_6_134, kw_6_135⟩ ⟨rfl, rfl⟩ ⟨Nat.le_of_ble_eq_true rfl, Nat.le_of_ble_eq_true rfl⟩ rfl (by decide) (gsz hsz (by decide)) lay_190 rfl rfl (Nat.le_of_ble_eq_true rfl) hRm rfl rfl dL_law_537 rfl (fun v16 M17 P18 => ?_)
      obtain ⟨rv16, IM17, CM17, FM17, xM17⟩ := P18
      refine g_pop (n := 541) X dL_law_540 rfl rfl ?_
      refine g_goto (tgt := 1992) X dL_law_541 (by decide) ?_
      obtain ⟨hz, hR_nright, hR_nent, hR_rkind, hR_rwho, hR_rto, hR_rn, hR_rweek, hR_rsure, hR_proofs⟩ := rel_hire LR.2.1 LR.1 LR.2.2.2.2.1 LR.2.2.2.2.2.1 (gR_of hsz I) LR.2.2.2.2.2.2.1 LR.2.2.2.2.2.2.2.1 LR.2.2.2.2.2.2.2.2.1 LR.2.2.2.2.2.2.2.2.2.1 LR.2.2.2.2.2.2.2.2.2.2.1 LR.2.2.2.2.2.2.2.2.2.2.2.1 LR.2.2.2.2.2.2.2.2.2.2.2.2 xM12 xM17.2 (fun k => gFr.s191 FM12 rfl k) (fun r k h0 h1 h2 h3 => gFr.Rt FM17 rfl (o := 47 + r) (by omega) k) (gFr.at FM17 rc_1_11.2.2 rfl) (gFr.at FM17 rc_1_12.2.2 rfl)
      exact kk _ _ _ _ ⟨hsz, IM17, CM17, xM17.1, (by rw [((gFr.at FM17 rc_1_13.2.2 rfl).trans (gFr.at FM12 rc_1_13.2.2 rfl))]; exact LA), (by rw [((gFr.at FM17 (rs_NA (k := 4) (by omega)).2.2 rfl).trans (gFr.at FM12 (rs_NA (k := 4) (by omega)).2.2 rfl))]; exact LB), (lwK.fr LK ((gFr.c (gFr.c gFr.rf FM12 rfl) FM17 rfl) : gFr 1702168144315460173946683520 M M17) rfl), ⟨(rl_now.fr (rl_now.fr LR.1 hN FM12 rfl) (gN_of hsz IM12) FM17 rfl), (rl_npers.fr (rl_npers.fr LR.2.1 hN FM12 rfl) (gN_of hsz IM12) FM17 rfl), (rl_sex.fr (rl_sex.fr LR.2.2.1 hN FM12 rfl) (gN_of hsz IM12) FM17 rfl), (rl_born.fr (rl_born.fr LR.2.2.2.1 hN FM12 rfl) (gN_of hsz IM12) FM17 rfl), hR_nright, hR_nent, hR_rkind, hR_rwho, hR_rto, hR_rn, hR_rweek, hR_rsure, hR_proofs⟩⟩
  · refine g_iconst (n := 467) X dL_law_466 rfl ?_
    refine g_goto (tgt := 471) X dL_law_467 (by decide) ?_
    refine g_aload_n (n := 472) X 3 dL_law_471 rfl rfl rfl ?_
    refine g_iload_n (n := 473) X 0 dL_law_472 rfl rfl rfl ?_
    refine g_bipush (n := 475) X dL_law_473 (by decide +kernel) rfl ?_
    refine g_iadd (n := 476) (z := i + 6) X dL_law_475 (by omega) rfl ?_
    refine g_scrld (n := 477) (z := u6) X hb (by omega) (by omega) (by omega) dL_law_476 rfl eu6 ?_
    refine g_if_eq (n := 480) (tgt := 484) X dL_law_477 (by decide) (by omega) rfl (fun c19 => ?_) (fun c19 => ?_)
    · refine g_iconst (n := 485) X dL_law_484 rfl ?_
      refine g_callVi (n := 488) (As := [gJ u1, gJ u2, gJ u3, gJ u4, gJ 1, gJ 0]) (rest := []) (cs1 := cs) (ss1 := ss) X (s_X11_hire u1 (by omega) u2 (by omega) u3 (by omega) u4 (by omega) 1 (by omega) 0 (by omega) hsz I C ) okX11_hire kw_3_72 ⟨kw_3_73, kw_3_74⟩ ⟨rfl, rfl⟩ ⟨Nat.le_of_ble_eq_true rfl, Nat.le_of_ble_eq_true rfl⟩ rfl (by decide) (gsz hsz (by decide)) lay_0 rfl rfl (Nat.le_of_ble_eq_true rfl) hRm rfl rfl dL_law_485 rfl (fun v20 M21 P22 => ?_)
      obtain ⟨rv20, IM21, CM21, FM21, xM21⟩ := P22
      refine g_pop (n := 489) X dL_law_488 rfl rfl ?_
      refine g_aload_n (n := 490) X 1 dL_law_489 rfl rfl rfl ?_
      refine g_aload_n (n := 491) X 3 dL_law_490 rfl rfl rfl ?_
      refine g_iload_n (n := 492) X 0 dL_law_491 rfl rfl rfl ?_
      refine g_iconst (n := 493) X dL_law_492 rfl ?_
      refine g_iadd (n := 494) (z := i + 1) X dL_law_493 (by omega) rfl ?_
      refine g_scrld (n := 495) (z := u1) X hb (by omega) (by omega) (by omega) dL_law_494 rfl eu1 ?_
      refine g_aload_n (n := 496) X 3 dL_law_495 rfl rfl rfl ?_
      refine g_iload_n (n := 497) X 0 dL_law_496 rfl rfl rfl ?_
      refine g_iconst (n := 498) X dL_law_497 rfl ?_
      refine g_iadd (n := 499) (z := i + 2) X dL_law_498 (by omega) rfl ?_
      refine g_scrld (n := 500) (z := u2) X hb (by omega) (by omega) (by omega) dL_law_499 rfl eu2 ?_
      refine g_aload_n (n := 501) X 3 dL_law_500 rfl rfl rfl ?_
      refine g_iload_n (n := 502) X 0 dL_law_501 rfl rfl rfl ?_
      refine g_iconst (n := 503) X dL_law_502 rfl ?_
      refine g_iadd (n := 504) (z := i + 3) X dL_law_503 (by omega) rfl ?_
      refine g_scrld (n := 505) (z := u3) X hb (by omega) (by omega) (by omega) dL_law_504 rfl eu3 ?_
      refine g_aload_n (n := 506) X 3 dL_law_505 rfl rfl rfl ?_
      refine g_iload_n (n := 507) X 0 dL_law_506 rfl rfl rfl ?_
      refine g_iconst (n := 508) X dL_law_507 rfl ?_
      refine g_iadd (n := 509) (z := i + 4) X dL_law_508 (by omega) rfl ?_
      refine g_scrld (n := 510) (z := u4) X hb (by omega) (by omega) (by omega) dL_law_509 rfl eu4 ?_
      refine g_aload_n (n := 511) X 3 dL_law_510 rfl rfl rfl ?_
      refine g_iload_n (n := 512) X 0 dL_law_511 rfl rfl rfl ?_
      refine g_iconst (n := 513) X dL_law_512 rfl ?_
      refine g_iadd (n := 514) (z := i + 5) X dL_law_513 (by omega) rfl ?_
      refine g_scrld (n := 515) (z := u5) X hb (by omega) (by omega) (by omega) dL_law_514 rfl eu5 ?_
      refine g_if_eq (n := 518) (tgt := 522) X dL_law_515 (by decide) (by omega) rfl (fun c23 => by exfalso; omega) (fun c23 => ?_)
      refine g_iconst (n := 519) X dL_law_518 rfl ?_
      refine g_goto (tgt := 523) X dL_law_519 (by decide) ?_
      refine g_aload_n (n := 524) X 3 dL_law_523 rfl rfl rfl ?_
      refine g_iload_n (n := 525) X 0 dL_law_524 rfl rfl rfl ?_
      refine g_bipush (n := 527) X dL_law_525 (by decide +kernel) rfl ?_
      refine g_iadd (n := 528) (z := i + 6) X dL_law_527 (by omega) rfl ?_
      refine g_scrld (n := 529) (z := u6) X hb (by omega) (by omega) (by omega) dL_law_528 rfl eu6 ?_
      refine g_if_eq (n := 532) (tgt := 536) X dL_law_529 (by decide) (by omega) rfl (fun c24 => ?_) (fun c24 => by exfalso; omega)
      refine g_iconst (n := 537) X dL_law_536 rfl ?_
      refine g_callVi (n := 540) (As := [gJ u1, gJ u2, gJ u3, gJ u4, gJ 1, gJ 0]) (rest := []) (cs1 := cs) (ss1 := ss) X (s_X12_hire u1 (by omega) u2 (by omega) u3 (by omega) u4 (by omega) 1 (by omega) 0 (by omega) hsz IM21 CM21 (gW.fr (S := 1237940039285380274901221504) W ⟨sz, hsz, I⟩ (gFr.c gFr.rf FM21 rfl) rfl)) okX12_hire kw_6_133 ⟨kw_6_134, kw_6_135⟩ ⟨rfl, rfl⟩ ⟨Nat.le_of_ble_eq_true rfl, Nat.le_of_ble_eq_true rfl⟩ rfl (by decide) (gsz hsz (by decide)) lay_190 rfl rfl (Nat.le_of_ble_eq_true rfl) hRm rfl rfl dL_law_537 rfl (fun v25 M26 P27 => ?_)
      obtain ⟨rv25, IM26, CM26, FM26, xM26⟩ := P27
      refine g_pop (n := 541) X dL_law_540 rfl rfl ?_
      refine g_goto (tgt := 1992) X dL_law_541 (by decide) ?_
      obtain ⟨hz, hR_nright, hR_nent, hR_rkind, hR_rwho, hR_rto, hR_rn, hR_rweek, hR_rsure, hR_proofs⟩ := rel_hire LR.2.1 LR.1 LR.2.2.2.2.1 LR.2.2.2.2.2.1 (gR_of hsz I) LR.2.2.2.2.2.2.1 LR.2.2.2.2.2.2.2.1 LR.2.2.2.2.2.2.2.2.1 LR.2.2.2.2.2.2.2.2.2.1 LR.2.2.2.2.2.2.2.2.2.2.1 LR.2.2.2.2.2.2.2.2.2.2.2.1 LR.2.2.2.2.2.2.2.2.2.2.2.2 xM21 xM26.2 (fun k => gFr.s191 FM21 rfl k) (fun r k h0 h1 h2 h3 => gFr.Rt FM26 rfl (o := 47 + r) (by omega) k) (gFr.at FM26 rc_1_11.2.2 rfl) (gFr.at FM26 rc_1_12.2.2 rfl)
      exact kk _ _ _ _ ⟨hsz, IM26, CM26, xM26.1, (by rw [((gFr.at FM26 rc_1_13.2.2 rfl).trans (gFr.at FM21 rc_1_13.2.2 rfl))]; exact LA), (by rw [((gFr.at FM26 (rs_NA (k := 4) (by omega)).2.2 rfl).trans (gFr.at FM21 (rs_NA (k := 4) (by omega)).2.2 rfl))]; exact LB), (lwK.fr LK ((gFr.c (gFr.c gFr.rf FM21 rfl) FM26 rfl) : gFr 1702168144315460173946683520 M M26) rfl), ⟨(rl_now.fr (rl_now.fr LR.1 hN FM21 rfl) (gN_of hsz IM21) FM26 rfl), (rl_npers.fr (rl_npers.fr LR.2.1 hN FM21 rfl) (gN_of hsz IM21) FM26 rfl), (rl_sex.fr (rl_sex.fr LR.2.2.1 hN FM21 rfl) (gN_of hsz IM21) FM26 rfl), (rl_born.fr (rl_born.fr LR.2.2.2.1 hN FM21 rfl) (gN_of hsz IM21) FM26 rfl), hR_nright, hR_nent, hR_rkind, hR_rwho, hR_rto, hR_rn, hR_rweek, hR_rsure, hR_proofs⟩⟩
    · refine g_iconst (n := 481) X dL_law_480 rfl ?_
      refine g_goto (tgt := 485) X dL_law_481 (by decide) ?_
      refine g_callVi (n := 488) (As := [gJ u1, gJ u2, gJ u3, gJ u4, gJ 1, gJ 1]) (rest := []) (cs1 := cs) (ss1 := ss) X (s_X11_hire u1 (by omega) u2 (by omega) u3 (by omega) u4 (by omega) 1 (by omega) 1 (by omega) hsz I C ) okX11_hire kw_3_72 ⟨kw_3_73, kw_3_74⟩ ⟨rfl, rfl⟩ ⟨Nat.le_of_ble_eq_true rfl, Nat.le_of_ble_eq_true rfl⟩ rfl (by decide) (gsz hsz (by decide)) lay_0 rfl rfl (Nat.le_of_ble_eq_true rfl) hRm rfl rfl dL_law_485 rfl (fun v28 M29 P30 => ?_)
      obtain ⟨rv28, IM29, CM29, FM29, xM29⟩ := P30
      refine g_pop (n := 489) X dL_law_488 rfl rfl ?_
      refine g_aload_n (n := 490) X 1 dL_law_489 rfl rfl rfl ?_
      refine g_aload_n (n := 491) X 3 dL_law_490 rfl rfl rfl ?_
      refine g_iload_n (n := 492) X 0 dL_law_491 rfl rfl rfl ?_
      refine g_iconst (n := 493) X dL_law_492 rfl ?_
      refine g_iadd (n := 494) (z := i + 1) X dL_law_493 (by omega) rfl ?_
      refine g_scrld (n := 495) (z := u1) X hb (by omega) (by omega) (by omega) dL_law_494 rfl eu1 ?_
      refine g_aload_n (n := 496) X 3 dL_law_495 rfl rfl rfl ?_
      refine g_iload_n (n := 497) X 0 dL_law_496 rfl rfl rfl ?_
      refine g_iconst (n := 498) X dL_law_497 rfl ?_
      refine g_iadd (n := 499) (z := i + 2) X dL_law_498 (by omega) rfl ?_
      refine g_scrld (n := 500) (z := u2) X hb (by omega) (by omega) (by omega) dL_law_499 rfl eu2 ?_
      refine g_aload_n (n := 501) X 3 dL_law_500 rfl rfl rfl ?_
      refine g_iload_n (n := 502) X 0 dL_law_501 rfl rfl rfl ?_
      refine g_iconst (n := 503) X dL_law_502 rfl ?_
      refine g_iadd (n := 504) (z := i + 3) X dL_law_503 (by omega) rfl ?_
      refine g_scrld (n := 505) (z := u3) X hb (by omega) (by omega) (by omega) dL_law_504 rfl eu3 ?_
      refine g_aload_n (n := 506) X 3 dL_law_505 rfl rfl rfl ?_
      refine g_iload_n (n := 507) X 0 dL_law_506 rfl rfl rfl ?_
      refine g_iconst (n := 508) X dL_law_507 rfl ?_
      refine g_iadd (n := 509) (z := i + 4) X dL_law_508 (by omega) rfl ?_
      refine g_scrld (n := 510) (z := u4) X hb (by omega) (by omega) (by omega) dL_law_509 rfl eu4 ?_
      refine g_aload_n (n := 511) X 3 dL_law_510 rfl rfl rfl ?_
      refine g_iload_n (n := 512) X 0 dL_law_511 rfl rfl rfl ?_
      refine g_iconst (n := 513) X dL_law_512 rfl ?_
      refine g_iadd (n := 514) (z := i + 5) X dL_law_513 (by omega) rfl ?_
      refine g_scrld (n := 515) (z := u5) X hb (by omega) (by omega) (by omega) dL_law_514 rfl eu5 ?_
      refine g_if_eq (n := 518) (tgt := 522) X dL_law_515 (by decide) (by omega) rfl (fun c31 => by exfalso; omega) (fun c31 => ?_)
      refine g_iconst (n := 519) X dL_law_518 rfl ?_
      refine g_goto (tgt := 523) X dL_law_519 (by decide) ?_
      refine g_aload_n (n := 524) X 3 dL_law_523 rfl rfl rfl ?_
      refine g_iload_n (n := 525) X 0 dL_law_524 rfl rfl rfl ?_
      refine g_bipush (n := 527) X dL_law_525 (by decide +kernel) rfl ?_
      refine g_iadd (n := 528) (z := i + 6) X dL_law_527 (by omega) rfl ?_
      refine g_scrld (n := 529) (z := u6) X hb (by omega) (by omega) (by omega) dL_law_528 rfl eu6 ?_
      refine g_if_eq (n := 532) (tgt := 536) X dL_law_529 (by decide) (by omega) rfl (fun c32 => by exfalso; omega) (fun c32 => ?_)
      refine g_iconst (n := 533) X dL_law_532 rfl ?_
      refine g_goto (tgt := 537) X dL_law_533 (by decide) ?_
      refine g_callVi (n := 540) (As := [gJ u1, gJ u2, gJ u3, gJ u4, gJ 1, gJ 1]) (rest := []) (cs1 := cs) (ss1 := ss) X (s_X12_hire u1 (by omega) u2 (by omega) u3 (by omega) u4 (by omega) 1 (by omega) 1 (by omega) hsz IM29 CM29 (gW.fr (S := 1237940039285380274901221504) W ⟨sz, hsz, I⟩ (gFr.c gFr.rf FM29 rfl) rfl)) okX12_hire kw_6_133 ⟨kw_6_134, kw_6_135⟩ ⟨rfl, rfl⟩ ⟨Nat.le_of_ble_eq_true rfl, Nat.le_of_ble_eq_true rfl⟩ rfl (by decide) (gsz hsz (by decide)) lay_190 rfl rfl (Nat.le_of_ble_eq_true rfl) hRm rfl rfl dL_law_537 rfl (fun v33 M34 P35 => ?_)
      obtain ⟨rv33, IM34, CM34, FM34, xM34⟩ := P35
      refine g_pop (n := 541) X dL_law_540 rfl rfl ?_
      refine g_goto (tgt := 1992) X dL_law_541 (by decide) ?_
      obtain ⟨hz, hR_nright, hR_nent, hR_rkind, hR_rwho, hR_rto, hR_rn, hR_rweek, hR_rsure, hR_proofs⟩ := rel_hire LR.2.1 LR.1 LR.2.2.2.2.1 LR.2.2.2.2.2.1 (gR_of hsz I) LR.2.2.2.2.2.2.1 LR.2.2.2.2.2.2.2.1 LR.2.2.2.2.2.2.2.2.1 LR.2.2.2.2.2.2.2.2.2.1 LR.2.2.2.2.2.2.2.2.2.2.1 LR.2.2.2.2.2.2.2.2.2.2.2.1 LR.2.2.2.2.2.2.2.2.2.2.2.2 xM29 xM34.2 (fun k => gFr.s191 FM29 rfl k) (fun r k h0 h1 h2 h3 => gFr.Rt FM34 rfl (o := 47 + r) (by omega) k) (gFr.at FM34 rc_1_11.2.2 rfl) (gFr.at FM34 rc_1_12.2.2 rfl)
      exact kk _ _ _ _ ⟨hsz, IM34, CM34, xM34.1, (by rw [((gFr.at FM34 rc_1_13.2.2 rfl).trans (gFr.at FM29 rc_1_13.2.2 rfl))]; exact LA), (by rw [((gFr.at FM34 (rs_NA (k := 4) (by omega)).2.2 rfl).trans (gFr.at FM29 (rs_NA (k := 4) (by omega)).2.2 rfl))]; exact LB), (lwK.fr LK ((gFr.c (gFr.c gFr.rf FM29 rfl) FM34 rfl) : gFr 1702168144315460173946683520 M M34) rfl), ⟨(rl_now.fr (rl_now.fr LR.1 hN FM29 rfl) (gN_of hsz IM29) FM34 rfl), (rl_npers.fr (rl_npers.fr LR.2.1 hN FM29 rfl) (gN_of hsz IM29) FM34 rfl), (rl_sex.fr (rl_sex.fr LR.2.2.1 hN FM29 rfl) (gN_of hsz IM29) FM34 rfl), (rl_born.fr (rl_born.fr LR.2.2.2.1 hN FM29 rfl) (gN_of hsz IM29) FM34 rfl), hR_nright, hR_nent, hR_rkind, hR_rwho, hR_rto, hR_rn, hR_rweek, hR_rsure, hR_proofs⟩⟩
theorem dL_law_544 : decode code 544 = .ok (.aload_n 1, 1) := dc_43 (by decide +kernel)
theorem dL_law_545 : decode code 545 = .ok (.aload_n 0, 1) := dc_42 (by decide +kernel)
theorem dL_law_546 : decode code 546 = .ok (.iload_n 3, 1) := dc_29 (by decide +kernel)
theorem dL_law_547 : decode code 547 = .ok (.iconst 1, 1) := dc_4 (by decide +kernel)
theorem dL_law_548 : decode code 548 = .ok (.iadd, 1) := dc_96 (by decide +kernel)
theorem dL_law_549 : decode code 549 = .ok (.iaload, 1) := dc_46 (by decide +kernel)
theorem dL_law_550 : decode code 550 = .ok (.aload_n 0, 1) := dc_42 (by decide +kernel)
theorem dL_law_551 : decode code 551 = .ok (.iload_n 3, 1) := dc_29 (by decide +kernel)
theorem dL_law_552 : decode code 552 = .ok (.iconst 2, 1) := dc_5 (by decide +kernel)
theorem dL_law_553 : decode code 553 = .ok (.iadd, 1) := dc_96 (by decide +kernel)
theorem dL_law_554 : decode code 554 = .ok (.iaload, 1) := dc_46 (by decide +kernel)
theorem dL_law_555 : decode code 555 = .ok (.aload_n 0, 1) := dc_42 (by decide +kernel)
theorem dL_law_556 : decode code 556 = .ok (.iload_n 3, 1) := dc_29 (by decide +kernel)
theorem dL_law_557 : decode code 557 = .ok (.iconst 3, 1) := dc_6 (by decide +kernel)
theorem dL_law_558 : decode code 558 = .ok (.iadd, 1) := dc_96 (by decide +kernel)
theorem dL_law_559 : decode code 559 = .ok (.iaload, 1) := dc_46 (by decide +kernel)
theorem dL_law_560 : decode code 560 = .ok (.aload_n 0, 1) := dc_42 (by decide +kernel)
theorem dL_law_561 : decode code 561 = .ok (.iload_n 3, 1) := dc_29 (by decide +kernel)
theorem dL_law_562 : decode code 562 = .ok (.iconst 4, 1) := dc_7 (by decide +kernel)
theorem dL_law_563 : decode code 563 = .ok (.iadd, 1) := dc_96 (by decide +kernel)
theorem dL_law_564 : decode code 564 = .ok (.iaload, 1) := dc_46 (by decide +kernel)
theorem dL_law_565 : decode code 565 = .ok (.aload_n 0, 1) := dc_42 (by decide +kernel)
theorem dL_law_566 : decode code 566 = .ok (.iload_n 3, 1) := dc_29 (by decide +kernel)
theorem dL_law_567 : decode code 567 = .ok (.iconst 5, 1) := dc_8 (by decide +kernel)
theorem dL_law_568 : decode code 568 = .ok (.iadd, 1) := dc_96 (by decide +kernel)
theorem dL_law_569 : decode code 569 = .ok (.iaload, 1) := dc_46 (by decide +kernel)
theorem dL_law_570 : decode code 570 = .ok (.ifCond .eq 7, 3) := dc_153 0 7 7 (by decide +kernel)
theorem dL_law_577 : decode code 577 = .ok (.iconst 0, 1) := dc_3 (by decide +kernel)
theorem dL_law_578 : decode code 578 = .ok (.invokevirtual 41, 3) := dc_182 0 41 (by decide +kernel)
theorem kw_3_84 : (Jvm.Cond.methodLink "ParishUnionLaw" (41 : Nat) ({ cls := "ParishUnion", name := "rated", desc := "(IIIIZ)I" } : Jvm.MethodName)) ∈ gT := gT_of (tb_3 _ (List.mem_of_getElem? (i := 84) rfl)) rfl
theorem kw_3_87 : (Jvm.Cond.code ({ cls := "ParishUnion", name := "rated", desc := "(IIIIZ)I" } : Jvm.MethodName) prog_1_method_8_code (6 : Nat) (Option.some Jvm.ClassFile.FieldType.int)) ∈ gT := gT_of (tb_3 _ (List.mem_of_getElem? (i := 87) rfl)) rfl
theorem okX11_rated : gQok yX11_rated cX11_rated 6 (Option.some Jvm.ClassFile.FieldType.int) 5 := ⟨kw_3_87, kw_1_1, by decide +kernel, by decide +kernel, by decide +kernel⟩
theorem kw_3_85 : (Jvm.Cond.instanceMethod ({ cls := "ParishUnion", name := "rated", desc := "(IIIIZ)I" } : Jvm.MethodName)) ∈ gT := gT_of (tb_3 _ (List.mem_of_getElem? (i := 85) rfl)) rfl
theorem kw_3_86 : (Jvm.Cond.selects "ParishUnion" ({ cls := "ParishUnion", name := "rated", desc := "(IIIIZ)I" } : Jvm.MethodName) ({ cls := "ParishUnion", name := "rated", desc := "(IIIIZ)I" } : Jvm.MethodName)) ∈ gT := gT_of (tb_3 _ (List.mem_of_getElem? (i := 86) rfl)) rfl
theorem dL_law_581 : decode code 581 = .ok (.pop, 1) := dc_87 (by decide +kernel)
theorem dL_law_582 : decode code 582 = .ok (.aload_n 2, 1) := dc_44 (by decide +kernel)
theorem dL_law_583 : decode code 583 = .ok (.aload_n 0, 1) := dc_42 (by decide +kernel)
theorem dL_law_584 : decode code 584 = .ok (.iload_n 3, 1) := dc_29 (by decide +kernel)
theorem dL_law_585 : decode code 585 = .ok (.iconst 1, 1) := dc_4 (by decide +kernel)
theorem dL_law_586 : decode code 586 = .ok (.iadd, 1) := dc_96 (by decide +kernel)
theorem dL_law_587 : decode code 587 = .ok (.iaload, 1) := dc_46 (by decide +kernel)
theorem dL_law_588 : decode code 588 = .ok (.aload_n 0, 1) := dc_42 (by decide +kernel)
theorem dL_law_589 : decode code 589 = .ok (.iload_n 3, 1) := dc_29 (by decide +kernel)
theorem dL_law_590 : decode code 590 = .ok (.iconst 2, 1) := dc_5 (by decide +kernel)
theorem dL_law_591 : decode code 591 = .ok (.iadd, 1) := dc_96 (by decide +kernel)
theorem dL_law_592 : decode code 592 = .ok (.iaload, 1) := dc_46 (by decide +kernel)
theorem dL_law_593 : decode code 593 = .ok (.aload_n 0, 1) := dc_42 (by decide +kernel)
theorem dL_law_594 : decode code 594 = .ok (.iload_n 3, 1) := dc_29 (by decide +kernel)
theorem dL_law_595 : decode code 595 = .ok (.iconst 3, 1) := dc_6 (by decide +kernel)
theorem dL_law_596 : decode code 596 = .ok (.iadd, 1) := dc_96 (by decide +kernel)
theorem dL_law_597 : decode code 597 = .ok (.iaload, 1) := dc_46 (by decide +kernel)
theorem dL_law_598 : decode code 598 = .ok (.aload_n 0, 1) := dc_42 (by decide +kernel)
theorem dL_law_599 : decode code 599 = .ok (.iload_n 3, 1) := dc_29 (by decide +kernel)
theorem dL_law_600 : decode code 600 = .ok (.iconst 4, 1) := dc_7 (by decide +kernel)
theorem dL_law_601 : decode code 601 = .ok (.iadd, 1) := dc_96 (by decide +kernel)
theorem dL_law_602 : decode code 602 = .ok (.iaload, 1) := dc_46 (by decide +kernel)
theorem dL_law_603 : decode code 603 = .ok (.aload_n 0, 1) := dc_42 (by decide +kernel)
theorem dL_law_604 : decode code 604 = .ok (.iload_n 3, 1) := dc_29 (by decide +kernel)
theorem dL_law_605 : decode code 605 = .ok (.iconst 5, 1) := dc_8 (by decide +kernel)
theorem dL_law_606 : decode code 606 = .ok (.iadd, 1) := dc_96 (by decide +kernel)
theorem dL_law_607 : decode code 607 = .ok (.iaload, 1) := dc_46 (by decide +kernel)
theorem dL_law_608 : decode code 608 = .ok (.ifCond .eq 7, 3) := dc_153 0 7 7 (by decide +kernel)
theorem dL_law_615 : decode code 615 = .ok (.iconst 0, 1) := dc_3 (by decide +kernel)
theorem dL_law_616 : decode code 616 = .ok (.invokevirtual 45, 3) := dc_182 0 45 (by decide +kernel)
theorem kw_6_149 : (Jvm.Cond.methodLink "ParishUnionLaw" (45 : Nat) ({ cls := "ParishUnionModel", name := "rated", desc := "(IIIIZ)I" } : Jvm.MethodName)) ∈ gT := gT_of (tb_6 _ (List.mem_of_getElem? (i := 149) rfl)) rfl
theorem kw_6_152 : (Jvm.Cond.code ({ cls := "ParishUnionModel", name := "rated", desc := "(IIIIZ)I" } : Jvm.MethodName) prog_14_method_19_code (6 : Nat) (Option.some Jvm.ClassFile.FieldType.int)) ∈ gT := gT_of (tb_6 _ (List.mem_of_getElem? (i := 152) rfl)) rfl
theorem okX12_rated : gQok yX12_rated cX12_rated 6 (Option.some Jvm.ClassFile.FieldType.int) 5 := ⟨kw_6_152, kw_1_13, by decide +kernel, by decide +kernel, by decide +kernel⟩
theorem kw_6_150 : (Jvm.Cond.instanceMethod ({ cls := "ParishUnionModel", name := "rated", desc := "(IIIIZ)I" } : Jvm.MethodName)) ∈ gT := gT_of (tb_6 _ (List.mem_of_getElem? (i := 150) rfl)) rfl
theorem kw_6_151 : (Jvm.Cond.selects "ParishUnionModel" ({ cls := "ParishUnionModel", name := "rated", desc := "(IIIIZ)I" } : Jvm.MethodName) ({ cls := "ParishUnionModel", name := "rated", desc := "(IIIIZ)I" } : Jvm.MethodName)) ∈ gT := gT_of (tb_6 _ (List.mem_of_getElem? (i := 151) rfl)) rfl
theorem dL_law_619 : decode code 619 = .ok (.pop, 1) := dc_87 (by decide +kernel)
theorem dL_law_620 : decode code 620 = .ok (.goto 1372, 3) := dc_167 5 92 1372 (by decide +kernel)
theorem dL_law_573 : decode code 573 = .ok (.iconst 1, 1) := dc_4 (by decide +kernel)
theorem dL_law_574 : decode code 574 = .ok (.goto 4, 3) := dc_167 0 4 4 (by decide +kernel)
theorem dL_law_611 : decode code 611 = .ok (.iconst 1, 1) := dc_4 (by decide +kernel)
theorem dL_law_612 : decode code 612 = .ok (.goto 4, 3) := dc_167 0 4 4 (by decide +kernel)
set_option maxRecDepth 100000 in
set_option maxHeartbeats 4000000 in
theorem law_case_6 {p : Program} {e : Env} {s : State} {m : MethodId} {below : List Frame} {meth : Method} {cd : Code} {l : Launch} {D : va_G} {cA : Nat → ClassId} {b Ln : Nat} {xs : Nat → Int32} (X : gCx p s m #[Value.ref b] meth cd s.heap.size D cA "ParishUnionLaw" code 4) (hr : meth.sig.returnType = ret) (hb : b < s.heap.size ∧ va_X b Ln xs s s.heap) (hLn : Ln ≤ 3584) {sz cs ss : Nat} {M : gM} (L : lwI sz cs ss M) (i : Int) (hi : 0 ≤ i ∧ i + 7 ≤ (Ln : Int)) (kk : ∀ (sz cs ss : Nat) (M1 : gM), lwI sz cs ss M1 → G p l e room_1 s m #[Value.ref b] below meth cd s.heap.size D cA 4 (lw_Z below #[Value.ref b] s) cs ss M1 sz 1992 [(3, gJ i), (2, gA s.heap.size 190), (1, gA s.heap.size 0), (0, .ref b)] []) : G p l e room_1 s m #[Value.ref b] below meth cd s.heap.size D cA 4 (lw_Z below #[Value.ref b] s) cs ss M sz 544 [(3, gJ i), (2, gA s.heap.size 190), (1, gA s.heap.size 0), (0, .ref b)] [] := by
  obtain ⟨hsz, I, C, W, LA, LB, LK, LR⟩ := L
  have hN := gN_of hsz I
  obtain ⟨ac, hac, rac⟩ : ∃ v : Int, M 1 13 = v ∧ (0 ≤ v ∧ v ≤ 10) := by
    obtain ⟨v, hv, rv⟩ := gRd I (by decide) (gsz hsz (by decide)) rc_1_13.1
    exact ⟨v, hv, by omega⟩
  obtain ⟨ab, hab, rab⟩ : ∃ v : Int, M 191 4 = v ∧ (0 ≤ v ∧ v ≤ 10) := by
    obtain ⟨v, hv, rv⟩ := gRd I (by decide) (gsz hsz (by decide)) (rs_NA (k := 4) (by omega)).1
    exact ⟨v, hv, by omega⟩
  have hRm : cs + 0 ≤ room_1.cells ∧ ss + 0 ≤ room_1.slots := by
    show cs + 0 ≤ 349274 ∧ ss + 0 ≤ 8054428
    have := lwK.room LK
    omega
  obtain ⟨u1, eu1, ru1⟩ : ∃ z : Int, xs (i + 1).toNat = Int32.ofInt z ∧ (-2147483648 ≤ z ∧ z ≤ 2147483647) := ⟨_, gi_of _, gi_rg _⟩
  obtain ⟨u2, eu2, ru2⟩ : ∃ z : Int, xs (i + 2).toNat = Int32.ofInt z ∧ (-2147483648 ≤ z ∧ z ≤ 2147483647) := ⟨_, gi_of _, gi_rg _⟩
  obtain ⟨u3, eu3, ru3⟩ : ∃ z : Int, xs (i + 3).toNat = Int32.ofInt z ∧ (-2147483648 ≤ z ∧ z ≤ 2147483647) := ⟨_, gi_of _, gi_rg _⟩
  obtain ⟨u4, eu4, ru4⟩ : ∃ z : Int, xs (i + 4).toNat = Int32.ofInt z ∧ (-2147483648 ≤ z ∧ z ≤ 2147483647) := ⟨_, gi_of _, gi_rg _⟩
  obtain ⟨u5, eu5, ru5⟩ : ∃ z : Int, xs (i + 5).toNat = Int32.ofInt z ∧ (-2147483648 ≤ z ∧ z ≤ 2147483647) := ⟨_, gi_of _, gi_rg _⟩
  obtain ⟨u6, eu6, ru6⟩ : ∃ z : Int, xs (i + 6).toNat = Int32.ofInt z ∧ (-2147483648 ≤ z ∧ z ≤ 2147483647) := ⟨_, gi_of _, gi_rg _⟩
  refine g_aload_n (n := 545) X 2 dL_law_544 rfl rfl rfl ?_
  refine g_aload_n (n := 546) X 3 dL_law_545 rfl rfl rfl ?_
  refine g_iload_n (n := 547) X 0 dL_law_546 rfl rfl rfl ?_
  refine g_iconst (n := 548) X dL_law_547 rfl ?_
  refine g_iadd (n := 549) (z := i + 1) X dL_law_548 (by omega) rfl ?_
  refine g_scrld (n := 550) (z := u1) X hb (by omega) (by omega) (by omega) dL_law_549 rfl eu1 ?_
  refine g_aload_n (n := 551) X 3 dL_law_550 rfl rfl rfl ?_
  refine g_iload_n (n := 552) X 0 dL_law_551 rfl rfl rfl ?_
  refine g_iconst (n := 553) X dL_law_552 rfl ?_
  refine g_iadd (n := 554) (z := i + 2) X dL_law_553 (by omega) rfl ?_
  refine g_scrld (n := 555) (z := u2) X hb (by omega) (by omega) (by omega) dL_law_554 rfl eu2 ?_
  refine g_aload_n (n := 556) X 3 dL_law_555 rfl rfl rfl ?_
  refine g_iload_n (n := 557) X 0 dL_law_556 rfl rfl rfl ?_
  refine g_iconst (n := 558) X dL_law_557 rfl ?_
  refine g_iadd (n := 559) (z := i + 3) X dL_law_558 (by omega) rfl ?_
  refine g_scrld (n := 560) (z := u3) X hb (by omega) (by omega) (by omega) dL_law_559 rfl eu3 ?_
  refine g_aload_n (n := 561) X 3 dL_law_560 rfl rfl rfl ?_
  refine g_iload_n (n := 562) X 0 dL_law_561 rfl rfl rfl ?_
  refine g_iconst (n := 563) X dL_law_562 rfl ?_
  refine g_iadd (n := 564) (z := i + 4) X dL_law_563 (by omega) rfl ?_
  refine g_scrld (n := 565) (z := u4) X hb (by omega) (by omega) (by omega) dL_law_564 rfl eu4 ?_
  refine g_aload_n (n := 566) X 3 dL_law_565 rfl rfl rfl ?_
  refine g_iload_n (n := 567) X 0 dL_law_566 rfl rfl rfl ?_
  refine g_iconst (n := 568) X dL_law_567 rfl ?_
  refine g_iadd (n := 569) (z := i + 5) X dL_law_568 (by omega) rfl ?_
  refine g_scrld (n := 570) (z := u5) X hb (by omega) (by omega) (by omega) dL_law_569 rfl eu5 ?_
  refine g_if_eq (n := 573) (tgt := 577) X dL_law_570 (by decide) (by omega) rfl (fun c1 => ?_) (fun c1 => ?_)
  · refine g_iconst (n := 578) X dL_law_577 rfl ?_
    refine g_callVi (n := 581) (As := [gJ u1, gJ u2, gJ u3, gJ u4, gJ 0]) (rest := []) (cs1 := cs) (ss1 := ss) X (s_X11_rated u1 (by omega) u2 (by omega) u3 (by omega) u4 (by omega) 0 (by omega) hsz I C ) okX11_rated kw_3_84 ⟨kw_3_85, kw_3_86⟩ ⟨rfl, rfl⟩ ⟨Nat.le_of_ble_eq_true rfl, Nat.le_of_ble_eq_true rfl⟩ rfl (by decide) (gsz hsz (by decide)) lay_0 rfl rfl (Nat.le_of_ble_eq_true rfl) hRm rfl rfl dL_law_578 rfl (fun v2 M3 P4 => ?_)
    obtain ⟨rv2, IM3, CM3, FM3, xM3⟩ := P4
    refine g_pop (n := 582) X dL_law_581 rfl rfl ?_
    refine g_aload_n (n := 583) X 1 dL_law_582 rfl rfl rfl ?_
    refine g_aload_n (n := 584) X 3 dL_law_583 rfl rfl rfl ?_
    refine g_iload_n (n := 585) X 0 dL_law_584 rfl rfl rfl ?_
    refine g_iconst (n := 586) X dL_law_585 rfl ?_
    refine g_iadd (n := 587) (z := i + 1) X dL_law_586 (by omega) rfl ?_
    refine g_scrld (n := 588) (z := u1) X hb (by omega) (by omega) (by omega) dL_law_587 rfl eu1 ?_
    refine g_aload_n (n := 589) X 3 dL_law_588 rfl rfl rfl ?_
    refine g_iload_n (n := 590) X 0 dL_law_589 rfl rfl rfl ?_
    refine g_iconst (n := 591) X dL_law_590 rfl ?_
    refine g_iadd (n := 592) (z := i + 2) X dL_law_591 (by omega) rfl ?_
    refine g_scrld (n := 593) (z := u2) X hb (by omega) (by omega) (by omega) dL_law_592 rfl eu2 ?_
    refine g_aload_n (n := 594) X 3 dL_law_593 rfl rfl rfl ?_
    refine g_iload_n (n := 595) X 0 dL_law_594 rfl rfl rfl ?_
    refine g_iconst (n := 596) X dL_law_595 rfl ?_
    refine g_iadd (n := 597) (z := i + 3) X dL_law_596 (by omega) rfl ?_
    refine g_scrld (n := 598) (z := u3) X hb (by omega) (by omega) (by omega) dL_law_597 rfl eu3 ?_
    refine g_aload_n (n := 599) X 3 dL_law_598 rfl rfl rfl ?_
    refine g_iload_n (n := 600) X 0 dL_law_599 rfl rfl rfl ?_
    refine g_iconst (n := 601) X dL_law_600 rfl ?_
    refine g_iadd (n := 602) (z := i + 4) X dL_law_601 (by omega) rfl ?_
    refine g_scrld (n := 603) (z := u4) X hb (by omega) (by omega) (by omega) dL_law_602 rfl eu4 ?_
    refine g_aload_n (n := 604) X 3 dL_law_603 rfl rfl rfl ?_
    refine g_iload_n (n := 605) X 0 dL_law_604 rfl rfl rfl ?_
    refine g_iconst (n := 606) X dL_law_605 rfl ?_
    refine g_iadd (n := 607) (z := i + 5) X dL_law_606 (by omega) rfl ?_
    refine g_scrld (n := 608) (z := u5) X hb (by omega) (by omega) (by omega) dL_law_607 rfl eu5 ?_
    refine g_if_eq (n := 611) (tgt := 615) X dL_law_608 (by decide) (by omega) rfl (fun c5 => ?_) (fun c5 => by exfalso; omega)
    refine g_iconst (n := 616) X dL_law_615 rfl ?_
    refine g_callVi (n := 619) (As := [gJ u1, gJ u2, gJ u3, gJ u4, gJ 0]) (rest := []) (cs1 := cs) (ss1 := ss) X (s_X12_rated u1 (by omega) u2 (by omega) u3 (by omega) u4 (by omega) 0 (by omega) hsz IM3 CM3 (gW.fr (S := 1237940039285380274901221504) W ⟨sz, hsz, I⟩ (gFr.c gFr.rf FM3 rfl) rfl)) okX12_rated kw_6_149 ⟨kw_6_150, kw_6_151⟩ ⟨rfl, rfl⟩ ⟨Nat.le_of_ble_eq_true rfl, Nat.le_of_ble_eq_true rfl⟩ rfl (by decide) (gsz hsz (by decide)) lay_190 rfl rfl (Nat.le_of_ble_eq_true rfl) hRm rfl rfl dL_law_616 rfl (fun v6 M7 P8 => ?_)
    obtain ⟨rv6, IM7, CM7, FM7, xM7⟩ := P8
    refine g_pop (n := 620) X dL_law_619 rfl rfl ?_
    refine g_goto (tgt := 1992) X dL_law_620 (by decide) ?_
    obtain ⟨hz, hR_nright, hR_nent, hR_rkind, hR_rwho, hR_rto, hR_rn, hR_rweek, hR_rsure, hR_proofs⟩ := rel_rated LR.2.1 LR.1 LR.2.2.2.2.1 LR.2.2.2.2.2.1 (gR_of hsz I) LR.2.2.2.2.2.2.1 LR.2.2.2.2.2.2.2.1 LR.2.2.2.2.2.2.2.2.1 LR.2.2.2.2.2.2.2.2.2.1 LR.2.2.2.2.2.2.2.2.2.2.1 LR.2.2.2.2.2.2.2.2.2.2.2.1 LR.2.2.2.2.2.2.2.2.2.2.2.2 xM3 xM7.2 (fun k => gFr.s191 FM3 rfl k) (fun r k h0 h1 h2 h3 => gFr.Rt FM7 rfl (o := 47 + r) (by omega) k) (gFr.at FM7 rc_1_11.2.2 rfl) (gFr.at FM7 rc_1_12.2.2 rfl)
    exact kk _ _ _ _ ⟨hsz, IM7, CM7, xM7.1, (by rw [((gFr.at FM7 rc_1_13.2.2 rfl).trans (gFr.at FM3 rc_1_13.2.2 rfl))]; exact LA), (by rw [((gFr.at FM7 (rs_NA (k := 4) (by omega)).2.2 rfl).trans (gFr.at FM3 (rs_NA (k := 4) (by omega)).2.2 rfl))]; exact LB), (lwK.fr LK ((gFr.c (gFr.c gFr.rf FM3 rfl) FM7 rfl) : gFr 1702168144315460173946683520 M M7) rfl), ⟨(rl_now.fr (rl_now.fr LR.1 hN FM3 rfl) (gN_of hsz IM3) FM7 rfl), (rl_npers.fr (rl_npers.fr LR.2.1 hN FM3 rfl) (gN_of hsz IM3) FM7 rfl), (rl_sex.fr (rl_sex.fr LR.2.2.1 hN FM3 rfl) (gN_of hsz IM3) FM7 rfl), (rl_born.fr (rl_born.fr LR.2.2.2.1 hN FM3 rfl) (gN_of hsz IM3) FM7 rfl), hR_nright, hR_nent, hR_rkind, hR_rwho, hR_rto, hR_rn, hR_rweek, hR_rsure, hR_proofs⟩⟩
  · refine g_iconst (n := 574) X dL_law_573 rfl ?_
    refine g_goto (tgt := 578) X dL_law_574 (by decide) ?_
    refine g_callVi (n := 581) (As := [gJ u1, gJ u2, gJ u3, gJ u4, gJ 1]) (rest := []) (cs1 := cs) (ss1 := ss) X (s_X11_rated u1 (by omega) u2 (by omega) u3 (by omega) u4 (by omega) 1 (by omega) hsz I C ) okX11_rated kw_3_84 ⟨kw_3_85, kw_3_86⟩ ⟨rfl, rfl⟩ ⟨Nat.le_of_ble_eq_true rfl, Nat.le_of_ble_eq_true rfl⟩ rfl (by decide) (gsz hsz (by decide)) lay_0 rfl rfl (Nat.le_of_ble_eq_true rfl) hRm rfl rfl dL_law_578 rfl (fun v9 M10 P11 => ?_)
    obtain ⟨rv9, IM10, CM10, FM10, xM10⟩ := P11
    refine g_pop (n := 582) X dL_law_581 rfl rfl ?_
    refine g_aload_n (n := 583) X 1 dL_law_582 rfl rfl rfl ?_
    refine g_aload_n (n := 584) X 3 dL_law_583 rfl rfl rfl ?_
    refine g_iload_n (n := 585) X 0 dL_law_584 rfl rfl rfl ?_
    refine g_iconst (n := 586) X dL_law_585 rfl ?_
    refine g_iadd (n := 587) (z := i + 1) X dL_law_586 (by omega) rfl ?_
    refine g_scrld (n := 588) (z := u1) X hb (by omega) (by omega) (by omega) dL_law_587 rfl eu1 ?_
    refine g_aload_n (n := 589) X 3 dL_law_588 rfl rfl rfl ?_
    refine g_iload_n (n := 590) X 0 dL_law_589 rfl rfl rfl ?_
    refine g_iconst (n := 591) X dL_law_590 rfl ?_
    refine g_iadd (n := 592) (z := i + 2) X dL_law_591 (by omega) rfl ?_
    refine g_scrld (n := 593) (z := u2) X hb (by omega) (by omega) (by omega) dL_law_592 rfl eu2 ?_
    refine g_aload_n (n := 594) X 3 dL_law_593 rfl rfl rfl ?_
    refine g_iload_n (n := 595) X 0 dL_law_594 rfl rfl rfl ?_
    refine g_iconst (n := 596) X dL_law_595 rfl ?_
    refine g_iadd (n := 597) (z := i + 3) X dL_law_596 (by omega) rfl ?_
    refine g_scrld (n := 598) (z := u3) X hb (by omega) (by omega) (by omega) dL_law_597 rfl eu3 ?_
    refine g_aload_n (n := 599) X 3 dL_law_598 rfl rfl rfl ?_
    refine g_iload_n (n := 600) X 0 dL_law_599 rfl rfl rfl ?_
    refine g_iconst (n := 601) X dL_law_600 rfl ?_
    refine g_iadd (n := 602) (z := i + 4) X dL_law_601 (by omega) rfl ?_
    refine g_scrld (n := 603) (z := u4) X hb (by omega) (by omega) (by omega) dL_law_602 rfl eu4 ?_
    refine g_aload_n (n := 604) X 3 dL_law_603 rfl rfl rfl ?_
    refine g_iload_n (n := 605) X 0 dL_law_604 rfl rfl rfl ?_
    refine g_iconst (n := 606) X dL_law_605 rfl ?_
    refine g_iadd (n := 607) (z := i + 5) X dL_law_606 (by omega) rfl ?_
    refine g_scrld (n := 608) (z := u5) X hb (by omega) (by omega) (by omega) dL_law_607 rfl eu5 ?_
    refine g_if_eq (n := 611) (tgt := 615) X dL_law_608 (by decide) (by omega) rfl (fun c12 => by exfalso; omega) (fun c12 => ?_)
    refine g_iconst (n := 612) X dL_law_611 rfl ?_
    refine g_goto (tgt := 616) X dL_law_612 (by decide) ?_
    refine g_callVi (n := 619) (As := [gJ u1, gJ u2, gJ u3, gJ u4, gJ 1]) (rest := []) (cs1 := cs) (ss1 := ss) X (s_X12_rated u1 (by omega) u2 (by omega) u3 (by omega) u4 (by omega) 1 (by omega) hsz IM10 CM10 (gW.fr (S := 1237940039285380274901221504) W ⟨sz, hsz, I⟩ (gFr.c gFr.rf FM10 rfl) rfl)) okX12_rated kw_6_149 ⟨kw_6_150, kw_6_151⟩ ⟨rfl, rfl⟩ ⟨Nat.le_of_ble_eq_true rfl, Nat.le_of_ble_eq_true rfl⟩ rfl (by decide) (gsz hsz (by decide)) lay_190 rfl rfl (Nat.le_of_ble_eq_true rfl) hRm rfl rfl dL_law_616 rfl (fun v13 M14 P15 => ?_)
    obtain ⟨rv13, IM14, CM14, FM14, xM14⟩ := P15
    refine g_pop (n := 620) X dL_law_619 rfl rfl ?_
    refine g_goto (tgt := 1992) X dL_law_620 (by decide) ?_
    obtain ⟨hz, hR_nright, hR_nent, hR_rkind, hR_rwho, hR_rto, hR_rn, hR_rweek, hR_rsure, hR_proofs⟩ := rel_rated LR.2.1 LR.1 LR.2.2.2.2.1 LR.2.2.2.2.2.1 (gR_of hsz I) LR.2.2.2.2.2.2.1 LR.2.2.2.2.2.2.2.1 LR.2.2.2.2.2.2.2.2.1 LR.2.2.2.2.2.2.2.2.2.1 LR.2.2.2.2.2.2.2.2.2.2.1 LR.2.2.2.2.2.2.2.2.2.2.2.1 LR.2.2.2.2.2.2.2.2.2.2.2.2 xM10 xM14.2 (fun k => gFr.s191 FM10 rfl k) (fun r k h0 h1 h2 h3 => gFr.Rt FM14 rfl (o := 47 + r) (by omega) k) (gFr.at FM14 rc_1_11.2.2 rfl) (gFr.at FM14 rc_1_12.2.2 rfl)
    exact kk _ _ _ _ ⟨hsz, IM14, CM14, xM14.1, (by rw [((gFr.at FM14 rc_1_13.2.2 rfl).trans (gFr.at FM10 rc_1_13.2.2 rfl))]; exact LA), (by rw [((gFr.at FM14 (rs_NA (k := 4) (by omega)).2.2 rfl).trans (gFr.at FM10 (rs_NA (k := 4) (by omega)).2.2 rfl))]; exact LB), (lwK.fr LK ((gFr.c (gFr.c gFr.rf FM10 rfl) FM14 rfl) : gFr 1702168144315460173946683520 M M14) rfl), ⟨(rl_now.fr (rl_now.fr LR.1 hN FM10 rfl) (gN_of hsz IM10) FM14 rfl), (rl_npers.fr (rl_npers.fr LR.2.1 hN FM10 rfl) (gN_of hsz IM10) FM14 rfl), (rl_sex.fr (rl_sex.fr LR.2.2.1 hN FM10 rfl) (gN_of hsz IM10) FM14 rfl), (rl_born.fr (rl_born.fr LR.2.2.2.1 hN FM10 rfl) (gN_of hsz IM10) FM14 rfl), hR_nright, hR_nent, hR_rkind, hR_rwho, hR_rto, hR_rn, hR_rweek, hR_rsure, hR_proofs⟩⟩
theorem dL_law_623 : decode code 623 = .ok (.aload_n 1, 1) := dc_43 (by decide +kernel)
theorem dL_law_624 : decode code 624 = .ok (.aload_n 0, 1) := dc_42 (by decide +kernel)
theorem dL_law_625 : decode code 625 = .ok (.iload_n 3, 1) := dc_29 (by decide +kernel)
theorem dL_law_626 : decode code 626 = .ok (.iconst 1, 1) := dc_4 (by decide +kernel)
theorem dL_law_627 : decode code 627 = .ok (.iadd, 1) := dc_96 (by decide +kernel)
theorem dL_law_628 : decode code 628 = .ok (.iaload, 1) := dc_46 (by decide +kernel)
theorem dL_law_629 : decode code 629 = .ok (.aload_n 0, 1) := dc_42 (by decide +kernel)
theorem dL_law_630 : decode code 630 = .ok (.iload_n 3, 1) := dc_29 (by decide +kernel)
theorem dL_law_631 : decode code 631 = .ok (.iconst 2, 1) := dc_5 (by decide +kernel)
theorem dL_law_632 : decode code 632 = .ok (.iadd, 1) := dc_96 (by decide +kernel)
theorem dL_law_633 : decode code 633 = .ok (.iaload, 1) := dc_46 (by decide +kernel)
theorem dL_law_634 : decode code 634 = .ok (.aload_n 0, 1) := dc_42 (by decide +kernel)
theorem dL_law_635 : decode code 635 = .ok (.iload_n 3, 1) := dc_29 (by decide +kernel)
theorem dL_law_636 : decode code 636 = .ok (.iconst 3, 1) := dc_6 (by decide +kernel)
theorem dL_law_637 : decode code 637 = .ok (.iadd, 1) := dc_96 (by decide +kernel)
theorem dL_law_638 : decode code 638 = .ok (.iaload, 1) := dc_46 (by decide +kernel)
theorem dL_law_639 : decode code 639 = .ok (.aload_n 0, 1) := dc_42 (by decide +kernel)
theorem dL_law_640 : decode code 640 = .ok (.iload_n 3, 1) := dc_29 (by decide +kernel)
theorem dL_law_641 : decode code 641 = .ok (.iconst 4, 1) := dc_7 (by decide +kernel)
theorem dL_law_642 : decode code 642 = .ok (.iadd, 1) := dc_96 (by decide +kernel)
theorem dL_law_643 : decode code 643 = .ok (.iaload, 1) := dc_46 (by decide +kernel)
theorem dL_law_644 : decode code 644 = .ok (.ifCond .eq 7, 3) := dc_153 0 7 7 (by decide +kernel)
theorem dL_law_651 : decode code 651 = .ok (.iconst 0, 1) := dc_3 (by decide +kernel)
theorem dL_law_652 : decode code 652 = .ok (.invokevirtual 46, 3) := dc_182 0 46 (by decide +kernel)
theorem kw_3_88 : (Jvm.Cond.methodLink "ParishUnionLaw" (46 : Nat) ({ cls := "ParishUnion", name := "wed", desc := "(IIIZ)I" } : Jvm.MethodName)) ∈ gT := gT_of (tb_3 _ (List.mem_of_getElem? (i := 88) rfl)) rfl
theorem kw_3_91 : (Jvm.Cond.code ({ cls := "ParishUnion", name := "wed", desc := "(IIIZ)I" } : Jvm.MethodName) prog_1_method_9_code (5 : Nat) (Option.some Jvm.ClassFile.FieldType.int)) ∈ gT := gT_of (tb_3 _ (List.mem_of_getElem? (i := 91) rfl)) rfl
theorem okX11_wed : gQok yX11_wed cX11_wed 5 (Option.some Jvm.ClassFile.FieldType.int) 4 := ⟨kw_3_91, kw_1_1, by decide +kernel, by decide +kernel, by decide +kernel⟩
theorem kw_3_89 : (Jvm.Cond.instanceMethod ({ cls := "ParishUnion", name := "wed", desc := "(IIIZ)I" } : Jvm.MethodName)) ∈ gT := gT_of (tb_3 _ (List.mem_of_getElem? (i := 89) rfl)) rfl
theorem kw_3_90 : (Jvm.Cond.selects "ParishUnion" ({ cls := "ParishUnion", name := "wed", desc := "(IIIZ)I" } : Jvm.MethodName) ({ cls := "ParishUnion", name := "wed", desc := "(IIIZ)I" } : Jvm.MethodName)) ∈ gT := gT_of (tb_3 _ (List.mem_of_getElem? (i := 90) rfl)) rfl
theorem dL_law_655 : decode code 655 = .ok (.pop, 1) := dc_87 (by decide +kernel)
theorem dL_law_656 : decode code 656 = .ok (.aload_n 2, 1) := dc_44 (by decide +kernel)
theorem dL_law_657 : decode code 657 = .ok (.aload_n 0, 1) := dc_42 (by decide +kernel)
theorem dL_law_658 : decode code 658 = .ok (.iload_n 3, 1) := dc_29 (by decide +kernel)
theorem dL_law_659 : decode code 659 = .ok (.iconst 1, 1) := dc_4 (by decide +kernel)
theorem dL_law_660 : decode code 660 = .ok (.iadd, 1) := dc_96 (by decide +kernel)
theorem dL_law_661 : decode code 661 = .ok (.iaload, 1) := dc_46 (by decide +kernel)
theorem dL_law_662 : decode code 662 = .ok (.aload_n 0, 1) := dc_42 (by decide +kernel)
theorem dL_law_663 : decode code 663 = .ok (.iload_n 3, 1) := dc_29 (by decide +kernel)
theorem dL_law_664 : decode code 664 = .ok (.iconst 2, 1) := dc_5 (by decide +kernel)
theorem dL_law_665 : decode code 665 = .ok (.iadd, 1) := dc_96 (by decide +kernel)
theorem dL_law_666 : decode code 666 = .ok (.iaload, 1) := dc_46 (by decide +kernel)
theorem dL_law_667 : decode code 667 = .ok (.aload_n 0, 1) := dc_42 (by decide +kernel)
theorem dL_law_668 : decode code 668 = .ok (.iload_n 3, 1) := dc_29 (by decide +kernel)
theorem dL_law_669 : decode code 669 = .ok (.iconst 3, 1) := dc_6 (by decide +kernel)
theorem dL_law_670 : decode code 670 = .ok (.iadd, 1) := dc_96 (by decide +kernel)
theorem dL_law_671 : decode code 671 = .ok (.iaload, 1) := dc_46 (by decide +kernel)
theorem dL_law_672 : decode code 672 = .ok (.aload_n 0, 1) := dc_42 (by decide +kernel)
theorem dL_law_673 : decode code 673 = .ok (.iload_n 3, 1) := dc_29 (by decide +kernel)
theorem dL_law_674 : decode code 674 = .ok (.iconst 4, 1) := dc_7 (by decide +kernel)
theorem dL_law_675 : decode code 675 = .ok (.iadd, 1) := dc_96 (by decide +kernel)
theorem dL_law_676 : decode code 676 = .ok (.iaload, 1) := dc_46 (by decide +kernel)
theorem dL_law_677 : decode code 677 = .ok (.ifCond .eq 7, 3) := dc_153 0 7 7 (by decide +kernel)
theorem dL_law_684 : decode code 684 = .ok (.iconst 0, 1) := dc_3 (by decide +kernel)
theorem dL_law_685 : decode code 685 = .ok (.invokevirtual 50, 3) := dc_182 0 50 (by decide +kernel)
theorem kw_6_153 : (Jvm.Cond.methodLink "ParishUnionLaw" (50 : Nat) ({ cls := "ParishUnionModel", name := "wed", desc := "(IIIZ)I" } : Jvm.MethodName)) ∈ gT := gT_of (tb_6 _ (List.mem_of_getElem? (i := 153) rfl)) rfl
theorem kw_6_156 : (Jvm.Cond.code ({ cls := "ParishUnionModel", name := "wed", desc := "(IIIZ)I" } : Jvm.MethodName) prog_14_method_20_code (5 : Nat) (Option.some Jvm.ClassFile.FieldType.int)) ∈ gT := gT_of (tb_6 _ (List.mem_of_getElem? (i := 156) rfl)) rfl
theorem okX12_wed : gQok yX12_wed cX12_wed 5 (Option.some Jvm.ClassFile.FieldType.int) 4 := ⟨kw_6_156, kw_1_13, by decide +kernel, by decide +kernel, by decide +kernel⟩
theorem kw_6_154 : (Jvm.Cond.instanceMethod ({ cls := "ParishUnionModel", name := "wed", desc := "(IIIZ)I" } : Jvm.MethodName)) ∈ gT := gT_of (tb_6 _ (List.mem_of_getElem? (i := 154) rfl)) rfl
theorem kw_6_155 : (Jvm.Cond.selects "ParishUnionModel" ({ cls := "ParishUnionModel", name := "wed", desc := "(IIIZ)I" } : Jvm.MethodName) ({ cls := "ParishUnionModel", name := "wed", desc := "(IIIZ)I" } : Jvm.MethodName)) ∈ gT := gT_of (tb_6 _ (List.mem_of_getElem? (i := 155) rfl)) rfl
theorem dL_law_688 : decode code 688 = .ok (.pop, 1) := dc_87 (by decide +kernel)
theorem dL_law_689 : decode code 689 = .ok (.goto 1303, 3) := dc_167 5 23 1303 (by decide +kernel)
theorem dL_law_647 : decode code 647 = .ok (.iconst 1, 1) := dc_4 (by decide +kernel)
theorem dL_law_648 : decode code 648 = .ok (.goto 4, 3) := dc_167 0 4 4 (by decide +kernel)
theorem dL_law_680 : decode code 680 = .ok (.iconst 1, 1) := dc_4 (by decide +kernel)
theorem dL_law_681 : decode code 681 = .ok (.goto 4, 3) := dc_167 0 4 4 (by decide +kernel)
set_option maxRecDepth 100000 in
set_option maxHeartbeats 4000000 in
theorem law_case_7 {p : Program} {e : Env} {s : State} {m : MethodId} {below : List Frame} {meth : Method} {cd : Code} {l : Launch} {D : va_G} {cA : Nat → ClassId} {b Ln : Nat} {xs : Nat → Int32} (X : gCx p s m #[Value.ref b] meth cd s.heap.size D cA "ParishUnionLaw" code 4) (hr : meth.sig.returnType = ret) (hb : b < s.heap.size ∧ va_X b Ln xs s s.heap) (hLn : Ln ≤ 3584) {sz cs ss : Nat} {M : gM} (L : lwI sz cs ss M) (i : Int) (hi : 0 ≤ i ∧ i + 7 ≤ (Ln : Int)) (kk : ∀ (sz cs ss : Nat) (M1 : gM), lwI sz cs ss M1 → G p l e room_1 s m #[Value.ref b] below meth cd s.heap.size D cA 4 (lw_Z below #[Value.ref b] s) cs ss M1 sz 1992 [(3, gJ i), (2, gA s.heap.size 190), (1, gA s.heap.size 0), (0, .ref b)] []) : G p l e room_1 s m #[Value.ref b] below meth cd s.heap.size D cA 4 (lw_Z below #[Value.ref b] s) cs ss M sz 623 [(3, gJ i), (2, gA s.heap.size 190), (1, gA s.heap.size 0), (0, .ref b)] [] := by
  obtain ⟨hsz, I, C, W, LA, LB, LK, LR⟩ := L
  have hN := gN_of hsz I
  obtain ⟨ac, hac, rac⟩ : ∃ v : Int, M 1 13 = v ∧ (0 ≤ v ∧ v ≤ 10) := by
    obtain ⟨v, hv, rv⟩ := gRd I (by decide) (gsz hsz (by decide)) rc_1_13.1
    exact ⟨v, hv, by omega⟩
  obtain ⟨ab, hab, rab⟩ : ∃ v : Int, M 191 4 = v ∧ (0 ≤ v ∧ v ≤ 10) := by
    obtain ⟨v, hv, rv⟩ := gRd I (by decide) (gsz hsz (by decide)) (rs_NA (k := 4) (by omega)).1
    exact ⟨v, hv, by omega⟩
  have hRm : cs + 0 ≤ room_1.cells ∧ ss + 0 ≤ room_1.slots := by
    show cs + 0 ≤ 349274 ∧ ss + 0 ≤ 8054428
    have := lwK.room LK
    omega
  obtain ⟨u1, eu1, ru1⟩ : ∃ z : Int, xs (i + 1).toNat = Int32.ofInt z ∧ (-2147483648 ≤ z ∧ z ≤ 2147483647) := ⟨_, gi_of _, gi_rg _⟩
  obtain ⟨u2, eu2, ru2⟩ : ∃ z : Int, xs (i + 2).toNat = Int32.ofInt z ∧ (-2147483648 ≤ z ∧ z ≤ 2147483647) := ⟨_, gi_of _, gi_rg _⟩
  obtain ⟨u3, eu3, ru3⟩ : ∃ z : Int, xs (i + 3).toNat = Int32.ofInt z ∧ (-2147483648 ≤ z ∧ z ≤ 2147483647) := ⟨_, gi_of _, gi_rg _⟩
  obtain ⟨u4, eu4, ru4⟩ : ∃ z : Int, xs (i + 4).toNat = Int32.ofInt z ∧ (-2147483648 ≤ z ∧ z ≤ 2147483647) := ⟨_, gi_of _, gi_rg _⟩
  obtain ⟨u5, eu5, ru5⟩ : ∃ z : Int, xs (i + 5).toNat = Int32.ofInt z ∧ (-2147483648 ≤ z ∧ z ≤ 2147483647) := ⟨_, gi_of _, gi_rg _⟩
  obtain ⟨u6, eu6, ru6⟩ : ∃ z : Int, xs (i + 6).toNat = Int32.ofInt z ∧ (-2147483648 ≤ z ∧ z ≤ 2147483647) := ⟨_, gi_of _, gi_rg _⟩
  refine g_aload_n (n := 624) X 2 dL_law_623 rfl rfl rfl ?_
  refine g_aload_n (n := 625) X 3 dL_law_624 rfl rfl rfl ?_
  refine g_iload_n (n := 626) X 0 dL_law_625 rfl rfl rfl ?_
  refine g_iconst (n := 627) X dL_law_626 rfl ?_
  refine g_iadd (n := 628) (z := i + 1) X dL_law_627 (by omega) rfl ?_
  refine g_scrld (n := 629) (z := u1) X hb (by omega) (by omega) (by omega) dL_law_628 rfl eu1 ?_
  refine g_aload_n (n := 630) X 3 dL_law_629 rfl rfl rfl ?_
  refine g_iload_n (n := 631) X 0 dL_law_630 rfl rfl rfl ?_
  refine g_iconst (n := 632) X dL_law_631 rfl ?_
  refine g_iadd (n := 633) (z := i + 2) X dL_law_632 (by omega) rfl ?_
  refine g_scrld (n := 634) (z := u2) X hb (by omega) (by omega) (by omega) dL_law_633 rfl eu2 ?_
  refine g_aload_n (n := 635) X 3 dL_law_634 rfl rfl rfl ?_
  refine g_iload_n (n := 636) X 0 dL_law_635 rfl rfl rfl ?_
  refine g_iconst (n := 637) X dL_law_636 rfl ?_
  refine g_iadd (n := 638) (z := i + 3) X dL_law_637 (by omega) rfl ?_
  refine g_scrld (n := 639) (z := u3) X hb (by omega) (by omega) (by omega) dL_law_638 rfl eu3 ?_
  refine g_aload_n (n := 640) X 3 dL_law_639 rfl rfl rfl ?_
  refine g_iload_n (n := 641) X 0 dL_law_640 rfl rfl rfl ?_
  refine g_iconst (n := 642) X dL_law_641 rfl ?_
  refine g_iadd (n := 643) (z := i + 4) X dL_law_642 (by omega) rfl ?_
  refine g_scrld (n := 644) (z := u4) X hb (by omega) (by omega) (by omega) dL_law_643 rfl eu4 ?_
  refine g_if_eq (n := 647) (tgt := 651) X dL_law_644 (by decide) (by omega) rfl (fun c1 => ?_) (fun c1 => ?_)
  · refine g_iconst (n := 652) X dL_law_651 rfl ?_
    refine g_callVi (n := 655) (As := [gJ u1, gJ u2, gJ u3, gJ 0]) (rest := []) (cs1 := cs) (ss1 := ss) X (s_X11_wed u1 (by omega) u2 (by omega) u3 (by omega) 0 (by omega) hsz I C ) okX11_wed kw_3_88 ⟨kw_3_89, kw_3_90⟩ ⟨rfl, rfl⟩ ⟨Nat.le_of_ble_eq_true rfl, Nat.le_of_ble_eq_true rfl⟩ rfl (by decide) (gsz hsz (by decide)) lay_0 rfl rfl (Nat.le_of_ble_eq_true rfl) hRm rfl rfl dL_law_652 rfl (fun v2 M3 P4 => ?_)
    obtain ⟨rv2, IM3, CM3, FM3, xM3⟩ := P4
    refine g_pop (n := 656) X dL_law_655 rfl rfl ?_
    refine g_aload_n (n := 657) X 1 dL_law_656 rfl rfl rfl ?_
    refine g_aload_n (n := 658) X 3 dL_law_657 rfl rfl rfl ?_
    refine g_iload_n (n := 659) X 0 dL_law_658 rfl rfl rfl ?_
    refine g_iconst (n := 660) X dL_law_659 rfl ?_
    refine g_iadd (n := 661) (z := i + 1) X dL_law_660 (by omega) rfl ?_
    refine g_scrld (n := 662) (z := u1) X hb (by omega) (by omega) (by omega) dL_law_661 rfl eu1 ?_
    refine g_aload_n (n := 663) X 3 dL_law_662 rfl rfl rfl ?_
    refine g_iload_n (n := 664) X 0 dL_law_663 rfl rfl rfl ?_
    refine g_iconst (n := 665) X dL_law_664 rfl ?_
    refine g_iadd (n := 666) (z := i + 2) X dL_law_665 (by omega) rfl ?_
    refine g_scrld (n := 667) (z := u2) X hb (by omega) (by omega) (by omega) dL_law_666 rfl eu2 ?_
    refine g_aload_n (n := 668) X 3 dL_law_667 rfl rfl rfl ?_
    refine g_iload_n (n := 669) X 0 dL_law_668 rfl rfl rfl ?_
    refine g_iconst (n := 670) X dL_law_669 rfl ?_
    refine g_iadd (n := 671) (z := i + 3) X dL_law_670 (by omega) rfl ?_
    refine g_scrld (n := 672) (z := u3) X hb (by omega) (by omega) (by omega) dL_law_671 rfl eu3 ?_
    refine g_aload_n (n := 673) X 3 dL_law_672 rfl rfl rfl ?_
    refine g_iload_n (n := 674) X 0 dL_law_673 rfl rfl rfl ?_
    refine g_iconst (n := 675) X dL_law_674 rfl ?_
    refine g_iadd (n := 676) (z := i + 4) X dL_law_675 (by omega) rfl ?_
    refine g_scrld (n := 677) (z := u4) X hb (by omega) (by omega) (by omega) dL_law_676 rfl eu4 ?_
    refine g_if_eq (n := 680) (tgt := 684) X dL_law_677 (by decide) (by omega) rfl (fun c5 => ?_) (fun c5 => by exfalso; omega)
    refine g_iconst (n := 685) X dL_law_684 rfl ?_
    refine g_callVi (n := 688) (As := [gJ u1, gJ u2, gJ u3, gJ 0]) (rest := []) (cs1 := cs) (ss1 := ss) X (s_X12_wed u1 (by omega) u2 (by omega) u3 (by omega) 0 (by omega) hsz IM3 CM3 (gW.fr (S := 1237940039285380274901221504) W ⟨sz, hsz, I⟩ (gFr.c gFr.rf FM3 rfl) rfl)) okX12_wed kw_6_153 ⟨kw_6_154, kw_6_155⟩ ⟨rfl, rfl⟩ ⟨Nat.le_of_ble_eq_true rfl, Nat.le_of_ble_eq_true rfl⟩ rfl (by decide) (gsz hsz (by decide)) lay_190 rfl rfl (Nat.le_of_ble_eq_true rfl) hRm rfl rfl dL_law_685 rfl (fun v6 M7 P8 => ?_)
    obtain ⟨rv6, IM7, CM7, FM7, xM7⟩ := P8
    refine g_pop (n := 689) X dL_law_688 rfl rfl ?_
    refine g_goto (tgt := 1992) X dL_law_689 (by decide) ?_
    obtain ⟨hz, hR_nright, hR_nent, hR_rkind, hR_rwho, hR_rto, hR_rn, hR_rweek, hR_rsure, hR_proofs⟩ := rel_wed LR.2.1 LR.1 LR.2.2.1 LR.2.2.2.2.1 LR.2.2.2.2.2.1 (gR_of hsz I) LR.2.2.2.2.2.2.1 LR.2.2.2.2.2.2.2.1 LR.2.2.2.2.2.2.2.2.1 LR.2.2.2.2.2.2.2.2.2.1 LR.2.2.2.2.2.2.2.2.2.2.1 LR.2.2.2.2.2.2.2.2.2.2.2.1 LR.2.2.2.2.2.2.2.2.2.2.2.2 xM3 xM7.2 (fun k => gFr.s191 FM3 rfl k) (fun r k h0 h1 h2 h3 => gFr.Rt FM7 rfl (o := 47 + r) (by omega) k) (gFr.at FM7 rc_1_11.2.2 rfl) (gFr.at FM7 rc_1_12.2.2 rfl)
    exact kk _ _ _ _ ⟨hsz, IM7, CM7, xM7.1, (by rw [((gFr.at FM7 rc_1_13.2.2 rfl).trans (gFr.at FM3 rc_1_13.2.2 rfl))]; exact LA), (by rw [((gFr.at FM7 (rs_NA (k := 4) (by omega)).2.2 rfl).trans (gFr.at FM3 (rs_NA (k := 4) (by omega)).2.2 rfl))]; exact LB), (lwK.fr LK ((gFr.c (gFr.c gFr.rf FM3 rfl) FM7 rfl) : gFr 1702168144315460173946683520 M M7) rfl), ⟨(rl_now.fr (rl_now.fr LR.1 hN FM3 rfl) (gN_of hsz IM3) FM7 rfl), (rl_npers.fr (rl_npers.fr LR.2.1 hN FM3 rfl) (gN_of hsz IM3) FM7 rfl), (rl_sex.fr (rl_sex.fr LR.2.2.1 hN FM3 rfl) (gN_of hsz IM3) FM7 rfl), (rl_born.fr (rl_born.fr LR.2.2.2.1 hN FM3 rfl) (gN_of hsz IM3) FM7 rfl), hR_nright, hR_nent, hR_rkind, hR_rwho, hR_rto, hR_rn, hR_rweek, hR_rsure, hR_proofs⟩⟩
  · refine g_iconst (n := 648) X dL_law_647 rfl ?_
    refine g_goto (tgt := 652) X dL_law_648 (by decide) ?_
    refine g_callVi (n := 655) (As := [gJ u1, gJ u2, gJ u3, gJ 1]) (rest := []) (cs1 := cs) (ss1 := ss) X (s_X11_wed u1 (by omega) u2 (by omega) u3 (by omega) 1 (by omega) hsz I C ) okX11_wed kw_3_88 ⟨kw_3_89, kw_3_90⟩ ⟨rfl, rfl⟩ ⟨Nat.le_of_ble_eq_true rfl, Nat.le_of_ble_eq_true rfl⟩ rfl (by decide) (gsz hsz (by decide)) lay_0 rfl rfl (Nat.le_of_ble_eq_true rfl) hRm rfl rfl dL_law_652 rfl (fun v9 M10 P11 => ?_)
    obtain ⟨rv9, IM10, CM10, FM10, xM10⟩ := P11
    refine g_pop (n := 656) X dL_law_655 rfl rfl ?_
    refine g_aload_n (n := 657) X 1 dL_law_656 rfl rfl rfl ?_
    refine g_aload_n (n := 658) X 3 dL_law_657 rfl rfl rfl ?_
    refine g_iload_n (n := 659) X 0 dL_law_658 rfl rfl rfl ?_
    refine g_iconst (n := 660) X dL_law_659 rfl ?_
    refine g_iadd (n := 661) (z := i + 1) X dL_law_660 (by omega) rfl ?_
    refine g_scrld (n := 662) (z := u1) X hb (by omega) (by omega) (by omega) dL_law_661 rfl eu1 ?_
    refine g_aload_n (n := 663) X 3 dL_law_662 rfl rfl rfl ?_
    refine g_iload_n (n := 664) X 0 dL_law_663 rfl rfl rfl ?_
    refine g_iconst (n := 665) X dL_law_664 rfl ?_
    refine g_iadd (n := 666) (z := i + 2) X dL_law_665 (by omega) rfl ?_
    refine g_scrld (n := 667) (z := u2) X hb (by omega) (by omega) (by omega) dL_law_666 rfl eu2 ?_
    refine g_aload_n (n := 668) X 3 dL_law_667 rfl rfl rfl ?_
    refine g_iload_n (n := 669) X 0 dL_law_668 rfl rfl rfl ?_
    refine g_iconst (n := 670) X dL_law_669 rfl ?_
    refine g_iadd (n := 671) (z := i + 3) X dL_law_670 (by omega) rfl ?_
    refine g_scrld (n := 672) (z := u3) X hb (by omega) (by omega) (by omega) dL_law_671 rfl eu3 ?_
    refine g_aload_n (n := 673) X 3 dL_law_672 rfl rfl rfl ?_
    refine g_iload_n (n := 674) X 0 dL_law_673 rfl rfl rfl ?_
    refine g_iconst (n := 675) X dL_law_674 rfl ?_
    refine g_iadd (n := 676) (z := i + 4) X dL_law_675 (by omega) rfl ?_
    refine g_scrld (n := 677) (z := u4) X hb (by omega) (by omega) (by omega) dL_law_676 rfl eu4 ?_
    refine g_if_eq (n := 680) (tgt := 684) X dL_law_677 (by decide) (by omega) rfl (fun c12 => by exfalso; omega) (fun c12 => ?_)
    refine g_iconst (n := 681) X dL_law_680 rfl ?_
    refine g_goto (tgt := 685) X dL_law_681 (by decide) ?_
    refine g_callVi (n := 688) (As := [gJ u1, gJ u2, gJ u3, gJ 1]) (rest := []) (cs1 := cs) (ss1 := ss) X (s_X12_wed u1 (by omega) u2 (by omega) u3 (by omega) 1 (by omega) hsz IM10 CM10 (gW.fr (S := 1237940039285380274901221504) W ⟨sz, hsz, I⟩ (gFr.c gFr.rf FM10 rfl) rfl)) okX12_wed kw_6_153 ⟨kw_6_154, kw_6_155⟩ ⟨rfl, rfl⟩ ⟨Nat.le_of_ble_eq_true rfl, Nat.le_of_ble_eq_true rfl⟩ rfl (by decide) (gsz hsz (by decide)) lay_190 rfl rfl (Nat.le_of_ble_eq_true rfl) hRm rfl rfl dL_law_685 rfl (fun v13 M14 P15 => ?_)
    obtain ⟨rv13, IM14, CM14, FM14, xM14⟩ := P15
    refine g_pop (n := 689) X dL_law_688 rfl rfl ?_
    refine g_goto (tgt := 1992) X dL_law_689 (by decide) ?_
    obtain ⟨hz, hR_nright, hR_nent, hR_rkind, hR_rwho, hR_rto, hR_rn, hR_rweek, hR_rsure, hR_proofs⟩ := rel_wed LR.2.1 LR.1 LR.2.2.1 LR.2.2.2.2.1 LR.2.2.2.2.2.1 (gR_of hsz I) LR.2.2.2.2.2.2.1 LR.2.2.2.2.2.2.2.1 LR.2.2.2.2.2.2.2.2.1 LR.2.2.2.2.2.2.2.2.2.1 LR.2.2.2.2.2.2.2.2.2.2.1 LR.2.2.2.2.2.2.2.2.2.2.2.1 LR.2.2.2.2.2.2.2.2.2.2.2.2 xM10 xM14.2 (fun k => gFr.s191 FM10 rfl k) (fun r k h0 h1 h2 h3 => gFr.Rt FM14 rfl (o := 47 + r) (by omega) k) (gFr.at FM14 rc_1_11.2.2 rfl) (gFr.at FM14 rc_1_12.2.2 rfl)
    exact kk _ _ _ _ ⟨hsz, IM14, CM14, xM14.1, (by rw [((gFr.at FM14 rc_1_13.2.2 rfl).trans (gFr.at FM10 rc_1_13.2.2 rfl))]; exact LA), (by rw [((gFr.at FM14 (rs_NA (k := 4) (by omega)).2.2 rfl).trans (gFr.at FM10 (rs_NA (k := 4) (by omega)).2.2 rfl))]; exact LB), (lwK.fr LK ((gFr.c (gFr.c gFr.rf FM10 rfl) FM14 rfl) : gFr 1702168144315460173946683520 M M14) rfl), ⟨(rl_now.fr (rl_now.fr LR.1 hN FM10 rfl) (gN_of hsz IM10) FM14 rfl), (rl_npers.fr (rl_npers.fr LR.2.1 hN FM10 rfl) (gN_of hsz IM10) FM14 rfl), (rl_sex.fr (rl_sex.fr LR.2.2.1 hN FM10 rfl) (gN_of hsz IM10) FM14 rfl), (rl_born.fr (rl_born.fr LR.2.2.2.1 hN FM10 rfl) (gN_of hsz IM10) FM14 rfl), hR_nright, hR_nent, hR_rkind, hR_rwho, hR_rto, hR_rn, hR_rweek, hR_rsure, hR_proofs⟩⟩
