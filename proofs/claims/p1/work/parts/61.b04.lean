theorem dL_law_404 : decode code 404 = .ok (.aload_n 1, 1) := by decide +kernel
theorem dL_law_405 : decode code 405 = .ok (.aload_n 0, 1) := by decide +kernel
theorem dL_law_406 : decode code 406 = .ok (.iload_n 3, 1) := by decide +kernel
theorem dL_law_407 : decode code 407 = .ok (.iconst 1, 1) := by decide +kernel
theorem dL_law_408 : decode code 408 = .ok (.iadd, 1) := by decide +kernel
theorem dL_law_409 : decode code 409 = .ok (.iaload, 1) := by decide +kernel
theorem dL_law_410 : decode code 410 = .ok (.aload_n 0, 1) := by decide +kernel
theorem dL_law_411 : decode code 411 = .ok (.iload_n 3, 1) := by decide +kernel
theorem dL_law_412 : decode code 412 = .ok (.iconst 2, 1) := by decide +kernel
theorem dL_law_413 : decode code 413 = .ok (.iadd, 1) := by decide +kernel
theorem dL_law_414 : decode code 414 = .ok (.iaload, 1) := by decide +kernel
theorem dL_law_415 : decode code 415 = .ok (.invokevirtual 32, 3) := by decide +kernel
theorem kw_3_68 : (Jvm.Cond.methodLink "ParishUnionLaw" (32 : Nat) ({ cls := "ParishUnion", name := "about", desc := "(II)I" } : Jvm.MethodName)) ∈ gT := gT_of (tb_3 _ (List.mem_of_getElem? (i := 68) rfl)) rfl
theorem kw_3_71 : (Jvm.Cond.code ({ cls := "ParishUnion", name := "about", desc := "(II)I" } : Jvm.MethodName) prog_1_method_6_code (4 : Nat) (Option.some Jvm.ClassFile.FieldType.int)) ∈ gT := gT_of (tb_3 _ (List.mem_of_getElem? (i := 71) rfl)) rfl
theorem okX11_about : gQok yX11_about cX11_about 4 (Option.some Jvm.ClassFile.FieldType.int) 2 := ⟨kw_3_71, kw_1_1, by decide +kernel, by decide +kernel, by decide +kernel⟩
theorem kw_3_69 : (Jvm.Cond.instanceMethod ({ cls := "ParishUnion", name := "about", desc := "(II)I" } : Jvm.MethodName)) ∈ gT := gT_of (tb_3 _ (List.mem_of_getElem? (i := 69) rfl)) rfl
theorem kw_3_70 : (Jvm.Cond.selects "ParishUnion" ({ cls := "ParishUnion", name := "about", desc := "(II)I" } : Jvm.MethodName) ({ cls := "ParishUnion", name := "about", desc := "(II)I" } : Jvm.MethodName)) ∈ gT := gT_of (tb_3 _ (List.mem_of_getElem? (i := 70) rfl)) rfl
theorem dL_law_418 : decode code 418 = .ok (.aload_n 2, 1) := by decide +kernel
theorem dL_law_419 : decode code 419 = .ok (.aload_n 0, 1) := by decide +kernel
theorem dL_law_420 : decode code 420 = .ok (.iload_n 3, 1) := by decide +kernel
theorem dL_law_421 : decode code 421 = .ok (.iconst 1, 1) := by decide +kernel
theorem dL_law_422 : decode code 422 = .ok (.iadd, 1) := by decide +kernel
theorem dL_law_423 : decode code 423 = .ok (.iaload, 1) := by decide +kernel
theorem dL_law_424 : decode code 424 = .ok (.aload_n 0, 1) := by decide +kernel
theorem dL_law_425 : decode code 425 = .ok (.iload_n 3, 1) := by decide +kernel
theorem dL_law_426 : decode code 426 = .ok (.iconst 2, 1) := by decide +kernel
theorem dL_law_427 : decode code 427 = .ok (.iadd, 1) := by decide +kernel
theorem dL_law_428 : decode code 428 = .ok (.iaload, 1) := by decide +kernel
theorem dL_law_429 : decode code 429 = .ok (.invokevirtual 35, 3) := by decide +kernel
theorem kw_6_129 : (Jvm.Cond.methodLink "ParishUnionLaw" (35 : Nat) ({ cls := "ParishUnionModel", name := "about", desc := "(II)I" } : Jvm.MethodName)) ∈ gT := gT_of (tb_6 _ (List.mem_of_getElem? (i := 129) rfl)) rfl
theorem kw_6_132 : (Jvm.Cond.code ({ cls := "ParishUnionModel", name := "about", desc := "(II)I" } : Jvm.MethodName) prog_14_method_14_code (3 : Nat) (Option.some Jvm.ClassFile.FieldType.int)) ∈ gT := gT_of (tb_6 _ (List.mem_of_getElem? (i := 132) rfl)) rfl
theorem okX12_about : gQok yX12_about cX12_about 3 (Option.some Jvm.ClassFile.FieldType.int) 2 := ⟨kw_6_132, kw_1_13, by decide +kernel, by decide +kernel, by decide +kernel⟩
theorem kw_6_130 : (Jvm.Cond.instanceMethod ({ cls := "ParishUnionModel", name := "about", desc := "(II)I" } : Jvm.MethodName)) ∈ gT := gT_of (tb_6 _ (List.mem_of_getElem? (i := 130) rfl)) rfl
theorem kw_6_131 : (Jvm.Cond.selects "ParishUnionModel" ({ cls := "ParishUnionModel", name := "about", desc := "(II)I" } : Jvm.MethodName) ({ cls := "ParishUnionModel", name := "about", desc := "(II)I" } : Jvm.MethodName)) ∈ gT := gT_of (tb_6 _ (List.mem_of_getElem? (i := 131) rfl)) rfl
theorem dL_law_432 : decode code 432 = .ok (.if_icmp .eq 1560, 3) := by decide +kernel
set_option maxRecDepth 100000 in
set_option maxHeartbeats 4000000 in
theorem law_case_4 {p : Program} {e : Env} {s : State} {m : MethodId} {below : List Frame} {meth : Method} {c : Code} {l : Launch} {D : va_G} {cA : Nat → ClassId} {b : Nat} {xs : Nat → Int32} (X : gCx p s m #[Value.ref b] meth c s.heap.size D cA "ParishUnionLaw" code 4) (hr : meth.sig.returnType = ret) (hb : b < s.heap.size ∧ va_X b 7 xs s s.heap) {M : gM} (hFr : gFr M) : G p l e room_1 s m #[Value.ref b] below meth c s.heap.size D cA 4 (lw_Z below #[Value.ref b] s) 206 87467 M 206 404 [(3, gJ 0), (2, gA s.heap.size 190), (1, gA s.heap.size 0), (0, .ref b)] [] := by
  have rents := gFr_rents hFr
  have way := gFr_way hFr
  have beds := gFr_beds hFr
  have frost0 := gFr_frost0 hFr
  have rows0 := gFr_rows0 hFr
  have rooms0 := gFr_rooms0 hFr
  have tape0 := gFr_tape0 hFr
  have car0 := gFr_car0 hFr
  have hS := gFr_hS hFr
  obtain ⟨v0, e0, r0⟩ : ∃ z : Int, xs 0 = Int32.ofInt z ∧ -2147483648 ≤ z ∧ z ≤ 2147483647 := ⟨_, gi_of _, gi_rg _⟩
  obtain ⟨v1, e1, r1⟩ : ∃ z : Int, xs 1 = Int32.ofInt z ∧ -2147483648 ≤ z ∧ z ≤ 2147483647 := ⟨_, gi_of _, gi_rg _⟩
  obtain ⟨v2, e2, r2⟩ : ∃ z : Int, xs 2 = Int32.ofInt z ∧ -2147483648 ≤ z ∧ z ≤ 2147483647 := ⟨_, gi_of _, gi_rg _⟩
  obtain ⟨v3, e3, r3⟩ : ∃ z : Int, xs 3 = Int32.ofInt z ∧ -2147483648 ≤ z ∧ z ≤ 2147483647 := ⟨_, gi_of _, gi_rg _⟩
  obtain ⟨v4, e4, r4⟩ : ∃ z : Int, xs 4 = Int32.ofInt z ∧ -2147483648 ≤ z ∧ z ≤ 2147483647 := ⟨_, gi_of _, gi_rg _⟩
  obtain ⟨v5, e5, r5⟩ : ∃ z : Int, xs 5 = Int32.ofInt z ∧ -2147483648 ≤ z ∧ z ≤ 2147483647 := ⟨_, gi_of _, gi_rg _⟩
  obtain ⟨v6, e6, r6⟩ : ∃ z : Int, xs 6 = Int32.ofInt z ∧ -2147483648 ≤ z ∧ z ≤ 2147483647 := ⟨_, gi_of _, gi_rg _⟩
  refine g_aload_n (n := 405) X 2 dL_law_404 rfl rfl rfl ?_
  refine g_aload_n (n := 406) X 3 dL_law_405 rfl rfl rfl ?_
  refine g_iload_n (n := 407) X 0 dL_law_406 rfl rfl rfl ?_
  refine g_iconst (n := 408) X dL_law_407 rfl ?_
  refine g_iadd (n := 409) (z := 1) X dL_law_408 rfl rfl ?_
  refine g_scrld (n := 410) (z := v1) X hb (by omega) (by omega) (by omega) dL_law_409 rfl e1 ?_
  refine g_aload_n (n := 411) X 3 dL_law_410 rfl rfl rfl ?_
  refine g_iload_n (n := 412) X 0 dL_law_411 rfl rfl rfl ?_
  refine g_iconst (n := 413) X dL_law_412 rfl ?_
  refine g_iadd (n := 414) (z := 2) X dL_law_413 rfl rfl ?_
  refine g_scrld (n := 415) (z := v2) X hb (by omega) (by omega) (by omega) dL_law_414 rfl e2 ?_
  refine g_callVi (n := 418) (As := [gJ v1, gJ v2]) (rest := []) (cs1 := 206) (ss1 := 87467) X (c_X11_about v1 v2 (by omega) (by omega) (by omega) (gFr_0_0 hFr) (gFr_1_10 hFr)) okX11_about kw_3_68 ⟨kw_3_69, kw_3_70⟩ ⟨rfl, rfl⟩ ⟨Nat.le_of_ble_eq_true rfl, Nat.le_of_ble_eq_true rfl⟩ rfl (by omega) (by omega) lay_0 rfl rfl (Nat.le_of_ble_eq_true rfl) ⟨Nat.le_of_ble_eq_true rfl, Nat.le_of_ble_eq_true rfl⟩ rfl rfl dL_law_415 rfl (fun z1 M2 P3 => ?_)
  obtain ⟨P3, F4⟩ := P3
  refine g_aload_n (n := 419) X 1 dL_law_418 rfl rfl rfl ?_
  refine g_aload_n (n := 420) X 3 dL_law_419 rfl rfl rfl ?_
  refine g_iload_n (n := 421) X 0 dL_law_420 rfl rfl rfl ?_
  refine g_iconst (n := 422) X dL_law_421 rfl ?_
  refine g_iadd (n := 423) (z := 1) X dL_law_422 rfl rfl ?_
  refine g_scrld (n := 424) (z := v1) X hb (by omega) (by omega) (by omega) dL_law_423 rfl e1 ?_
  refine g_aload_n (n := 425) X 3 dL_law_424 rfl rfl rfl ?_
  refine g_iload_n (n := 426) X 0 dL_law_425 rfl rfl rfl ?_
  refine g_iconst (n := 427) X dL_law_426 rfl ?_
  refine g_iadd (n := 428) (z := 2) X dL_law_427 rfl rfl ?_
  refine g_scrld (n := 429) (z := v2) X hb (by omega) (by omega) (by omega) dL_law_428 rfl e2 ?_
  refine g_callVi (n := 432) (As := [gJ v1, gJ v2]) (rest := [gJ z1]) (cs1 := 206) (ss1 := 87467) X (c_X12_about v1 v2 (by omega) (by omega) (by omega) ((congrFun (F4 190) _).trans (gFr_190_1 hFr)) ((congrFun (F4 191) _).trans ((hS 1 (by omega) (by omega)).trans (by decide)))) okX12_about kw_6_129 ⟨kw_6_130, kw_6_131⟩ ⟨rfl, rfl⟩ ⟨Nat.le_of_ble_eq_true rfl, Nat.le_of_ble_eq_true rfl⟩ rfl (by omega) (by omega) lay_190 rfl rfl (Nat.le_of_ble_eq_true rfl) ⟨Nat.le_of_ble_eq_true rfl, Nat.le_of_ble_eq_true rfl⟩ rfl rfl dL_law_429 rfl (fun z5 M6 P7 => ?_)
  obtain ⟨P7, F8⟩ := P7
  refine g_icmp_eq (n := 435) (tgt := 1992) X dL_law_432 (by decide) (by omega) (by omega) rfl (fun c9 => ?_) (fun c9 => by exfalso; omega)
  exact law_tail X hr hb (by omega) (by omega)
theorem dL_law_437 : decode code 437 = .ok (.aload_n 1, 1) := by decide +kernel
theorem dL_law_438 : decode code 438 = .ok (.aload_n 0, 1) := by decide +kernel
theorem dL_law_439 : decode code 439 = .ok (.iload_n 3, 1) := by decide +kernel
theorem dL_law_440 : decode code 440 = .ok (.iconst 1, 1) := by decide +kernel
theorem dL_law_441 : decode code 441 = .ok (.iadd, 1) := by decide +kernel
theorem dL_law_442 : decode code 442 = .ok (.iaload, 1) := by decide +kernel
theorem dL_law_443 : decode code 443 = .ok (.aload_n 0, 1) := by decide +kernel
theorem dL_law_444 : decode code 444 = .ok (.iload_n 3, 1) := by decide +kernel
theorem dL_law_445 : decode code 445 = .ok (.iconst 2, 1) := by decide +kernel
theorem dL_law_446 : decode code 446 = .ok (.iadd, 1) := by decide +kernel
theorem dL_law_447 : decode code 447 = .ok (.iaload, 1) := by decide +kernel
theorem dL_law_448 : decode code 448 = .ok (.aload_n 0, 1) := by decide +kernel
theorem dL_law_449 : decode code 449 = .ok (.iload_n 3, 1) := by decide +kernel
theorem dL_law_450 : decode code 450 = .ok (.iconst 3, 1) := by decide +kernel
theorem dL_law_451 : decode code 451 = .ok (.iadd, 1) := by decide +kernel
theorem dL_law_452 : decode code 452 = .ok (.iaload, 1) := by decide +kernel
theorem dL_law_453 : decode code 453 = .ok (.aload_n 0, 1) := by decide +kernel
theorem dL_law_454 : decode code 454 = .ok (.iload_n 3, 1) := by decide +kernel
theorem dL_law_455 : decode code 455 = .ok (.iconst 4, 1) := by decide +kernel
theorem dL_law_456 : decode code 456 = .ok (.iadd, 1) := by decide +kernel
theorem dL_law_457 : decode code 457 = .ok (.iaload, 1) := by decide +kernel
theorem dL_law_458 : decode code 458 = .ok (.aload_n 0, 1) := by decide +kernel
theorem dL_law_459 : decode code 459 = .ok (.iload_n 3, 1) := by decide +kernel
theorem dL_law_460 : decode code 460 = .ok (.iconst 5, 1) := by decide +kernel
theorem dL_law_461 : decode code 461 = .ok (.iadd, 1) := by decide +kernel
theorem dL_law_462 : decode code 462 = .ok (.iaload, 1) := by decide +kernel
theorem dL_law_463 : decode code 463 = .ok (.ifCond .eq 7, 3) := by decide +kernel
theorem dL_law_470 : decode code 470 = .ok (.iconst 0, 1) := by decide +kernel
theorem dL_law_471 : decode code 471 = .ok (.aload_n 0, 1) := by decide +kernel
theorem dL_law_472 : decode code 472 = .ok (.iload_n 3, 1) := by decide +kernel
theorem dL_law_473 : decode code 473 = .ok (.bipush 6, 2) := by decide +kernel
theorem dL_law_475 : decode code 475 = .ok (.iadd, 1) := by decide +kernel
theorem dL_law_476 : decode code 476 = .ok (.iaload, 1) := by decide +kernel
theorem dL_law_477 : decode code 477 = .ok (.ifCond .eq 7, 3) := by decide +kernel
theorem dL_law_484 : decode code 484 = .ok (.iconst 0, 1) := by decide +kernel
theorem dL_law_485 : decode code 485 = .ok (.invokevirtual 36, 3) := by decide +kernel
theorem kw_3_72 : (Jvm.Cond.methodLink "ParishUnionLaw" (36 : Nat) ({ cls := "ParishUnion", name := "hire", desc := "(IIIIZZ)I" } : Jvm.MethodName)) ∈ gT := gT_of (tb_3 _ (List.mem_of_getElem? (i := 72) rfl)) rfl
theorem kw_3_75 : (Jvm.Cond.code ({ cls := "ParishUnion", name := "hire", desc := "(IIIIZZ)I" } : Jvm.MethodName) prog_1_method_7_code (7 : Nat) (Option.some Jvm.ClassFile.FieldType.int)) ∈ gT := gT_of (tb_3 _ (List.mem_of_getElem? (i := 75) rfl)) rfl
theorem okX11_hire : gQok yX11_hire cX11_hire 7 (Option.some Jvm.ClassFile.FieldType.int) 6 := ⟨kw_3_75, kw_1_1, by decide +kernel, by decide +kernel, by decide +kernel⟩
theorem kw_3_73 : (Jvm.Cond.instanceMethod ({ cls := "ParishUnion", name := "hire", desc := "(IIIIZZ)I" } : Jvm.MethodName)) ∈ gT := gT_of (tb_3 _ (List.mem_of_getElem? (i := 73) rfl)) rfl
theorem kw_3_74 : (Jvm.Cond.selects "ParishUnion" ({ cls := "ParishUnion", name := "hire", desc := "(IIIIZZ)I" } : Jvm.MethodName) ({ cls := "ParishUnion", name := "hire", desc := "(IIIIZZ)I" } : Jvm.MethodName)) ∈ gT := gT_of (tb_3 _ (List.mem_of_getElem? (i := 74) rfl)) rfl
theorem dL_law_488 : decode code 488 = .ok (.aload_n 2, 1) := by decide +kernel
theorem dL_law_489 : decode code 489 = .ok (.aload_n 0, 1) := by decide +kernel
theorem dL_law_490 : decode code 490 = .ok (.iload_n 3, 1) := by decide +kernel
theorem dL_law_491 : decode code 491 = .ok (.iconst 1, 1) := by decide +kernel
theorem dL_law_492 : decode code 492 = .ok (.iadd, 1) := by decide +kernel
theorem dL_law_493 : decode code 493 = .ok (.iaload, 1) := by decide +kernel
theorem dL_law_494 : decode code 494 = .ok (.aload_n 0, 1) := by decide +kernel
theorem dL_law_495 : decode code 495 = .ok (.iload_n 3, 1) := by decide +kernel
theorem dL_law_496 : decode code 496 = .ok (.iconst 2, 1) := by decide +kernel
theorem dL_law_497 : decode code 497 = .ok (.iadd, 1) := by decide +kernel
theorem dL_law_498 : decode code 498 = .ok (.iaload, 1) := by decide +kernel
theorem dL_law_499 : decode code 499 = .ok (.aload_n 0, 1) := by decide +kernel
theorem dL_law_500 : decode code 500 = .ok (.iload_n 3, 1) := by decide +kernel
theorem dL_law_501 : decode code 501 = .ok (.iconst 3, 1) := by decide +kernel
theorem dL_law_502 : decode code 502 = .ok (.iadd, 1) := by decide +kernel
theorem dL_law_503 : decode code 503 = .ok (.iaload, 1) := by decide +kernel
theorem dL_law_504 : decode code 504 = .ok (.aload_n 0, 1) := by decide +kernel
theorem dL_law_505 : decode code 505 = .ok (.iload_n 3, 1) := by decide +kernel
theorem dL_law_506 : decode code 506 = .ok (.iconst 4, 1) := by decide +kernel
theorem dL_law_507 : decode code 507 = .ok (.iadd, 1) := by decide +kernel
theorem dL_law_508 : decode code 508 = .ok (.iaload, 1) := by decide +kernel
theorem dL_law_509 : decode code 509 = .ok (.aload_n 0, 1) := by decide +kernel
theorem dL_law_510 : decode code 510 = .ok (.iload_n 3, 1) := by decide +kernel
theorem dL_law_511 : decode code 511 = .ok (.iconst 5, 1) := by decide +kernel
theorem dL_law_512 : decode code 512 = .ok (.iadd, 1) := by decide +kernel
theorem dL_law_513 : decode code 513 = .ok (.iaload, 1) := by decide +kernel
theorem dL_law_514 : decode code 514 = .ok (.ifCond .eq 7, 3) := by decide +kernel
theorem dL_law_521 : decode code 521 = .ok (.iconst 0, 1) := by decide +kernel
theorem dL_law_522 : decode code 522 = .ok (.aload_n 0, 1) := by decide +kernel
theorem dL_law_523 : decode code 523 = .ok (.iload_n 3, 1) := by decide +kernel
theorem dL_law_524 : decode code 524 = .ok (.bipush 6, 2) := by decide +kernel
theorem dL_law_526 : decode code 526 = .ok (.iadd, 1) := by decide +kernel
theorem dL_law_527 : decode code 527 = .ok (.iaload, 1) := by decide +kernel
theorem dL_law_528 : decode code 528 = .ok (.ifCond .eq 7, 3) := by decide +kernel
theorem dL_law_535 : decode code 535 = .ok (.iconst 0, 1) := by decide +kernel
theorem dL_law_536 : decode code 536 = .ok (.invokevirtual 40, 3) := by decide +kernel
theorem kw_6_133 : (Jvm.Cond.methodLink "ParishUnionLaw" (40 : Nat) ({ cls := "ParishUnionModel", name := "hire", desc := "(IIIIZZ)I" } : Jvm.MethodName)) ∈ gT := gT_of (tb_6 _ (List.mem_of_getElem? (i := 133) rfl)) rfl
theorem kw_6_136 : (Jvm.Cond.code ({ cls := "ParishUnionModel", name := "hire", desc := "(IIIIZZ)I" } : Jvm.MethodName) prog_14_method_18_code (7 : Nat) (Option.some Jvm.ClassFile.FieldType.int)) ∈ gT := gT_of (tb_6 _ (List.mem_of_getElem? (i := 136) rfl)) rfl
theorem okX12_hire : gQok yX12_hire cX12_hire 7 (Option.some Jvm.ClassFile.FieldType.int) 6 := ⟨kw_6_136, kw_1_13, by decide +kernel, by decide +kernel, by decide +kernel⟩
theorem kw_6_134 : (Jvm.Cond.instanceMethod ({ cls := "ParishUnionModel", name := "hire", desc := "(IIIIZZ)I" } : Jvm.MethodName)) ∈ gT := gT_of (tb_6 _ (List.mem_of_getElem? (i := 134) rfl)) rfl
theorem kw_6_135 : (Jvm.Cond.selects "ParishUnionModel" ({ cls := "ParishUnionModel", name := "hire", desc := "(IIIIZZ)I" } : Jvm.MethodName) ({ cls := "ParishUnionModel", name := "hire", desc := "(IIIIZZ)I" } : Jvm.MethodName)) ∈ gT := gT_of (tb_6 _ (List.mem_of_getElem? (i := 135) rfl)) rfl
theorem dL_law_539 : decode code 539 = .ok (.if_icmp .eq 1453, 3) := by decide +kernel
theorem dL_law_531 : decode code 531 = .ok (.iconst 1, 1) := by decide +kernel
theorem dL_law_532 : decode code 532 = .ok (.goto 4, 3) := by decide +kernel
theorem dL_law_517 : decode code 517 = .ok (.iconst 1, 1) := by decide +kernel
theorem dL_law_518 : decode code 518 = .ok (.goto 4, 3) := by decide +kernel
theorem dL_law_480 : decode code 480 = .ok (.iconst 1, 1) := by decide +kernel
theorem dL_law_481 : decode code 481 = .ok (.goto 4, 3) := by decide +kernel
theorem dL_law_466 : decode code 466 = .ok (.iconst 1, 1) := by decide +kernel
theorem dL_law_467 : decode code 467 = .ok (.goto 4, 3) := by decide +kernel
set_option maxRecDepth 100000 in
set_option maxHeartbeats 4000000 in
theorem law_case_5 {p : Program} {e : Env} {s : State} {m : MethodId} {below : List Frame} {meth : Method} {c : Code} {l : Launch} {D : va_G} {cA : Nat → ClassId} {b : Nat} {xs : Nat → Int32} (X : gCx p s m #[Value.ref b] meth c s.heap.size D cA "ParishUnionLaw" code 4) (hr : meth.sig.returnType = ret) (hb : b < s.heap.size ∧ va_X b 7 xs s s.heap) {M : gM} (hFr : gFr M) : G p l e room_1 s m #[Value.ref b] below meth c s.heap.size D cA 4 (lw_Z below #[Value.ref b] s) 206 87467 M 206 437 [(3, gJ 0), (2, gA s.heap.size 190), (1, gA s.heap.size 0), (0, .ref b)] [] := by
  have rents := gFr_rents hFr
  have way := gFr_way hFr
  have beds := gFr_beds hFr
  have frost0 := gFr_frost0 hFr
  have rows0 := gFr_rows0 hFr
  have rooms0 := gFr_rooms0 hFr
  have tape0 := gFr_tape0 hFr
  have car0 := gFr_car0 hFr
  have hS := gFr_hS hFr
  obtain ⟨v0, e0, r0⟩ : ∃ z : Int, xs 0 = Int32.ofInt z ∧ -2147483648 ≤ z ∧ z ≤ 2147483647 := ⟨_, gi_of _, gi_rg _⟩
  obtain ⟨v1, e1, r1⟩ : ∃ z : Int, xs 1 = Int32.ofInt z ∧ -2147483648 ≤ z ∧ z ≤ 2147483647 := ⟨_, gi_of _, gi_rg _⟩
  obtain ⟨v2, e2, r2⟩ : ∃ z : Int, xs 2 = Int32.ofInt z ∧ -2147483648 ≤ z ∧ z ≤ 2147483647 := ⟨_, gi_of _, gi_rg _⟩
  obtain ⟨v3, e3, r3⟩ : ∃ z : Int, xs 3 = Int32.ofInt z ∧ -2147483648 ≤ z ∧ z ≤ 2147483647 := ⟨_, gi_of _, gi_rg _⟩
  obtain ⟨v4, e4, r4⟩ : ∃ z : Int, xs 4 = Int32.ofInt z ∧ -2147483648 ≤ z ∧ z ≤ 2147483647 := ⟨_, gi_of _, gi_rg _⟩
  obtain ⟨v5, e5, r5⟩ : ∃ z : Int, xs 5 = Int32.ofInt z ∧ -2147483648 ≤ z ∧ z ≤ 2147483647 := ⟨_, gi_of _, gi_rg _⟩
  obtain ⟨v6, e6, r6⟩ : ∃ z : Int, xs 6 = Int32.ofInt z ∧ -2147483648 ≤ z ∧ z ≤ 2147483647 := ⟨_, gi_of _, gi_rg _⟩
  refine g_aload_n (n := 438) X 2 dL_law_437 rfl rfl rfl ?_
  refine g_aload_n (n := 439) X 3 dL_law_438 rfl rfl rfl ?_
  refine g_iload_n (n := 440) X 0 dL_law_439 rfl rfl rfl ?_
  refine g_iconst (n := 441) X dL_law_440 rfl ?_
  refine g_iadd (n := 442) (z := 1) X dL_law_441 rfl rfl ?_
  refine g_scrld (n := 443) (z := v1) X hb (by omega) (by omega) (by omega) dL_law_442 rfl e1 ?_
  refine g_aload_n (n := 444) X 3 dL_law_443 rfl rfl rfl ?_
  refine g_iload_n (n := 445) X 0 dL_law_444 rfl rfl rfl ?_
  refine g_iconst (n := 446) X dL_law_445 rfl ?_
  refine g_iadd (n := 447) (z := 2) X dL_law_446 rfl rfl ?_
  refine g_scrld (n := 448) (z := v2) X hb (by omega) (by omega) (by omega) dL_law_447 rfl e2 ?_
  refine g_aload_n (n := 449) X 3 dL_law_448 rfl rfl rfl ?_
  refine g_iload_n (n := 450) X 0 dL_law_449 rfl rfl rfl ?_
  refine g_iconst (n := 451) X dL_law_450 rfl ?_
  refine g_iadd (n := 452) (z := 3) X dL_law_451 rfl rfl ?_
  refine g_scrld (n := 453) (z := v3) X hb (by omega) (by omega) (by omega) dL_law_452 rfl e3 ?_
  refine g_aload_n (n := 454) X 3 dL_law_453 rfl rfl rfl ?_
  refine g_iload_n (n := 455) X 0 dL_law_454 rfl rfl rfl ?_
  refine g_iconst (n := 456) X dL_law_455 rfl ?_
  refine g_iadd (n := 457) (z := 4) X dL_law_456 rfl rfl ?_
  refine g_scrld (n := 458) (z := v4) X hb (by omega) (by omega) (by omega) dL_law_457 rfl e4 ?_
  refine g_aload_n (n := 459) X 3 dL_law_458 rfl rfl rfl ?_
  refine g_iload_n (n := 460) X 0 dL_law_459 rfl rfl rfl ?_
  refine g_iconst (n := 461) X dL_law_460 rfl ?_
  refine g_iadd (n := 462) (z := 5) X dL_law_461 rfl rfl ?_
  refine g_scrld (n := 463) (z := v5) X hb (by omega) (by omega) (by omega) dL_law_462 rfl e5 ?_
  refine g_if_eq (n := 466) (tgt := 470) X dL_law_463 (by decide) (by omega) rfl (fun c1 => ?_) (fun c1 => ?_)
  · refine g_iconst (n := 471) X dL_law_470 rfl ?_
    refine g_aload_n (n := 472) X 3 dL_law_471 rfl rfl rfl ?_
    refine g_iload_n (n := 473) X 0 dL_law_472 rfl rfl rfl ?_
    refine g_bipush (n := 475) X dL_law_473 (by decide +kernel) rfl ?_
    refine g_iadd (n := 476) (z := 6) X dL_law_475 rfl rfl ?_
    refine g_scrld (n := 477) (z := v6) X hb (by omega) (by omega) (by omega) dL_law_476 rfl e6 ?_
    refine g_if_eq (n := 480) (tgt := 484) X dL_law_477 (by decide) (by omega) rfl (fun c2 => ?_) (fun c2 => ?_)
    · refine g_iconst (n := 485) X dL_law_484 rfl ?_
      refine g_callVi (n := 488) (As := [gJ v1, gJ v2, gJ v3, gJ v4, gJ 0, gJ 0]) (rest := []) (cs1 := 206) (ss1 := 87467) X (c_X11_hire v1 v2 v3 v4 0 0 (by omega) (by omega) (by omega) (by omega) (by omega) (by omega) (by omega) (gFr_0_0 hFr) (gFr_1_10 hFr)) okX11_hire kw_3_72 ⟨kw_3_73, kw_3_74⟩ ⟨rfl, rfl⟩ ⟨Nat.le_of_ble_eq_true rfl, Nat.le_of_ble_eq_true rfl⟩ rfl (by omega) (by omega) lay_0 rfl rfl (Nat.le_of_ble_eq_true rfl) ⟨Nat.le_of_ble_eq_true rfl, Nat.le_of_ble_eq_true rfl⟩ rfl rfl dL_law_485 rfl (fun z3 M4 P5 => ?_)
      obtain ⟨P5, F6⟩ := P5
      refine g_aload_n (n := 489) X 1 dL_law_488 rfl rfl rfl ?_
      refine g_aload_n (n := 490) X 3 dL_law_489 rfl rfl rfl ?_
      refine g_iload_n (n := 491) X 0 dL_law_490 rfl rfl rfl ?_
      refine g_iconst (n := 492) X dL_law_491 rfl ?_
      refine g_iadd (n := 493) (z := 1) X dL_law_492 rfl rfl ?_
      refine g_scrld (n := 494) (z := v1) X hb (by omega) (by omega) (by omega) dL_law_493 rfl e1 ?_
      refine g_aload_n (n := 495) X 3 dL_law_494 rfl rfl rfl ?_
      refine g_iload_n (n := 496) X 0 dL_law_495 rfl rfl rfl ?_
      refine g_iconst (n := 497) X dL_law_496 rfl ?_
      refine g_iadd (n := 498) (z := 2) X dL_law_497 rfl rfl ?_
      refine g_scrld (n := 499) (z := v2) X hb (by omega) (by omega) (by omega) dL_law_498 rfl e2 ?_
      refine g_aload_n (n := 500) X 3 dL_law_499 rfl rfl rfl ?_
      refine g_iload_n (n := 501) X 0 dL_law_500 rfl rfl rfl ?_
      refine g_iconst (n := 502) X dL_law_501 rfl ?_
      refine g_iadd (n := 503) (z := 3) X dL_law_502 rfl rfl ?_
      refine g_scrld (n := 504) (z := v3) X hb (by omega) (by omega) (by omega) dL_law_503 rfl e3 ?_
      refine g_aload_n (n := 505) X 3 dL_law_504 rfl rfl rfl ?_
      refine g_iload_n (n := 506) X 0 dL_law_505 rfl rfl rfl ?_
      refine g_iconst (n := 507) X dL_law_506 rfl ?_
      refine g_iadd (n := 508) (z := 4) X dL_law_507 rfl rfl ?_
      refine g_scrld (n := 509) (z := v4) X hb (by omega) (by omega) (by omega) dL_law_508 rfl e4 ?_
      refine g_aload_n (n := 510) X 3 dL_law_509 rfl rfl rfl ?_
      refine g_iload_n (n := 511) X 0 dL_law_510 rfl rfl rfl ?_
      refine g_iconst (n := 512) X dL_law_511 rfl ?_
      refine g_iadd (n := 513) (z := 5) X dL_law_512 rfl rfl ?_
      refine g_scrld (n := 514) (z := v5) X hb (by omega) (by omega) (by omega) dL_law_513 rfl e5 ?_
      refine g_if_eq (n := 517) (tgt := 521) X dL_law_514 (by decide) (by omega) rfl (fun c7 => ?_) (fun c7 => ?_)
      · refine g_iconst (n := 522) X dL_law_521 rfl ?_
        refine g_aload_n (n := 523) X 3 dL_law_522 rfl rfl rfl ?_
        refine g_iload_n (n := 524) X 0 dL_law_523 rfl rfl rfl ?_
        refine g_bipush (n := 526) X dL_law_524 (by decide +kernel) rfl ?_
        refine g_iadd (n := 527) (z := 6) X dL_law_526 rfl rfl ?_
        refine g_scrld (n := 528) (z := v6) X hb (by omega) (by omega) (by omega) dL_law_527 rfl e6 ?_
        refine g_if_eq (n := 531) (tgt := 535) X dL_law_528 (by decide) (by omega) rfl (fun c8 => ?_) (fun c8 => ?_)
        · refine g_iconst (n := 536) X dL_law_535 rfl ?_
          refine g_callVi (n := 539) (As := [gJ v1, gJ v2, gJ v3, gJ v4, gJ 0, gJ 0]) (rest := [gJ z3]) (cs1 := 206) (ss1 := 87467) X (c_X12_hire v1 v2 v3 v4 0 0 (by omega) (by omega) (by omega) (by omega) (by omega) (by omega) (by omega) ((congrFun (F6 190) _).trans (gFr_190_1 hFr)) ((congrFun (F6 191) _).trans ((hS 1 (by omega) (by omega)).trans (by decide)))) okX12_hire kw_6_133 ⟨kw_6_134, kw_6_135⟩ ⟨rfl, rfl⟩ ⟨Nat.le_of_ble_eq_true rfl, Nat.le_of_ble_eq_true rfl⟩ rfl (by omega) (by omega) lay_190 rfl rfl (Nat.le_of_ble_eq_true rfl) ⟨Nat.le_of_ble_eq_true rfl, Nat.le_of_ble_eq_true rfl⟩ rfl rfl dL_law_536 rfl (fun z9 M10 P11 => ?_)
          obtain ⟨P11, F12⟩ := P11
          refine g_icmp_eq (n := 542) (tgt := 1992) X dL_law_539 (by decide) (by omega) (by omega) rfl (fun c13 => ?_) (fun c13 => by exfalso; omega)
          exact law_tail X hr hb (by omega) (by omega)
        · refine g_iconst (n := 532) X dL_law_531 rfl ?_
          refine g_goto (tgt := 536) X dL_law_532 (by decide) ?_
          refine g_callVi (n := 539) (As := [gJ v1, gJ v2, gJ v3, gJ v4, gJ 0, gJ 1]) (rest := [gJ z3]) (cs1 := 206) (ss1 := 87467) X (c_X12_hire v1 v2 v3 v4 0 1 (by omega) (by omega) (by omega) (by omega) (by omega) (by omega) (by omega) ((congrFun (F6 190) _).trans (gFr_190_1 hFr)) ((congrFun (F6 191) _).trans ((hS 1 (by omega) (by omega)).trans (by decide)))) okX12_hire kw_6_133 ⟨kw_6_134, kw_6_135⟩ ⟨rfl, rfl⟩ ⟨Nat.le_of_ble_eq_true rfl, Nat.le_of_ble_eq_true rfl⟩ rfl (by omega) (by omega) lay_190 rfl rfl (Nat.le_of_ble_eq_true rfl) ⟨Nat.le_of_ble_eq_true rfl, Nat.le_of_ble_eq_true rfl⟩ rfl rfl dL_law_536 rfl (fun z14 M15 P16 => ?_)
          obtain ⟨P16, F17⟩ := P16
          refine g_icmp_eq (n := 542) (tgt := 1992) X dL_law_539 (by decide) (by omega) (by omega) rfl (fun c18 => ?_) (fun c18 => by exfalso; omega)
          exact law_tail X hr hb (by omega) (by omega)
      · refine g_iconst (n := 518) X dL_law_517 rfl ?_
        refine g_goto (tgt := 522) X dL_law_518 (by decide) ?_
        refine g_aload_n (n := 523) X 3 dL_law_522 rfl rfl rfl ?_
        refine g_iload_n (n := 524) X 0 dL_law_523 rfl rfl rfl ?_
        refine g_bipush (n := 526) X dL_law_524 (by decide +kernel) rfl ?_
        refine g_iadd (n := 527) (z := 6) X dL_law_526 rfl rfl ?_
        refine g_scrld (n := 528) (z := v6) X hb (by omega) (by omega) (by omega) dL_law_527 rfl e6 ?_
        refine g_if_eq (n := 531) (tgt := 535) X dL_law_528 (by decide) (by omega) rfl (fun c19 => ?_) (fun c19 => ?_)
        · refine g_iconst (n := 536) X dL_law_535 rfl ?_
          refine g_callVi (n := 539) (As := [gJ v1, gJ v2, gJ v3, gJ v4, gJ 1, gJ 0]) (rest := [gJ z3]) (cs1 := 206) (ss1 := 87467) X (c_X12_hire v1 v2 v3 v4 1 0 (by omega) (by omega) (by omega) (by omega) (by omega) (by omega) (by omega) ((congrFun (F6 190) _).trans (gFr_190_1 hFr)) ((congrFun (F6 191) _).trans ((hS 1 (by omega) (by omega)).trans (by decide)))) okX12_hire kw_6_133 ⟨kw_6_134, kw_6_135⟩ ⟨rfl, rfl⟩ ⟨Nat.le_of_ble_eq_true rfl, Nat.le_of_ble_eq_true rfl⟩ rfl (by omega) (by omega) lay_190 rfl rfl (Nat.le_of_ble_eq_true rfl) ⟨Nat.le_of_ble_eq_true rfl, Nat.le_of_ble_eq_true rfl⟩ rfl rfl dL_law_536 rfl (fun z20 M21 P22 => ?_)
          obtain ⟨P22, F23⟩ := P22
          refine g_icmp_eq (n := 542) (tgt := 1992) X dL_law_539 (by decide) (by omega) (by omega) rfl (fun c24 => ?_) (fun c24 => by exfalso; omega)
          exact law_tail X hr hb (by omega) (by omega)
        · refine g_iconst (n := 532) X dL_law_531 rfl ?_
          refine g_goto (tgt := 536) X dL_law_532 (by decide) ?_
          refine g_callVi (n := 539) (As := [gJ v1, gJ v2, gJ v3, gJ v4, gJ 1, gJ 1]) (rest := [gJ z3]) (cs1 := 206) (ss1 := 87467) X (c_X12_hire v1 v2 v3 v4 1 1 (by omega) (by omega) (by omega) (by omega) (by omega) (by omega) (by omega) ((congrFun (F6 190) _).trans (gFr_190_1 hFr)) ((congrFun (F6 191) _).trans ((hS 1 (by omega) (by omega)).trans (by decide)))) okX12_hire kw_6_133 ⟨kw_6_134, kw_6_135⟩ ⟨rfl, rfl⟩ ⟨Nat.le_of_ble_eq_true rfl, Nat.le_of_ble_eq_true rfl⟩ rfl (by omega) (by omega) lay_190 rfl rfl (Nat.le_of_ble_eq_true rfl) ⟨Nat.le_of_ble_eq_true rfl, Nat.le_of_ble_eq_true rfl⟩ rfl rfl dL_law_536 rfl (fun z25 M26 P27 => ?_)
          obtain ⟨P27, F28⟩ := P27
          refine g_icmp_eq (n := 542) (tgt := 1992) X dL_law_539 (by decide) (by omega) (by omega) rfl (fun c29 => ?_) (fun c29 => by exfalso; omega)
          exact law_tail X hr hb (by omega) (by omega)
    · refine g_iconst (n := 481) X dL_law_480 rfl ?_
      refine g_goto (tgt := 485) X dL_law_481 (by decide) ?_
      refine g_callVi (n := 488) (As := [gJ v1, gJ v2, gJ v3, gJ v4, gJ 0, gJ 1]) (rest := []) (cs1 := 206) (ss1 := 87467) X (c_X11_hire v1 v2 v3 v4 0 1 (by omega) (by omega) (by omega) (by omega) (by omega) (by omega) (by omega) (gFr_0_0 hFr) (gFr_1_10 hFr)) okX11_hire kw_3_72 ⟨kw_3_73, kw_3_74⟩ ⟨rfl, rfl⟩ ⟨Nat.le_of_ble_eq_true rfl, Nat.le_of_ble_eq_true rfl⟩ rfl (by omega) (by omega) lay_0 rfl rfl (Nat.le_of_ble_eq_true rfl) ⟨Nat.le_of_ble_eq_true rfl, Nat.le_of_ble_eq_true rfl⟩ rfl rfl dL_law_485 rfl (fun z30 M31 P32 => ?_)
      obtain ⟨P32, F33⟩ := P32
      refine g_aload_n (n := 489) X 1 dL_law_488 rfl rfl rfl ?_
      refine g_aload_n (n := 490) X 3 dL_law_489 rfl rfl rfl ?_
      refine g_iload_n (n := 491) X 0 dL_law_490 rfl rfl rfl ?_
      refine g_iconst (n := 492) X dL_law_491 rfl ?_
      refine g_iadd (n := 493) (z := 1) X dL_law_492 rfl rfl ?_
      refine g_scrld (n := 494) (z := v1) X hb (by omega) (by omega) (by omega) dL_law_493 rfl e1 ?_
      refine g_aload_n (n := 495) X 3 dL_law_494 rfl rfl rfl ?_
      refine g_iload_n (n := 496) X 0 dL_law_495 rfl rfl rfl ?_
      refine g_iconst (n := 497) X dL_law_496 rfl ?_
      refine g_iadd (n := 498) (z := 2) X dL_law_497 rfl rfl ?_
      refine g_scrld (n := 499) (z := v2) X hb (by omega) (by omega) (by omega) dL_law_498 rfl e2 ?_
      refine g_aload_n (n := 500) X 3 dL_law_499 rfl rfl rfl ?_
      refine g_iload_n (n := 501) X 0 dL_law_500 rfl rfl rfl ?_
      refine g_iconst (n := 502) X dL_law_501 rfl ?_
      refine g_iadd (n := 503) (z := 3) X dL_law_502 rfl rfl ?_
      refine g_scrld (n := 504) (z := v3) X hb (by omega) (by omega) (by omega) dL_law_503 rfl e3 ?_
      refine g_aload_n (n := 505) X 3 dL_law_504 rfl rfl rfl ?_
      refine g_iload_n (n := 506) X 0 dL_law_505 rfl rfl rfl ?_
      refine g_iconst (n := 507) X dL_law_506 rfl ?_
      refine g_iadd (n := 508) (z := 4) X dL_law_507 rfl rfl ?_
      refine g_scrld (n := 509) (z := v4) X hb (by omega) (by omega) (by omega) dL_law_508 rfl e4 ?_
      refine g_aload_n (n := 510) X 3 dL_law_509 rfl rfl rfl ?_
      refine g_iload_n (n := 511) X 0 dL_law_510 rfl rfl rfl ?_
      refine g_iconst (n := 512) X dL_law_511 rfl ?_
      refine g_iadd (n := 513) (z := 5) X dL_law_512 rfl rfl ?_
      refine g_scrld (n := 514) (z := v5) X hb (by omega) (by omega) (by omega) dL_law_513 rfl e5 ?_
      refine g_if_eq (n := 517) (tgt := 521) X dL_law_514 (by decide) (by omega) rfl (fun c34 => ?_) (fun c34 => ?_)
      · refine g_iconst (n := 522) X dL_law_521 rfl ?_
        refine g_aload_n (n := 523) X 3 dL_law_522 rfl rfl rfl ?_
        refine g_iload_n (n := 524) X 0 dL_law_523 rfl rfl rfl ?_
        refine g_bipush (n := 526) X dL_law_524 (by decide +kernel) rfl ?_
        refine g_iadd (n := 527) (z := 6) X dL_law_526 rfl rfl ?_
        refine g_scrld (n := 528) (z := v6) X hb (by omega) (by omega) (by omega) dL_law_527 rfl e6 ?_
        refine g_if_eq (n := 531) (tgt := 535) X dL_law_528 (by decide) (by omega) rfl (fun c35 => ?_) (fun c35 => ?_)
        · refine g_iconst (n := 536) X dL_law_535 rfl ?_
          refine g_callVi (n := 539) (As := [gJ v1, gJ v2, gJ v3, gJ v4, gJ 0, gJ 0]) (rest := [gJ z30]) (cs1 := 206) (ss1 := 87467) X (c_X12_hire v1 v2 v3 v4 0 0 (by omega) (by omega) (by omega) (by omega) (by omega) (by omega) (by omega) ((congrFun (F33 190) _).trans (gFr_190_1 hFr)) ((congrFun (F33 191) _).trans ((hS 1 (by omega) (by omega)).trans (by decide)))) okX12_hire kw_6_133 ⟨kw_6_134, kw_6_135⟩ ⟨rfl, rfl⟩ ⟨Nat.le_of_ble_eq_true rfl, Nat.le_of_ble_eq_true rfl⟩ rfl (by omega) (by omega) lay_190 rfl rfl (Nat.le_of_ble_eq_true rfl) ⟨Nat.le_of_ble_eq_true rfl, Nat.le_of_ble_eq_true rfl⟩ rfl rfl dL_law_536 rfl (fun z36 M37 P38 => ?_)
          obtain ⟨P38, F39⟩ := P38
          refine g_icmp_eq (n := 542) (tgt := 1992) X dL_law_539 (by decide) (by omega) (by omega) rfl (fun c40 => ?_) (fun c40 => by exfalso; omega)
          exact law_tail X hr hb (by omega) (by omega)
        · refine g_iconst (n := 532) X dL_law_531 rfl ?_
          refine g_goto (tgt := 536) X dL_law_532 (by decide) ?_
          refine g_callVi (n := 539) (As := [gJ v1, gJ v2, gJ v3, gJ v4, gJ 0, gJ 1]) (rest := [gJ z30]) (cs1 := 206) (ss1 := 87467) X (c_X12_hire v1 v2 v3 v4 0 1 (by omega) (by omega) (by omega) (by omega) (by omega) (by omega) (by omega) ((congrFun (F33 190) _).trans (gFr_190_1 hFr)) ((congrFun (F33 191) _).trans ((hS 1 (by omega) (by omega)).trans (by decide)))) okX12_hire kw_6_133 ⟨kw_6_134, kw_6_135⟩ ⟨rfl, rfl⟩ ⟨Nat.le_of_ble_eq_true rfl, Nat.le_of_ble_eq_true rfl⟩ rfl (by omega) (by omega) lay_190 rfl rfl (Nat.le_of_ble_eq_true rfl) ⟨Nat.le_of_ble_eq_true rfl, Nat.le_of_ble_eq_true rfl⟩ rfl rfl dL_law_536 rfl (fun z41 M42 P43 => ?_)
          obtain ⟨P43, F44⟩ := P43
          refine g_icmp_eq (n := 542) (tgt := 1992) X dL_law_539 (by decide) (by omega) (by omega) rfl (fun c45 => ?_) (fun c45 => by exfalso; omega)
          exact law_tail X hr hb (by omega) (by omega)
      · refine g_iconst (n := 518) X dL_law_517 rfl ?_
        refine g_goto (tgt := 522) X dL_law_518 (by decide) ?_
        refine g_aload_n (n := 523) X 3 dL_law_522 rfl rfl rfl ?_
        refine g_iload_n (n := 524) X 0 dL_law_523 rfl rfl rfl ?_
        refine g_bipush (n := 526) X dL_law_524 (by decide +kernel) rfl ?_
        refine g_iadd (n := 527) (z := 6) X dL_law_526 rfl rfl ?_
        refine g_scrld (n := 528) (z := v6) X hb (by omega) (by omega) (by omega) dL_law_527 rfl e6 ?_
        refine g_if_eq (n := 531) (tgt := 535) X dL_law_528 (by decide) (by omega) rfl (fun c46 => ?_) (fun c46 => ?_)
        · refine g_iconst (n := 536) X dL_law_535 rfl ?_
          refine g_callVi (n := 539) (As := [gJ v1, gJ v2, gJ v3, gJ v4, gJ 1, gJ 0]) (rest := [gJ z30]) (cs1 := 206) (ss1 := 87467) X (c_X12_hire v1 v2 v3 v4 1 0 (by omega) (by omega) (by omega) (by omega) (by omega) (by omega) (by omega) ((congrFun (F33 190) _).trans (gFr_190_1 hFr)) ((congrFun (F33 191) _).trans ((hS 1 (by omega) (by omega)).trans (by decide)))) okX12_hire kw_6_133 ⟨kw_6_134, kw_6_135⟩ ⟨rfl, rfl⟩ ⟨Nat.le_of_ble_eq_true rfl, Nat.le_of_ble_eq_true rfl⟩ rfl (by omega) (by omega) lay_190 rfl rfl (Nat.le_of_ble_eq_true rfl) ⟨Nat.le_of_ble_eq_true rfl, Nat.le_of_ble_eq_true rfl⟩ rfl rfl dL_law_536 rfl (fun z47 M48 P49 => ?_)
          obtain ⟨P49, F50⟩ := P49
          refine g_icmp_eq (n := 542) (tgt := 1992) X dL_law_539 (by decide) (by omega) (by omega) rfl (fun c51 => ?_) (fun c51 => by exfalso; omega)
          exact law_tail X hr hb (by omega) (by omega)
        · refine g_iconst (n := 532) X dL_law_531 rfl ?_
          refine g_goto (tgt := 536) X dL_law_532 (by decide) ?_
          refine g_callVi (n := 539) (As := [gJ v1, gJ v2, gJ v3, gJ v4, gJ 1, gJ 1]) (rest := [gJ z30]) (cs1 := 206) (ss1 := 87467) X (c_X12_hire v1 v2 v3 v4 1 1 (by omega) (by omega) (by omega) (by omega) (by omega) (by omega) (by omega) ((congrFun (F33 190) _).trans (gFr_190_1 hFr)) ((congrFun (F33 191) _).trans ((hS 1 (by omega) (by omega)).trans (by decide)))) okX12_hire kw_6_133 ⟨kw_6_134, kw_6_135⟩ ⟨rfl, rfl⟩ ⟨Nat.le_of_ble_eq_true rfl, Nat.le_of_ble_eq_true rfl⟩ rfl (by omega) (by omega) lay_190 rfl rfl (Nat.le_of_ble_eq_true rfl) ⟨Nat.le_of_ble_eq_true rfl, Nat.le_of_ble_eq_true rfl⟩ rfl rfl dL_law_536 rfl (fun z52 M53 P54 => ?_)
          obtain ⟨P54, F55⟩ := P54
          refine g_icmp_eq (n := 542) (tgt := 1992) X dL_law_539 (by decide) (by omega) (by omega) rfl (fun c56 => ?_) (fun c56 => by exfalso; omega)
          exact law_tail X hr hb (by omega) (by omega)
  · refine g_iconst (n := 467) X dL_law_466 rfl ?_
    refine g_goto (tgt := 471) X dL_law_467 (by decide) ?_
    refine g_aload_n (n := 472) X 3 dL_law_471 rfl rfl rfl ?_
    refine g_iload_n (n := 473) X 0 dL_law_472 rfl rfl rfl ?_
    refine g_bipush (n := 475) X dL_law_473 (by decide +kernel) rfl ?_
    refine g_iadd (n := 476) (z := 6) X dL_law_475 rfl rfl ?_
    refine g_scrld (n := 477) (z := v6) X hb (by omega) (by omega) (by omega) dL_law_476 rfl e6 ?_
    refine g_if_eq (n := 480) (tgt := 484) X dL_law_477 (by decide) (by omega) rfl (fun c57 => ?_) (fun c57 => ?_)
    · refine g_iconst (n := 485) X dL_law_484 rfl ?_
      refine g_callVi (n := 488) (As := [gJ v1, gJ v2, gJ v3, gJ v4, gJ 1, gJ 0]) (rest := []) (cs1 := 206) (ss1 := 87467) X (c_X11_hire v1 v2 v3 v4 1 0 (by omega) (by omega) (by omega) (by omega) (by omega) (by omega) (by omega) (gFr_0_0 hFr) (gFr_1_10 hFr)) okX11_hire kw_3_72 ⟨kw_3_73, kw_3_74⟩ ⟨rfl, rfl⟩ ⟨Nat.le_of_ble_eq_true rfl, Nat.le_of_ble_eq_true rfl⟩ rfl (by omega) (by omega) lay_0 rfl rfl (Nat.le_of_ble_eq_true rfl) ⟨Nat.le_of_ble_eq_true rfl, Nat.le_of_ble_eq_true rfl⟩ rfl rfl dL_law_485 rfl (fun z58 M59 P60 => ?_)
      obtain ⟨P60, F61⟩ := P60
      refine g_aload_n (n := 489) X 1 dL_law_488 rfl rfl rfl ?_
      refine g_aload_n (n := 490) X 3 dL_law_489 rfl rfl rfl ?_
      refine g_iload_n (n := 491) X 0 dL_law_490 rfl rfl rfl ?_
      refine g_iconst (n := 492) X dL_law_491 rfl ?_
      refine g_iadd (n := 493) (z := 1) X dL_law_492 rfl rfl ?_
      refine g_scrld (n := 494) (z := v1) X hb (by omega) (by omega) (by omega) dL_law_493 rfl e1 ?_
      refine g_aload_n (n := 495) X 3 dL_law_494 rfl rfl rfl ?_
      refine g_iload_n (n := 496) X 0 dL_law_495 rfl rfl rfl ?_
      refine g_iconst (n := 497) X dL_law_496 rfl ?_
      refine g_iadd (n := 498) (z := 2) X dL_law_497 rfl rfl ?_
      refine g_scrld (n := 499) (z := v2) X hb (by omega) (by omega) (by omega) dL_law_498 rfl e2 ?_
      refine g_aload_n (n := 500) X 3 dL_law_499 rfl rfl rfl ?_
      refine g_iload_n (n := 501) X 0 dL_law_500 rfl rfl rfl ?_
      refine g_iconst (n := 502) X dL_law_501 rfl ?_
      refine g_iadd (n := 503) (z := 3) X dL_law_502 rfl rfl ?_
      refine g_scrld (n := 504) (z := v3) X hb (by omega) (by omega) (by omega) dL_law_503 rfl e3 ?_
      refine g_aload_n (n := 505) X 3 dL_law_504 rfl rfl rfl ?_
      refine g_iload_n (n := 506) X 0 dL_law_505 rfl rfl rfl ?_
      refine g_iconst (n := 507) X dL_law_506 rfl ?_
      refine g_iadd (n := 508) (z := 4) X dL_law_507 rfl rfl ?_
      refine g_scrld (n := 509) (z := v4) X hb (by omega) (by omega) (by omega) dL_law_508 rfl e4 ?_
      refine g_aload_n (n := 510) X 3 dL_law_509 rfl rfl rfl ?_
      refine g_iload_n (n := 511) X 0 dL_law_510 rfl rfl rfl ?_
      refine g_iconst (n := 512) X dL_law_511 rfl ?_
      refine g_iadd (n := 513) (z := 5) X dL_law_512 rfl rfl ?_
      refine g_scrld (n := 514) (z := v5) X hb (by omega) (by omega) (by omega) dL_law_513 rfl e5 ?_
      refine g_if_eq (n := 517) (tgt := 521) X dL_law_514 (by decide) (by omega) rfl (fun c62 => ?_) (fun c62 => ?_)
      · refine g_iconst (n := 522) X dL_law_521 rfl ?_
        refine g_aload_n (n := 523) X 3 dL_law_522 rfl rfl rfl ?_
        refine g_iload_n (n := 524) X 0 dL_law_523 rfl rfl rfl ?_
        refine g_bipush (n := 526) X dL_law_524 (by decide +kernel) rfl ?_
        refine g_iadd (n := 527) (z := 6) X dL_law_526 rfl rfl ?_
        refine g_scrld (n := 528) (z := v6) X hb (by omega) (by omega) (by omega) dL_law_527 rfl e6 ?_
        refine g_if_eq (n := 531) (tgt := 535) X dL_law_528 (by decide) (by omega) rfl (fun c63 => ?_) (fun c63 => ?_)
        · refine g_iconst (n := 536) X dL_law_535 rfl ?_
          refine g_callVi (n := 539) (As := [gJ v1, gJ v2, gJ v3, gJ v4, gJ 0, gJ 0]) (rest := [gJ z58]) (cs1 := 206) (ss1 := 87467) X (c_X12_hire v1 v2 v3 v4 0 0 (by omega) (by omega) (by omega) (by omega) (by omega) (by omega) (by omega) ((congrFun (F61 190) _).trans (gFr_190_1 hFr)) ((congrFun (F61 191) _).trans ((hS 1 (by omega) (by omega)).trans (by decide)))) okX12_hire kw_6_133 ⟨kw_6_134, kw_6_135⟩ ⟨rfl, rfl⟩ ⟨Nat.le_of_ble_eq_true rfl, Nat.le_of_ble_eq_true rfl⟩ rfl (by omega) (by omega) lay_190 rfl rfl (Nat.le_of_ble_eq_true rfl) ⟨Nat.le_of_ble_eq_true rfl, Nat.le_of_ble_eq_true rfl⟩ rfl rfl dL_law_536 rfl (fun z64 M65 P66 => ?_)
          obtain ⟨P66, F67⟩ := P66
          refine g_icmp_eq (n := 542) (tgt := 1992) X dL_law_539 (by decide) (by omega) (by omega) rfl (fun c68 => ?_) (fun c68 => by exfalso; omega)
          exact law_tail X hr hb (by omega) (by omega)
        · refine g_iconst (n := 532) X dL_law_531 rfl ?_
          refine g_goto (tgt := 536) X dL_law_532 (by decide) ?_
          refine g_callVi (n := 539) (As := [gJ v1, gJ v2, gJ v3, gJ v4, gJ 0, gJ 1]) (rest := [gJ z58]) (cs1 := 206) (ss1 := 87467) X (c_X12_hire v1 v2 v3 v4 0 1 (by omega) (by omega) (by omega) (by omega) (by omega) (by omega) (by omega) ((congrFun (F61 190) _).trans (gFr_190_1 hFr)) ((congrFun (F61 191) _).trans ((hS 1 (by omega) (by omega)).trans (by decide)))) okX12_hire kw_6_133 ⟨kw_6_134, kw_6_135⟩ ⟨rfl, rfl⟩ ⟨Nat.le_of_ble_eq_true rfl, Nat.le_of_ble_eq_true rfl⟩ rfl (by omega) (by omega) lay_190 rfl rfl (Nat.le_of_ble_eq_true rfl) ⟨Nat.le_of_ble_eq_true rfl, Nat.le_of_ble_eq_true rfl⟩ rfl rfl dL_law_536 rfl (fun z69 M70 P71 => ?_)
          obtain ⟨P71, F72⟩ := P71
          refine g_icmp_eq (n := 542) (tgt := 1992) X dL_law_539 (by decide) (by omega) (by omega) rfl (fun c73 => ?_) (fun c73 => by exfalso; omega)
          exact law_tail X hr hb (by omega) (by omega)
      · refine g_iconst (n := 518) X dL_law_517 rfl ?_
        refine g_goto (tgt := 522) X dL_law_518 (by decide) ?_
        refine g_aload_n (n := 523) X 3 dL_law_522 rfl rfl rfl ?_
        refine g_iload_n (n := 524) X 0 dL_law_523 rfl rfl rfl ?_
        refine g_bipush (n := 526) X dL_law_524 (by decide +kernel) rfl ?_
        refine g_iadd (n := 527) (z := 6) X dL_law_526 rfl rfl ?_
        refine g_scrld (n := 528) (z := v6) X hb (by omega) (by omega) (by omega) dL_law_527 rfl e6 ?_
        refine g_if_eq (n := 531) (tgt := 535) X dL_law_528 (by decide) (by omega) rfl (fun c74 => ?_) (fun c74 => ?_)
        · refine g_iconst (n := 536) X dL_law_535 rfl ?_
          refine g_callVi (n := 539) (As := [gJ v1, gJ v2, gJ v3, gJ v4, gJ 1, gJ 0]) (rest := [gJ z58]) (cs1 := 206) (ss1 := 87467) X (c_X12_hire v1 v2 v3 v4 1 0 (by omega) (by omega) (by omega) (by omega) (by omega) (by omega) (by omega) ((congrFun (F61 190) _).trans (gFr_190_1 hFr)) ((congrFun (F61 191) _).trans ((hS 1 (by omega) (by omega)).trans (by decide)))) okX12_hire kw_6_133 ⟨kw_6_134, kw_6_135⟩ ⟨rfl, rfl⟩ ⟨Nat.le_of_ble_eq_true rfl, Nat.le_of_ble_eq_true rfl⟩ rfl (by omega) (by omega) lay_190 rfl rfl (Nat.le_of_ble_eq_true rfl) ⟨Nat.le_of_ble_eq_true rfl, Nat.le_of_ble_eq_true rfl⟩ rfl rfl dL_law_536 rfl (fun z75 M76 P77 => ?_)
          obtain ⟨P77, F78⟩ := P77
          refine g_icmp_eq (n := 542) (tgt := 1992) X dL_law_539 (by decide) (by omega) (by omega) rfl (fun c79 => ?_) (fun c79 => by exfalso; omega)
          exact law_tail X hr hb (by omega) (by omega)
        · refine g_iconst (n := 532) X dL_law_531 rfl ?_
          refine g_goto (tgt := 536) X dL_law_532 (by decide) ?_
          refine g_callVi (n := 539) (As := [gJ v1, gJ v2, gJ v3, gJ v4, gJ 1, gJ 1]) (rest := [gJ z58]) (cs1 := 206) (ss1 := 87467) X (c_X12_hire v1 v2 v3 v4 1 1 (by omega) (by omega) (by omega) (by omega) (by omega) (by omega) (by omega) ((congrFun (F61 190) _).trans (gFr_190_1 hFr)) ((congrFun (F61 191) _).trans ((hS 1 (by omega) (by omega)).trans (by decide)))) okX12_hire kw_6_133 ⟨kw_6_134, kw_6_135⟩ ⟨rfl, rfl⟩ ⟨Nat.le_of_ble_eq_true rfl, Nat.le_of_ble_eq_true rfl⟩ rfl (by omega) (by omega) lay_190 rfl rfl (Nat.le_of_ble_eq_true rfl) ⟨Nat.le_of_ble_eq_true rfl, Nat.le_of_ble_eq_true rfl⟩ rfl rfl dL_law_536 rfl (fun z80 M81 P82 => ?_)
          obtain ⟨P82, F83⟩ := P82
          refine g_icmp_eq (n := 542) (tgt := 1992) X dL_law_539 (by decide) (by omega) (by omega) rfl (fun c84 => ?_) (fun c84 => by exfalso; omega)
          exact law_tail X hr hb (by omega) (by omega)
    · refine g_iconst (n := 481) X dL_law_480 rfl ?_
      refine g_goto (tgt := 485) X dL_law_481 (by decide) ?_
      refine g_callVi (n := 488) (As := [gJ v1, gJ v2, gJ v3, gJ v4, gJ 1, gJ 1]) (rest := []) (cs1 := 206) (ss1 := 87467) X (c_X11_hire v1 v2 v3 v4 1 1 (by omega) (by omega) (by omega) (by omega) (by omega) (by omega) (by omega) (gFr_0_0 hFr) (gFr_1_10 hFr)) okX11_hire kw_3_72 ⟨kw_3_73, kw_3_74⟩ ⟨rfl, rfl⟩ ⟨Nat.le_of_ble_eq_true rfl, Nat.le_of_ble_eq_true rfl⟩ rfl (by omega) (by omega) lay_0 rfl rfl (Nat.le_of_ble_eq_true rfl) ⟨Nat.le_of_ble_eq_true rfl, Nat.le_of_ble_eq_true rfl⟩ rfl rfl dL_law_485 rfl (fun z85 M86 P87 => ?_)
      obtain ⟨P87, F88⟩ := P87
      refine g_aload_n (n := 489) X 1 dL_law_488 rfl rfl rfl ?_
      refine g_aload_n (n := 490) X 3 dL_law_489 rfl rfl rfl ?_
      refine g_iload_n (n := 491) X 0 dL_law_490 rfl rfl rfl ?_
      refine g_iconst (n := 492) X dL_law_491 rfl ?_
      refine g_iadd (n := 493) (z := 1) X dL_law_492 rfl rfl ?_
      refine g_scrld (n := 494) (z := v1) X hb (by omega) (by omega) (by omega) dL_law_493 rfl e1 ?_
      refine g_aload_n (n := 495) X 3 dL_law_494 rfl rfl rfl ?_
      refine g_iload_n (n := 496) X 0 dL_law_495 rfl rfl rfl ?_
      refine g_iconst (n := 497) X dL_law_496 rfl ?_
      refine g_iadd (n := 498) (z := 2) X dL_law_497 rfl rfl ?_
      refine g_scrld (n := 499) (z := v2) X hb (by omega) (by omega) (by omega) dL_law_498 rfl e2 ?_
      refine g_aload_n (n := 500) X 3 dL_law_499 rfl rfl rfl ?_
      refine g_iload_n (n := 501) X 0 dL_law_500 rfl rfl rfl ?_
      refine g_iconst (n := 502) X dL_law_501 rfl ?_
      refine g_iadd (n := 503) (z := 3) X dL_law_502 rfl rfl ?_
      refine g_scrld (n := 504) (z := v3) X hb (by omega) (by omega) (by omega) dL_law_503 rfl e3 ?_
      refine g_aload_n (n := 505) X 3 dL_law_504 rfl rfl rfl ?_
      refine g_iload_n (n := 506) X 0 dL_law_505 rfl rfl rfl ?_
      refine g_iconst (n := 507) X dL_law_506 rfl ?_
      refine g_iadd (n := 508) (z := 4) X dL_law_507 rfl rfl ?_
      refine g_scrld (n := 509) (z := v4) X hb (by omega) (by omega) (by omega) dL_law_508 rfl e4 ?_
      refine g_aload_n (n := 510) X 3 dL_law_509 rfl rfl rfl ?_
      refine g_iload_n (n := 511) X 0 dL_law_510 rfl rfl rfl ?_
      refine g_iconst (n := 512) X dL_law_511 rfl ?_
      refine g_iadd (n := 513) (z := 5) X dL_law_512 rfl rfl ?_
      refine g_scrld (n := 514) (z := v5) X hb (by omega) (by omega) (by omega) dL_law_513 rfl e5 ?_
      refine g_if_eq (n := 517) (tgt := 521) X dL_law_514 (by decide) (by omega) rfl (fun c89 => ?_) (fun c89 => ?_)
      · refine g_iconst (n := 522) X dL_law_521 rfl ?_
        refine g_aload_n (n := 523) X 3 dL_law_522 rfl rfl rfl ?_
        refine g_iload_n (n := 524) X 0 dL_law_523 rfl rfl rfl ?_
        refine g_bipush (n := 526) X dL_law_524 (by decide +kernel) rfl ?_
        refine g_iadd (n := 527) (z := 6) X dL_law_526 rfl rfl ?_
        refine g_scrld (n := 528) (z := v6) X hb (by omega) (by omega) (by omega) dL_law_527 rfl e6 ?_
        refine g_if_eq (n := 531) (tgt := 535) X dL_law_528 (by decide) (by omega) rfl (fun c90 => ?_) (fun c90 => ?_)
        · refine g_iconst (n := 536) X dL_law_535 rfl ?_
          refine g_callVi (n := 539) (As := [gJ v1, gJ v2, gJ v3, gJ v4, gJ 0, gJ 0]) (rest := [gJ z85]) (cs1 := 206) (ss1 := 87467) X (c_X12_hire v1 v2 v3 v4 0 0 (by omega) (by omega) (by omega) (by omega) (by omega) (by omega) (by omega) ((congrFun (F88 190) _).trans (gFr_190_1 hFr)) ((congrFun (F88 191) _).trans ((hS 1 (by omega) (by omega)).trans (by decide)))) okX12_hire kw_6_133 ⟨kw_6_134, kw_6_135⟩ ⟨rfl, rfl⟩ ⟨Nat.le_of_ble_eq_true rfl, Nat.le_of_ble_eq_true rfl⟩ rfl (by omega) (by omega) lay_190 rfl rfl (Nat.le_of_ble_eq_true rfl) ⟨Nat.le_of_ble_eq_true rfl, Nat.le_of_ble_eq_true rfl⟩ rfl rfl dL_law_536 rfl (fun z91 M92 P93 => ?_)
          obtain ⟨P93, F94⟩ := P93
          refine g_icmp_eq (n := 542) (tgt := 1992) X dL_law_539 (by decide) (by omega) (by omega) rfl (fun c95 => ?_) (fun c95 => by exfalso; omega)
          exact law_tail X hr hb (by omega) (by omega)
        · refine g_iconst (n := 532) X dL_law_531 rfl ?_
          refine g_goto (tgt := 536) X dL_law_532 (by decide) ?_
          refine g_callVi (n := 539) (As := [gJ v1, gJ v2, gJ v3, gJ v4, gJ 0, gJ 1]) (rest := [gJ z85]) (cs1 := 206) (ss1 := 87467) X (c_X12_hire v1 v2 v3 v4 0 1 (by omega) (by omega) (by omega) (by omega) (by omega) (by omega) (by omega) ((congrFun (F88 190) _).trans (gFr_190_1 hFr)) ((congrFun (F88 191) _).trans ((hS 1 (by omega) (by omega)).trans (by decide)))) okX12_hire kw_6_133 ⟨kw_6_134, kw_6_135⟩ ⟨rfl, rfl⟩ ⟨Nat.le_of_ble_eq_true rfl, Nat.le_of_ble_eq_true rfl⟩ rfl (by omega) (by omega) lay_190 rfl rfl (Nat.le_of_ble_eq_true rfl) ⟨Nat.le_of_ble_eq_true rfl, Nat.le_of_ble_eq_true rfl⟩ rfl rfl dL_law_536 rfl (fun z96 M97 P98 => ?_)
          obtain ⟨P98, F99⟩ := P98
          refine g_icmp_eq (n := 542) (tgt := 1992) X dL_law_539 (by decide) (by omega) (by omega) rfl (fun c100 => ?_) (fun c100 => by exfalso; omega)
          exact law_tail X hr hb (by omega) (by omega)
      · refine g_iconst (n := 518) X dL_law_517 rfl ?_
        refine g_goto (tgt := 522) X dL_law_518 (by decide) ?_
        refine g_aload_n (n := 523) X 3 dL_law_522 rfl rfl rfl ?_
        refine g_iload_n (n := 524) X 0 dL_law_523 rfl rfl rfl ?_
        refine g_bipush (n := 526) X dL_law_524 (by decide +kernel) rfl ?_
        refine g_iadd (n := 527) (z := 6) X dL_law_526 rfl rfl ?_
        refine g_scrld (n := 528) (z := v6) X hb (by omega) (by omega) (by omega) dL_law_527 rfl e6 ?_
        refine g_if_eq (n := 531) (tgt := 535) X dL_law_528 (by decide) (by omega) rfl (fun c101 => ?_) (fun c101 => ?_)
        · refine g_iconst (n := 536) X dL_law_535 rfl ?_
          refine g_callVi (n := 539) (As := [gJ v1, gJ v2, gJ v3, gJ v4, gJ 1, gJ 0]) (rest := [gJ z85]) (cs1 := 206) (ss1 := 87467) X (c_X12_hire v1 v2 v3 v4 1 0 (by omega) (by omega) (by omega) (by omega) (by omega) (by omega) (by omega) ((congrFun (F88 190) _).trans (gFr_190_1 hFr)) ((congrFun (F88 191) _).trans ((hS 1 (by omega) (by omega)).trans (by decide)))) okX12_hire kw_6_133 ⟨kw_6_134, kw_6_135⟩ ⟨rfl, rfl⟩ ⟨Nat.le_of_ble_eq_true rfl, Nat.le_of_ble_eq_true rfl⟩ rfl (by omega) (by omega) lay_190 rfl rfl (Nat.le_of_ble_eq_true rfl) ⟨Nat.le_of_ble_eq_true rfl, Nat.le_of_ble_eq_true rfl⟩ rfl rfl dL_law_536 rfl (fun z102 M103 P104 => ?_)
          obtain ⟨P104, F105⟩ := P104
          refine g_icmp_eq (n := 542) (tgt := 1992) X dL_law_539 (by decide) (by omega) (by omega) rfl (fun c106 => ?_) (fun c106 => by exfalso; omega)
          exact law_tail X hr hb (by omega) (by omega)
        · refine g_iconst (n := 532) X dL_law_531 rfl ?_
          refine g_goto (tgt := 536) X dL_law_532 (by decide) ?_
          refine g_callVi (n := 539) (As := [gJ v1, gJ v2, gJ v3, gJ v4, gJ 1, gJ 1]) (rest := [gJ z85]) (cs1 := 206) (ss1 := 87467) X (c_X12_hire v1 v2 v3 v4 1 1 (by omega) (by omega) (by omega) (by omega) (by omega) (by omega) (by omega) ((congrFun (F88 190) _).trans (gFr_190_1 hFr)) ((congrFun (F88 191) _).trans ((hS 1 (by omega) (by omega)).trans (by decide)))) okX12_hire kw_6_133 ⟨kw_6_134, kw_6_135⟩ ⟨rfl, rfl⟩ ⟨Nat.le_of_ble_eq_true rfl, Nat.le_of_ble_eq_true rfl⟩ rfl (by omega) (by omega) lay_190 rfl rfl (Nat.le_of_ble_eq_true rfl) ⟨Nat.le_of_ble_eq_true rfl, Nat.le_of_ble_eq_true rfl⟩ rfl rfl dL_law_536 rfl (fun z107 M108 P109 => ?_)
          obtain ⟨P109, F110⟩ := P109
          refine g_icmp_eq (n := 542) (tgt := 1992) X dL_law_539 (by decide) (by omega) (by omega) rfl (fun c111 => ?_) (fun c111 => by exfalso; omega)
          exact law_tail X hr hb (by omega) (by omega)
theorem dL_law_544 : decode code 544 = .ok (.aload_n 1, 1) := by decide +kernel
theorem dL_law_545 : decode code 545 = .ok (.aload_n 0, 1) := by decide +kernel
theorem dL_law_546 : decode code 546 = .ok (.iload_n 3, 1) := by decide +kernel
theorem dL_law_547 : decode code 547 = .ok (.iconst 1, 1) := by decide +kernel
theorem dL_law_548 : decode code 548 = .ok (.iadd, 1) := by decide +kernel
theorem dL_law_549 : decode code 549 = .ok (.iaload, 1) := by decide +kernel
theorem dL_law_550 : decode code 550 = .ok (.aload_n 0, 1) := by decide +kernel
theorem dL_law_551 : decode code 551 = .ok (.iload_n 3, 1) := by decide +kernel
theorem dL_law_552 : decode code 552 = .ok (.iconst 2, 1) := by decide +kernel
theorem dL_law_553 : decode code 553 = .ok (.iadd, 1) := by decide +kernel
theorem dL_law_554 : decode code 554 = .ok (.iaload, 1) := by decide +kernel
theorem dL_law_555 : decode code 555 = .ok (.aload_n 0, 1) := by decide +kernel
theorem dL_law_556 : decode code 556 = .ok (.iload_n 3, 1) := by decide +kernel
theorem dL_law_557 : decode code 557 = .ok (.iconst 3, 1) := by decide +kernel
theorem dL_law_558 : decode code 558 = .ok (.iadd, 1) := by decide +kernel
theorem dL_law_559 : decode code 559 = .ok (.iaload, 1) := by decide +kernel
theorem dL_law_560 : decode code 560 = .ok (.aload_n 0, 1) := by decide +kernel
theorem dL_law_561 : decode code 561 = .ok (.iload_n 3, 1) := by decide +kernel
theorem dL_law_562 : decode code 562 = .ok (.iconst 4, 1) := by decide +kernel
theorem dL_law_563 : decode code 563 = .ok (.iadd, 1) := by decide +kernel
theorem dL_law_564 : decode code 564 = .ok (.iaload, 1) := by decide +kernel
theorem dL_law_565 : decode code 565 = .ok (.aload_n 0, 1) := by decide +kernel
theorem dL_law_566 : decode code 566 = .ok (.iload_n 3, 1) := by decide +kernel
theorem dL_law_567 : decode code 567 = .ok (.iconst 5, 1) := by decide +kernel
theorem dL_law_568 : decode code 568 = .ok (.iadd, 1) := by decide +kernel
theorem dL_law_569 : decode code 569 = .ok (.iaload, 1) := by decide +kernel
theorem dL_law_570 : decode code 570 = .ok (.ifCond .eq 7, 3) := by decide +kernel
theorem dL_law_577 : decode code 577 = .ok (.iconst 0, 1) := by decide +kernel
theorem dL_law_578 : decode code 578 = .ok (.invokevirtual 41, 3) := by decide +kernel
theorem kw_3_84 : (Jvm.Cond.methodLink "ParishUnionLaw" (41 : Nat) ({ cls := "ParishUnion", name := "rated", desc := "(IIIIZ)I" } : Jvm.MethodName)) ∈ gT := gT_of (tb_3 _ (List.mem_of_getElem? (i := 84) rfl)) rfl
theorem kw_3_87 : (Jvm.Cond.code ({ cls := "ParishUnion", name := "rated", desc := "(IIIIZ)I" } : Jvm.MethodName) prog_1_method_8_code (6 : Nat) (Option.some Jvm.ClassFile.FieldType.int)) ∈ gT := gT_of (tb_3 _ (List.mem_of_getElem? (i := 87) rfl)) rfl
theorem okX11_rated : gQok yX11_rated cX11_rated 6 (Option.some Jvm.ClassFile.FieldType.int) 5 := ⟨kw_3_87, kw_1_1, by decide +kernel, by decide +kernel, by decide +kernel⟩
theorem kw_3_85 : (Jvm.Cond.instanceMethod ({ cls := "ParishUnion", name := "rated", desc := "(IIIIZ)I" } : Jvm.MethodName)) ∈ gT := gT_of (tb_3 _ (List.mem_of_getElem? (i := 85) rfl)) rfl
theorem kw_3_86 : (Jvm.Cond.selects "ParishUnion" ({ cls := "ParishUnion", name := "rated", desc := "(IIIIZ)I" } : Jvm.MethodName) ({ cls := "ParishUnion", name := "rated", desc := "(IIIIZ)I" } : Jvm.MethodName)) ∈ gT := gT_of (tb_3 _ (List.mem_of_getElem? (i := 86) rfl)) rfl
theorem dL_law_581 : decode code 581 = .ok (.aload_n 2, 1) := by decide +kernel
theorem dL_law_582 : decode code 582 = .ok (.aload_n 0, 1) := by decide +kernel
theorem dL_law_583 : decode code 583 = .ok (.iload_n 3, 1) := by decide +kernel
theorem dL_law_584 : decode code 584 = .ok (.iconst 1, 1) := by decide +kernel
theorem dL_law_585 : decode code 585 = .ok (.iadd, 1) := by decide +kernel
theorem dL_law_586 : decode code 586 = .ok (.iaload, 1) := by decide +kernel
theorem dL_law_587 : decode code 587 = .ok (.aload_n 0, 1) := by decide +kernel
theorem dL_law_588 : decode code 588 = .ok (.iload_n 3, 1) := by decide +kernel
theorem dL_law_589 : decode code 589 = .ok (.iconst 2, 1) := by decide +kernel
theorem dL_law_590 : decode code 590 = .ok (.iadd, 1) := by decide +kernel
theorem dL_law_591 : decode code 591 = .ok (.iaload, 1) := by decide +kernel
theorem dL_law_592 : decode code 592 = .ok (.aload_n 0, 1) := by decide +kernel
theorem dL_law_593 : decode code 593 = .ok (.iload_n 3, 1) := by decide +kernel
theorem dL_law_594 : decode code 594 = .ok (.iconst 3, 1) := by decide +kernel
theorem dL_law_595 : decode code 595 = .ok (.iadd, 1) := by decide +kernel
theorem dL_law_596 : decode code 596 = .ok (.iaload, 1) := by decide +kernel
theorem dL_law_597 : decode code 597 = .ok (.aload_n 0, 1) := by decide +kernel
theorem dL_law_598 : decode code 598 = .ok (.iload_n 3, 1) := by decide +kernel
theorem dL_law_599 : decode code 599 = .ok (.iconst 4, 1) := by decide +kernel
theorem dL_law_600 : decode code 600 = .ok (.iadd, 1) := by decide +kernel
theorem dL_law_601 : decode code 601 = .ok (.iaload, 1) := by decide +kernel
theorem dL_law_602 : decode code 602 = .ok (.aload_n 0, 1) := by decide +kernel
theorem dL_law_603 : decode code 603 = .ok (.iload_n 3, 1) := by decide +kernel
theorem dL_law_604 : decode code 604 = .ok (.iconst 5, 1) := by decide +kernel
theorem dL_law_605 : decode code 605 = .ok (.iadd, 1) := by decide +kernel
theorem dL_law_606 : decode code 606 = .ok (.iaload, 1) := by decide +kernel
theorem dL_law_607 : decode code 607 = .ok (.ifCond .eq 7, 3) := by decide +kernel
theorem dL_law_614 : decode code 614 = .ok (.iconst 0, 1) := by decide +kernel
theorem dL_law_615 : decode code 615 = .ok (.invokevirtual 45, 3) := by decide +kernel
theorem kw_6_149 : (Jvm.Cond.methodLink "ParishUnionLaw" (45 : Nat) ({ cls := "ParishUnionModel", name := "rated", desc := "(IIIIZ)I" } : Jvm.MethodName)) ∈ gT := gT_of (tb_6 _ (List.mem_of_getElem? (i := 149) rfl)) rfl
theorem kw_6_152 : (Jvm.Cond.code ({ cls := "ParishUnionModel", name := "rated", desc := "(IIIIZ)I" } : Jvm.MethodName) prog_14_method_19_code (6 : Nat) (Option.some Jvm.ClassFile.FieldType.int)) ∈ gT := gT_of (tb_6 _ (List.mem_of_getElem? (i := 152) rfl)) rfl
theorem okX12_rated : gQok yX12_rated cX12_rated 6 (Option.some Jvm.ClassFile.FieldType.int) 5 := ⟨kw_6_152, kw_1_13, by decide +kernel, by decide +kernel, by decide +kernel⟩
theorem kw_6_150 : (Jvm.Cond.instanceMethod ({ cls := "ParishUnionModel", name := "rated", desc := "(IIIIZ)I" } : Jvm.MethodName)) ∈ gT := gT_of (tb_6 _ (List.mem_of_getElem? (i := 150) rfl)) rfl
theorem kw_6_151 : (Jvm.Cond.selects "ParishUnionModel" ({ cls := "ParishUnionModel", name := "rated", desc := "(IIIIZ)I" } : Jvm.MethodName) ({ cls := "ParishUnionModel", name := "rated", desc := "(IIIIZ)I" } : Jvm.MethodName)) ∈ gT := gT_of (tb_6 _ (List.mem_of_getElem? (i := 151) rfl)) rfl
theorem dL_law_618 : decode code 618 = .ok (.if_icmp .eq 1374, 3) := by decide +kernel
theorem dL_law_610 : decode code 610 = .ok (.iconst 1, 1) := by decide +kernel
theorem dL_law_611 : decode code 611 = .ok (.goto 4, 3) := by decide +kernel
theorem dL_law_573 : decode code 573 = .ok (.iconst 1, 1) := by decide +kernel
theorem dL_law_574 : decode code 574 = .ok (.goto 4, 3) := by decide +kernel
set_option maxRecDepth 100000 in
set_option maxHeartbeats 4000000 in
theorem law_case_6 {p : Program} {e : Env} {s : State} {m : MethodId} {below : List Frame} {meth : Method} {c : Code} {l : Launch} {D : va_G} {cA : Nat → ClassId} {b : Nat} {xs : Nat → Int32} (X : gCx p s m #[Value.ref b] meth c s.heap.size D cA "ParishUnionLaw" code 4) (hr : meth.sig.returnType = ret) (hb : b < s.heap.size ∧ va_X b 7 xs s s.heap) {M : gM} (hFr : gFr M) : G p l e room_1 s m #[Value.ref b] below meth c s.heap.size D cA 4 (lw_Z below #[Value.ref b] s) 206 87467 M 206 544 [(3, gJ 0), (2, gA s.heap.size 190), (1, gA s.heap.size 0), (0, .ref b)] [] := by
  have rents := gFr_rents hFr
  have way := gFr_way hFr
  have beds := gFr_beds hFr
  have frost0 := gFr_frost0 hFr
  have rows0 := gFr_rows0 hFr
  have rooms0 := gFr_rooms0 hFr
  have tape0 := gFr_tape0 hFr
  have car0 := gFr_car0 hFr
  have hS := gFr_hS hFr
  obtain ⟨v0, e0, r0⟩ : ∃ z : Int, xs 0 = Int32.ofInt z ∧ -2147483648 ≤ z ∧ z ≤ 2147483647 := ⟨_, gi_of _, gi_rg _⟩
  obtain ⟨v1, e1, r1⟩ : ∃ z : Int, xs 1 = Int32.ofInt z ∧ -2147483648 ≤ z ∧ z ≤ 2147483647 := ⟨_, gi_of _, gi_rg _⟩
  obtain ⟨v2, e2, r2⟩ : ∃ z : Int, xs 2 = Int32.ofInt z ∧ -2147483648 ≤ z ∧ z ≤ 2147483647 := ⟨_, gi_of _, gi_rg _⟩
  obtain ⟨v3, e3, r3⟩ : ∃ z : Int, xs 3 = Int32.ofInt z ∧ -2147483648 ≤ z ∧ z ≤ 2147483647 := ⟨_, gi_of _, gi_rg _⟩
  obtain ⟨v4, e4, r4⟩ : ∃ z : Int, xs 4 = Int32.ofInt z ∧ -2147483648 ≤ z ∧ z ≤ 2147483647 := ⟨_, gi_of _, gi_rg _⟩
  obtain ⟨v5, e5, r5⟩ : ∃ z : Int, xs 5 = Int32.ofInt z ∧ -2147483648 ≤ z ∧ z ≤ 2147483647 := ⟨_, gi_of _, gi_rg _⟩
  obtain ⟨v6, e6, r6⟩ : ∃ z : Int, xs 6 = Int32.ofInt z ∧ -2147483648 ≤ z ∧ z ≤ 2147483647 := ⟨_, gi_of _, gi_rg _⟩
  refine g_aload_n (n := 545) X 2 dL_law_544 rfl rfl rfl ?_
  refine g_aload_n (n := 546) X 3 dL_law_545 rfl rfl rfl ?_
  refine g_iload_n (n := 547) X 0 dL_law_546 rfl rfl rfl ?_
  refine g_iconst (n := 548) X dL_law_547 rfl ?_
  refine g_iadd (n := 549) (z := 1) X dL_law_548 rfl rfl ?_
  refine g_scrld (n := 550) (z := v1) X hb (by omega) (by omega) (by omega) dL_law_549 rfl e1 ?_
  refine g_aload_n (n := 551) X 3 dL_law_550 rfl rfl rfl ?_
  refine g_iload_n (n := 552) X 0 dL_law_551 rfl rfl rfl ?_
  refine g_iconst (n := 553) X dL_law_552 rfl ?_
  refine g_iadd (n := 554) (z := 2) X dL_law_553 rfl rfl ?_
  refine g_scrld (n := 555) (z := v2) X hb (by omega) (by omega) (by omega) dL_law_554 rfl e2 ?_
  refine g_aload_n (n := 556) X 3 dL_law_555 rfl rfl rfl ?_
  refine g_iload_n (n := 557) X 0 dL_law_556 rfl rfl rfl ?_
  refine g_iconst (n := 558) X dL_law_557 rfl ?_
  refine g_iadd (n := 559) (z := 3) X dL_law_558 rfl rfl ?_
  refine g_scrld (n := 560) (z := v3) X hb (by omega) (by omega) (by omega) dL_law_559 rfl e3 ?_
  refine g_aload_n (n := 561) X 3 dL_law_560 rfl rfl rfl ?_
  refine g_iload_n (n := 562) X 0 dL_law_561 rfl rfl rfl ?_
  refine g_iconst (n := 563) X dL_law_562 rfl ?_
  refine g_iadd (n := 564) (z := 4) X dL_law_563 rfl rfl ?_
  refine g_scrld (n := 565) (z := v4) X hb (by omega) (by omega) (by omega) dL_law_564 rfl e4 ?_
  refine g_aload_n (n := 566) X 3 dL_law_565 rfl rfl rfl ?_
  refine g_iload_n (n := 567) X 0 dL_law_566 rfl rfl rfl ?_
  refine g_iconst (n := 568) X dL_law_567 rfl ?_
  refine g_iadd (n := 569) (z := 5) X dL_law_568 rfl rfl ?_
  refine g_scrld (n := 570) (z := v5) X hb (by omega) (by omega) (by omega) dL_law_569 rfl e5 ?_
  refine g_if_eq (n := 573) (tgt := 577) X dL_law_570 (by decide) (by omega) rfl (fun c1 => ?_) (fun c1 => ?_)
  · refine g_iconst (n := 578) X dL_law_577 rfl ?_
    refine g_callVi (n := 581) (As := [gJ v1, gJ v2, gJ v3, gJ v4, gJ 0]) (rest := []) (cs1 := 206) (ss1 := 87467) X (c_X11_rated v1 v2 v3 v4 0 (by omega) (by omega) (by omega) (by omega) (by omega) (by omega) (gFr_0_0 hFr) (gFr_1_10 hFr)) okX11_rated kw_3_84 ⟨kw_3_85, kw_3_86⟩ ⟨rfl, rfl⟩ ⟨Nat.le_of_ble_eq_true rfl, Nat.le_of_ble_eq_true rfl⟩ rfl (by omega) (by omega) lay_0 rfl rfl (Nat.le_of_ble_eq_true rfl) ⟨Nat.le_of_ble_eq_true rfl, Nat.le_of_ble_eq_true rfl⟩ rfl rfl dL_law_578 rfl (fun z2 M3 P4 => ?_)
    obtain ⟨P4, F5⟩ := P4
    refine g_aload_n (n := 582) X 1 dL_law_581 rfl rfl rfl ?_
    refine g_aload_n (n := 583) X 3 dL_law_582 rfl rfl rfl ?_
    refine g_iload_n (n := 584) X 0 dL_law_583 rfl rfl rfl ?_
    refine g_iconst (n := 585) X dL_law_584 rfl ?_
    refine g_iadd (n := 586) (z := 1) X dL_law_585 rfl rfl ?_
    refine g_scrld (n := 587) (z := v1) X hb (by omega) (by omega) (by omega) dL_law_586 rfl e1 ?_
    refine g_aload_n (n := 588) X 3 dL_law_587 rfl rfl rfl ?_
    refine g_iload_n (n := 589) X 0 dL_law_588 rfl rfl rfl ?_
    refine g_iconst (n := 590) X dL_law_589 rfl ?_
    refine g_iadd (n := 591) (z := 2) X dL_law_590 rfl rfl ?_
    refine g_scrld (n := 592) (z := v2) X hb (by omega) (by omega) (by omega) dL_law_591 rfl e2 ?_
    refine g_aload_n (n := 593) X 3 dL_law_592 rfl rfl rfl ?_
    refine g_iload_n (n := 594) X 0 dL_law_593 rfl rfl rfl ?_
    refine g_iconst (n := 595) X dL_law_594 rfl ?_
    refine g_iadd (n := 596) (z := 3) X dL_law_595 rfl rfl ?_
    refine g_scrld (n := 597) (z := v3) X hb (by omega) (by omega) (by omega) dL_law_596 rfl e3 ?_
    refine g_aload_n (n := 598) X 3 dL_law_597 rfl rfl rfl ?_
    refine g_iload_n (n := 599) X 0 dL_law_598 rfl rfl rfl ?_
    refine g_iconst (n := 600) X dL_law_599 rfl ?_
    refine g_iadd (n := 601) (z := 4) X dL_law_600 rfl rfl ?_
    refine g_scrld (n := 602) (z := v4) X hb (by omega) (by omega) (by omega) dL_law_601 rfl e4 ?_
    refine g_aload_n (n := 603) X 3 dL_law_602 rfl rfl rfl ?_
    refine g_iload_n (n := 604) X 0 dL_law_603 rfl rfl rfl ?_
    refine g_iconst (n := 605) X dL_law_604 rfl ?_
    refine g_iadd (n := 606) (z := 5) X dL_law_605 rfl rfl ?_
    refine g_scrld (n := 607) (z := v5) X hb (by omega) (by omega) (by omega) dL_law_606 rfl e5 ?_
    refine g_if_eq (n := 610) (tgt := 614) X dL_law_607 (by decide) (by omega) rfl (fun c6 => ?_) (fun c6 => ?_)
    · refine g_iconst (n := 615) X dL_law_614 rfl ?_
      refine g_callVi (n := 618) (As := [gJ v1, gJ v2, gJ v3, gJ v4, gJ 0]) (rest := [gJ z2]) (cs1 := 206) (ss1 := 87467) X (c_X12_rated v1 v2 v3 v4 0 (by omega) (by omega) (by omega) (by omega) (by omega) (by omega) ((congrFun (F5 190) _).trans (gFr_190_1 hFr)) ((congrFun (F5 191) _).trans ((hS 1 (by omega) (by omega)).trans (by decide)))) okX12_rated kw_6_149 ⟨kw_6_150, kw_6_151⟩ ⟨rfl, rfl⟩ ⟨Nat.le_of_ble_eq_true rfl, Nat.le_of_ble_eq_true rfl⟩ rfl (by omega) (by omega) lay_190 rfl rfl (Nat.le_of_ble_eq_true rfl) ⟨Nat.le_of_ble_eq_true rfl, Nat.le_of_ble_eq_true rfl⟩ rfl rfl dL_law_615 rfl (fun z7 M8 P9 => ?_)
      obtain ⟨P9, F10⟩ := P9
      refine g_icmp_eq (n := 621) (tgt := 1992) X dL_law_618 (by decide) (by omega) (by omega) rfl (fun c11 => ?_) (fun c11 => by exfalso; omega)
      exact law_tail X hr hb (by omega) (by omega)
    · refine g_iconst (n := 611) X dL_law_610 rfl ?_
      refine g_goto (tgt := 615) X dL_law_611 (by decide) ?_
      refine g_callVi (n := 618) (As := [gJ v1, gJ v2, gJ v3, gJ v4, gJ 1]) (rest := [gJ z2]) (cs1 := 206) (ss1 := 87467) X (c_X12_rated v1 v2 v3 v4 1 (by omega) (by omega) (by omega) (by omega) (by omega) (by omega) ((congrFun (F5 190) _).trans (gFr_190_1 hFr)) ((congrFun (F5 191) _).trans ((hS 1 (by omega) (by omega)).trans (by decide)))) okX12_rated kw_6_149 ⟨kw_6_150, kw_6_151⟩ ⟨rfl, rfl⟩ ⟨Nat.le_of_ble_eq_true rfl, Nat.le_of_ble_eq_true rfl⟩ rfl (by omega) (by omega) lay_190 rfl rfl (Nat.le_of_ble_eq_true rfl) ⟨Nat.le_of_ble_eq_true rfl, Nat.le_of_ble_eq_true rfl⟩ rfl rfl dL_law_615 rfl (fun z12 M13 P14 => ?_)
      obtain ⟨P14, F15⟩ := P14
      refine g_icmp_eq (n := 621) (tgt := 1992) X dL_law_618 (by decide) (by omega) (by omega) rfl (fun c16 => ?_) (fun c16 => by exfalso; omega)
      exact law_tail X hr hb (by omega) (by omega)
  · refine g_iconst (n := 574) X dL_law_573 rfl ?_
    refine g_goto (tgt := 578) X dL_law_574 (by decide) ?_
    refine g_callVi (n := 581) (As := [gJ v1, gJ v2, gJ v3, gJ v4, gJ 1]) (rest := []) (cs1 := 206) (ss1 := 87467) X (c_X11_rated v1 v2 v3 v4 1 (by omega) (by omega) (by omega) (by omega) (by omega) (by omega) (gFr_0_0 hFr) (gFr_1_10 hFr)) okX11_rated kw_3_84 ⟨kw_3_85, kw_3_86⟩ ⟨rfl, rfl⟩ ⟨Nat.le_of_ble_eq_true rfl, Nat.le_of_ble_eq_true rfl⟩ rfl (by omega) (by omega) lay_0 rfl rfl (Nat.le_of_ble_eq_true rfl) ⟨Nat.le_of_ble_eq_true rfl, Nat.le_of_ble_eq_true rfl⟩ rfl rfl dL_law_578 rfl (fun z17 M18 P19 => ?_)
    obtain ⟨P19, F20⟩ := P19
    refine g_aload_n (n := 582) X 1 dL_law_581 rfl rfl rfl ?_
    refine g_aload_n (n := 583) X 3 dL_law_582 rfl rfl rfl ?_
    refine g_iload_n (n := 584) X 0 dL_law_583 rfl rfl rfl ?_
    refine g_iconst (n := 585) X dL_law_584 rfl ?_
    refine g_iadd (n := 586) (z := 1) X dL_law_585 rfl rfl ?_
    refine g_scrld (n := 587) (z := v1) X hb (by omega) (by omega) (by omega) dL_law_586 rfl e1 ?_
    refine g_aload_n (n := 588) X 3 dL_law_587 rfl rfl rfl ?_
    refine g_iload_n (n := 589) X 0 dL_law_588 rfl rfl rfl ?_
    refine g_iconst (n := 590) X dL_law_589 rfl ?_
    refine g_iadd (n := 591) (z := 2) X dL_law_590 rfl rfl ?_
    refine g_scrld (n := 592) (z := v2) X hb (by omega) (by omega) (by omega) dL_law_591 rfl e2 ?_
    refine g_aload_n (n := 593) X 3 dL_law_592 rfl rfl rfl ?_
    refine g_iload_n (n := 594) X 0 dL_law_593 rfl rfl rfl ?_
    refine g_iconst (n := 595) X dL_law_594 rfl ?_
    refine g_iadd (n := 596) (z := 3) X dL_law_595 rfl rfl ?_
    refine g_scrld (n := 597) (z := v3) X hb (by omega) (by omega) (by omega) dL_law_596 rfl e3 ?_
    refine g_aload_n (n := 598) X 3 dL_law_597 rfl rfl rfl ?_
    refine g_iload_n (n := 599) X 0 dL_law_598 rfl rfl rfl ?_
    refine g_iconst (n := 600) X dL_law_599 rfl ?_
    refine g_iadd (n := 601) (z := 4) X dL_law_600 rfl rfl ?_
    refine g_scrld (n := 602) (z := v4) X hb (by omega) (by omega) (by omega) dL_law_601 rfl e4 ?_
    refine g_aload_n (n := 603) X 3 dL_law_602 rfl rfl rfl ?_
    refine g_iload_n (n := 604) X 0 dL_law_603 rfl rfl rfl ?_
    refine g_iconst (n := 605) X dL_law_604 rfl ?_
    refine g_iadd (n := 606) (z := 5) X dL_law_605 rfl rfl ?_
    refine g_scrld (n := 607) (z := v5) X hb (by omega) (by omega) (by omega) dL_law_606 rfl e5 ?_
    refine g_if_eq (n := 610) (tgt := 614) X dL_law_607 (by decide) (by omega) rfl (fun c21 => ?_) (fun c21 => ?_)
    · refine g_iconst (n := 615) X dL_law_614 rfl ?_
      refine g_callVi (n := 618) (As := [gJ v1, gJ v2, gJ v3, gJ v4, gJ 0]) (rest := [gJ z17]) (cs1 := 206) (ss1 := 87467) X (c_X12_rated v1 v2 v3 v4 0 (by omega) (by omega) (by omega) (by omega) (by omega) (by omega) ((congrFun (F20 190) _).trans (gFr_190_1 hFr)) ((congrFun (F20 191) _).trans ((hS 1 (by omega) (by omega)).trans (by decide)))) okX12_rated kw_6_149 ⟨kw_6_150, kw_6_151⟩ ⟨rfl, rfl⟩ ⟨Nat.le_of_ble_eq_true rfl, Nat.le_of_ble_eq_true rfl⟩ rfl (by omega) (by omega) lay_190 rfl rfl (Nat.le_of_ble_eq_true rfl) ⟨Nat.le_of_ble_eq_true rfl, Nat.le_of_ble_eq_true rfl⟩ rfl rfl dL_law_615 rfl (fun z22 M23 P24 => ?_)
      obtain ⟨P24, F25⟩ := P24
      refine g_icmp_eq (n := 621) (tgt := 1992) X dL_law_618 (by decide) (by omega) (by omega) rfl (fun c26 => ?_) (fun c26 => by exfalso; omega)
      exact law_tail X hr hb (by omega) (by omega)
    · refine g_iconst (n := 611) X dL_law_610 rfl ?_
      refine g_goto (tgt := 615) X dL_law_611 (by decide) ?_
      refine g_callVi (n := 618) (As := [gJ v1, gJ v2, gJ v3, gJ v4, gJ 1]) (rest := [gJ z17]) (cs1 := 206) (ss1 := 87467) X (c_X12_rated v1 v2 v3 v4 1 (by omega) (by omega) (by omega) (by omega) (by omega) (by omega) ((congrFun (F20 190) _).trans (gFr_190_1 hFr)) ((congrFun (F20 191) _).trans ((hS 1 (by omega) (by omega)).trans (by decide)))) okX12_rated kw_6_149 ⟨kw_6_150, kw_6_151⟩ ⟨rfl, rfl⟩ ⟨Nat.le_of_ble_eq_true rfl, Nat.le_of_ble_eq_true rfl⟩ rfl (by omega) (by omega) lay_190 rfl rfl (Nat.le_of_ble_eq_true rfl) ⟨Nat.le_of_ble_eq_true rfl, Nat.le_of_ble_eq_true rfl⟩ rfl rfl dL_law_615 rfl (fun z27 M28 P29 => ?_)
      obtain ⟨P29, F30⟩ := P29
      refine g_icmp_eq (n := 621) (tgt := 1992) X dL_law_618 (by decide) (by omega) (by omega) rfl (fun c31 => ?_) (fun c31 => by exfalso; omega)
      exact law_tail X hr hb (by omega) (by omega)
theorem dL_law_623 : decode code 623 = .ok (.aload_n 1, 1) := by decide +kernel
theorem dL_law_624 : decode code 624 = .ok (.aload_n 0, 1) := by decide +kernel
theorem dL_law_625 : decode code 625 = .ok (.iload_n 3, 1) := by decide +kernel
theorem dL_law_626 : decode code 626 = .ok (.iconst 1, 1) := by decide +kernel
theorem dL_law_627 : decode code 627 = .ok (.iadd, 1) := by decide +kernel
theorem dL_law_628 : decode code 628 = .ok (.iaload, 1) := by decide +kernel
theorem dL_law_629 : decode code 629 = .ok (.aload_n 0, 1) := by decide +kernel
theorem dL_law_630 : decode code 630 = .ok (.iload_n 3, 1) := by decide +kernel
theorem dL_law_631 : decode code 631 = .ok (.iconst 2, 1) := by decide +kernel
theorem dL_law_632 : decode code 632 = .ok (.iadd, 1) := by decide +kernel
theorem dL_law_633 : decode code 633 = .ok (.iaload, 1) := by decide +kernel
theorem dL_law_634 : decode code 634 = .ok (.aload_n 0, 1) := by decide +kernel
theorem dL_law_635 : decode code 635 = .ok (.iload_n 3, 1) := by decide +kernel
theorem dL_law_636 : decode code 636 = .ok (.iconst 3, 1) := by decide +kernel
theorem dL_law_637 : decode code 637 = .ok (.iadd, 1) := by decide +kernel
theorem dL_law_638 : decode code 638 = .ok (.iaload, 1) := by decide +kernel
theorem dL_law_639 : decode code 639 = .ok (.aload_n 0, 1) := by decide +kernel
theorem dL_law_640 : decode code 640 = .ok (.iload_n 3, 1) := by decide +kernel
theorem dL_law_641 : decode code 641 = .ok (.iconst 4, 1) := by decide +kernel
theorem dL_law_642 : decode code 642 = .ok (.iadd, 1) := by decide +kernel
theorem dL_law_643 : decode code 643 = .ok (.iaload, 1) := by decide +kernel
theorem dL_law_644 : decode code 644 = .ok (.ifCond .eq 7, 3) := by decide +kernel
theorem dL_law_651 : decode code 651 = .ok (.iconst 0, 1) := by decide +kernel
theorem dL_law_652 : decode code 652 = .ok (.invokevirtual 46, 3) := by decide +kernel
theorem kw_3_88 : (Jvm.Cond.methodLink "ParishUnionLaw" (46 : Nat) ({ cls := "ParishUnion", name := "wed", desc := "(IIIZ)I" } : Jvm.MethodName)) ∈ gT := gT_of (tb_3 _ (List.mem_of_getElem? (i := 88) rfl)) rfl
theorem kw_3_91 : (Jvm.Cond.code ({ cls := "ParishUnion", name := "wed", desc := "(IIIZ)I" } : Jvm.MethodName) prog_1_method_9_code (5 : Nat) (Option.some Jvm.ClassFile.FieldType.int)) ∈ gT := gT_of (tb_3 _ (List.mem_of_getElem? (i := 91) rfl)) rfl
theorem okX11_wed : gQok yX11_wed cX11_wed 5 (Option.some Jvm.ClassFile.FieldType.int) 4 := ⟨kw_3_91, kw_1_1, by decide +kernel, by decide +kernel, by decide +kernel⟩
theorem kw_3_89 : (Jvm.Cond.instanceMethod ({ cls := "ParishUnion", name := "wed", desc := "(IIIZ)I" } : Jvm.MethodName)) ∈ gT := gT_of (tb_3 _ (List.mem_of_getElem? (i := 89) rfl)) rfl
theorem kw_3_90 : (Jvm.Cond.selects "ParishUnion" ({ cls := "ParishUnion", name := "wed", desc := "(IIIZ)I" } : Jvm.MethodName) ({ cls := "ParishUnion", name := "wed", desc := "(IIIZ)I" } : Jvm.MethodName)) ∈ gT := gT_of (tb_3 _ (List.mem_of_getElem? (i := 90) rfl)) rfl
theorem dL_law_655 : decode code 655 = .ok (.aload_n 2, 1) := by decide +kernel
theorem dL_law_656 : decode code 656 = .ok (.aload_n 0, 1) := by decide +kernel
theorem dL_law_657 : decode code 657 = .ok (.iload_n 3, 1) := by decide +kernel
theorem dL_law_658 : decode code 658 = .ok (.iconst 1, 1) := by decide +kernel
theorem dL_law_659 : decode code 659 = .ok (.iadd, 1) := by decide +kernel
theorem dL_law_660 : decode code 660 = .ok (.iaload, 1) := by decide +kernel
theorem dL_law_661 : decode code 661 = .ok (.aload_n 0, 1) := by decide +kernel
theorem dL_law_662 : decode code 662 = .ok (.iload_n 3, 1) := by decide +kernel
theorem dL_law_663 : decode code 663 = .ok (.iconst 2, 1) := by decide +kernel
theorem dL_law_664 : decode code 664 = .ok (.iadd, 1) := by decide +kernel
theorem dL_law_665 : decode code 665 = .ok (.iaload, 1) := by decide +kernel
theorem dL_law_666 : decode code 666 = .ok (.aload_n 0, 1) := by decide +kernel
theorem dL_law_667 : decode code 667 = .ok (.iload_n 3, 1) := by decide +kernel
theorem dL_law_668 : decode code 668 = .ok (.iconst 3, 1) := by decide +kernel
theorem dL_law_669 : decode code 669 = .ok (.iadd, 1) := by decide +kernel
theorem dL_law_670 : decode code 670 = .ok (.iaload, 1) := by decide +kernel
theorem dL_law_671 : decode code 671 = .ok (.aload_n 0, 1) := by decide +kernel
theorem dL_law_672 : decode code 672 = .ok (.iload_n 3, 1) := by decide +kernel
theorem dL_law_673 : decode code 673 = .ok (.iconst 4, 1) := by decide +kernel
theorem dL_law_674 : decode code 674 = .ok (.iadd, 1) := by decide +kernel
theorem dL_law_675 : decode code 675 = .ok (.iaload, 1) := by decide +kernel
theorem dL_law_676 : decode code 676 = .ok (.ifCond .eq 7, 3) := by decide +kernel
theorem dL_law_683 : decode code 683 = .ok (.iconst 0, 1) := by decide +kernel
theorem dL_law_684 : decode code 684 = .ok (.invokevirtual 50, 3) := by decide +kernel
theorem kw_6_153 : (Jvm.Cond.methodLink "ParishUnionLaw" (50 : Nat) ({ cls := "ParishUnionModel", name := "wed", desc := "(IIIZ)I" } : Jvm.MethodName)) ∈ gT := gT_of (tb_6 _ (List.mem_of_getElem? (i := 153) rfl)) rfl
theorem kw_6_156 : (Jvm.Cond.code ({ cls := "ParishUnionModel", name := "wed", desc := "(IIIZ)I" } : Jvm.MethodName) prog_14_method_20_code (5 : Nat) (Option.some Jvm.ClassFile.FieldType.int)) ∈ gT := gT_of (tb_6 _ (List.mem_of_getElem? (i := 156) rfl)) rfl
theorem okX12_wed : gQok yX12_wed cX12_wed 5 (Option.some Jvm.ClassFile.FieldType.int) 4 := ⟨kw_6_156, kw_1_13, by decide +kernel, by decide +kernel, by decide +kernel⟩
theorem kw_6_154 : (Jvm.Cond.instanceMethod ({ cls := "ParishUnionModel", name := "wed", desc := "(IIIZ)I" } : Jvm.MethodName)) ∈ gT := gT_of (tb_6 _ (List.mem_of_getElem? (i := 154) rfl)) rfl
theorem kw_6_155 : (Jvm.Cond.selects "ParishUnionModel" ({ cls := "ParishUnionModel", name := "wed", desc := "(IIIZ)I" } : Jvm.MethodName) ({ cls := "ParishUnionModel", name := "wed", desc := "(IIIZ)I" } : Jvm.MethodName)) ∈ gT := gT_of (tb_6 _ (List.mem_of_getElem? (i := 155) rfl)) rfl
theorem dL_law_687 : decode code 687 = .ok (.if_icmp .eq 1305, 3) := by decide +kernel
theorem dL_law_679 : decode code 679 = .ok (.iconst 1, 1) := by decide +kernel
theorem dL_law_680 : decode code 680 = .ok (.goto 4, 3) := by decide +kernel
theorem dL_law_647 : decode code 647 = .ok (.iconst 1, 1) := by decide +kernel
theorem dL_law_648 : decode code 648 = .ok (.goto 4, 3) := by decide +kernel
set_option maxRecDepth 100000 in
set_option maxHeartbeats 4000000 in
theorem law_case_7 {p : Program} {e : Env} {s : State} {m : MethodId} {below : List Frame} {meth : Method} {c : Code} {l : Launch} {D : va_G} {cA : Nat → ClassId} {b : Nat} {xs : Nat → Int32} (X : gCx p s m #[Value.ref b] meth c s.heap.size D cA "ParishUnionLaw" code 4) (hr : meth.sig.returnType = ret) (hb : b < s.heap.size ∧ va_X b 7 xs s s.heap) {M : gM} (hFr : gFr M) : G p l e room_1 s m #[Value.ref b] below meth c s.heap.size D cA 4 (lw_Z below #[Value.ref b] s) 206 87467 M 206 623 [(3, gJ 0), (2, gA s.heap.size 190), (1, gA s.heap.size 0), (0, .ref b)] [] := by
  have rents := gFr_rents hFr
  have way := gFr_way hFr
  have beds := gFr_beds hFr
  have frost0 := gFr_frost0 hFr
  have rows0 := gFr_rows0 hFr
  have rooms0 := gFr_rooms0 hFr
  have tape0 := gFr_tape0 hFr
  have car0 := gFr_car0 hFr
  have hS := gFr_hS hFr
  obtain ⟨v0, e0, r0⟩ : ∃ z : Int, xs 0 = Int32.ofInt z ∧ -2147483648 ≤ z ∧ z ≤ 2147483647 := ⟨_, gi_of _, gi_rg _⟩
  obtain ⟨v1, e1, r1⟩ : ∃ z : Int, xs 1 = Int32.ofInt z ∧ -2147483648 ≤ z ∧ z ≤ 2147483647 := ⟨_, gi_of _, gi_rg _⟩
  obtain ⟨v2, e2, r2⟩ : ∃ z : Int, xs 2 = Int32.ofInt z ∧ -2147483648 ≤ z ∧ z ≤ 2147483647 := ⟨_, gi_of _, gi_rg _⟩
  obtain ⟨v3, e3, r3⟩ : ∃ z : Int, xs 3 = Int32.ofInt z ∧ -2147483648 ≤ z ∧ z ≤ 2147483647 := ⟨_, gi_of _, gi_rg _⟩
  obtain ⟨v4, e4, r4⟩ : ∃ z : Int, xs 4 = Int32.ofInt z ∧ -2147483648 ≤ z ∧ z ≤ 2147483647 := ⟨_, gi_of _, gi_rg _⟩
  obtain ⟨v5, e5, r5⟩ : ∃ z : Int, xs 5 = Int32.ofInt z ∧ -2147483648 ≤ z ∧ z ≤ 2147483647 := ⟨_, gi_of _, gi_rg _⟩
  obtain ⟨v6, e6, r6⟩ : ∃ z : Int, xs 6 = Int32.ofInt z ∧ -2147483648 ≤ z ∧ z ≤ 2147483647 := ⟨_, gi_of _, gi_rg _⟩
  refine g_aload_n (n := 624) X 2 dL_law_623 rfl rfl rfl ?_
  refine g_aload_n (n := 625) X 3 dL_law_624 rfl rfl rfl ?_
  refine g_iload_n (n := 626) X 0 dL_law_625 rfl rfl rfl ?_
  refine g_iconst (n := 627) X dL_law_626 rfl ?_
  refine g_iadd (n := 628) (z := 1) X dL_law_627 rfl rfl ?_
  refine g_scrld (n := 629) (z := v1) X hb (by omega) (by omega) (by omega) dL_law_628 rfl e1 ?_
  refine g_aload_n (n := 630) X 3 dL_law_629 rfl rfl rfl ?_
  refine g_iload_n (n := 631) X 0 dL_law_630 rfl rfl rfl ?_
  refine g_iconst (n := 632) X dL_law_631 rfl ?_
  refine g_iadd (n := 633) (z := 2) X dL_law_632 rfl rfl ?_
  refine g_scrld (n := 634) (z := v2) X hb (by omega) (by omega) (by omega) dL_law_633 rfl e2 ?_
  refine g_aload_n (n := 635) X 3 dL_law_634 rfl rfl rfl ?_
  refine g_iload_n (n := 636) X 0 dL_law_635 rfl rfl rfl ?_
  refine g_iconst (n := 637) X dL_law_636 rfl ?_
  refine g_iadd (n := 638) (z := 3) X dL_law_637 rfl rfl ?_
  refine g_scrld (n := 639) (z := v3) X hb (by omega) (by omega) (by omega) dL_law_638 rfl e3 ?_
  refine g_aload_n (n := 640) X 3 dL_law_639 rfl rfl rfl ?_
  refine g_iload_n (n := 641) X 0 dL_law_640 rfl rfl rfl ?_
  refine g_iconst (n := 642) X dL_law_641 rfl ?_
  refine g_iadd (n := 643) (z := 4) X dL_law_642 rfl rfl ?_
  refine g_scrld (n := 644) (z := v4) X hb (by omega) (by omega) (by omega) dL_law_643 rfl e4 ?_
  refine g_if_eq (n := 647) (tgt := 651) X dL_law_644 (by decide) (by omega) rfl (fun c1 => ?_) (fun c1 => ?_)
  · refine g_iconst (n := 652) X dL_law_651 rfl ?_
    refine g_callVi (n := 655) (As := [gJ v1, gJ v2, gJ v3, gJ 0]) (rest := []) (cs1 := 206) (ss1 := 87467) X (c_X11_wed v1 v2 v3 0 (by omega) (by omega) (by omega) (by omega) (by omega) (gFr_0_0 hFr) (gFr_1_10 hFr)) okX11_wed kw_3_88 ⟨kw_3_89, kw_3_90⟩ ⟨rfl, rfl⟩ ⟨Nat.le_of_ble_eq_true rfl, Nat.le_of_ble_eq_true rfl⟩ rfl (by omega) (by omega) lay_0 rfl rfl (Nat.le_of_ble_eq_true rfl) ⟨Nat.le_of_ble_eq_true rfl, Nat.le_of_ble_eq_true rfl⟩ rfl rfl dL_law_652 rfl (fun z2 M3 P4 => ?_)
    obtain ⟨P4, F5⟩ := P4
    refine g_aload_n (n := 656) X 1 dL_law_655 rfl rfl rfl ?_
    refine g_aload_n (n := 657) X 3 dL_law_656 rfl rfl rfl ?_
    refine g_iload_n (n := 658) X 0 dL_law_657 rfl rfl rfl ?_
    refine g_iconst (n := 659) X dL_law_658 rfl ?_
    refine g_iadd (n := 660) (z := 1) X dL_law_659 rfl rfl ?_
    refine g_scrld (n := 661) (z := v1) X hb (by omega) (by omega) (by omega) dL_law_660 rfl e1 ?_
    refine g_aload_n (n := 662) X 3 dL_law_661 rfl rfl rfl ?_
    refine g_iload_n (n := 663) X 0 dL_law_662 rfl rfl rfl ?_
    refine g_iconst (n := 664) X dL_law_663 rfl ?_
    refine g_iadd (n := 665) (z := 2) X dL_law_664 rfl rfl ?_
    refine g_scrld (n := 666) (z := v2) X hb (by omega) (by omega) (by omega) dL_law_665 rfl e2 ?_
    refine g_aload_n (n := 667) X 3 dL_law_666 rfl rfl rfl ?_
    refine g_iload_n (n := 668) X 0 dL_law_667 rfl rfl rfl ?_
    refine g_iconst (n := 669) X dL_law_668 rfl ?_
    refine g_iadd (n := 670) (z := 3) X dL_law_669 rfl rfl ?_
    refine g_scrld (n := 671) (z := v3) X hb (by omega) (by omega) (by omega) dL_law_670 rfl e3 ?_
    refine g_aload_n (n := 672) X 3 dL_law_671 rfl rfl rfl ?_
    refine g_iload_n (n := 673) X 0 dL_law_672 rfl rfl rfl ?_
    refine g_iconst (n := 674) X dL_law_673 rfl ?_
    refine g_iadd (n := 675) (z := 4) X dL_law_674 rfl rfl ?_
    refine g_scrld (n := 676) (z := v4) X hb (by omega) (by omega) (by omega) dL_law_675 rfl e4 ?_
    refine g_if_eq (n := 679) (tgt := 683) X dL_law_676 (by decide) (by omega) rfl (fun c6 => ?_) (fun c6 => ?_)
    · refine g_iconst (n := 684) X dL_law_683 rfl ?_
      refine g_callVi (n := 687) (As := [gJ v1, gJ v2, gJ v3, gJ 0]) (rest := [gJ z2]) (cs1 := 206) (ss1 := 87467) X (c_X12_wed v1 v2 v3 0 (by omega) (by omega) (by omega) (by omega) (by omega) ((congrFun (F5 190) _).trans (gFr_190_1 hFr)) ((congrFun (F5 191) _).trans ((hS 1 (by omega) (by omega)).trans (by decide)))) okX12_wed kw_6_153 ⟨kw_6_154, kw_6_155⟩ ⟨rfl, rfl⟩ ⟨Nat.le_of_ble_eq_true rfl, Nat.le_of_ble_eq_true rfl⟩ rfl (by omega) (by omega) lay_190 rfl rfl (Nat.le_of_ble_eq_true rfl) ⟨Nat.le_of_ble_eq_true rfl, Nat.le_of_ble_eq_true rfl⟩ rfl rfl dL_law_684 rfl (fun z7 M8 P9 => ?_)
      obtain ⟨P9, F10⟩ := P9
      refine g_icmp_eq (n := 690) (tgt := 1992) X dL_law_687 (by decide) (by omega) (by omega) rfl (fun c11 => ?_) (fun c11 => by exfalso; omega)
      exact law_tail X hr hb (by omega) (by omega)
    · refine g_iconst (n := 680) X dL_law_679 rfl ?_
      refine g_goto (tgt := 684) X dL_law_680 (by decide) ?_
      refine g_callVi (n := 687) (As := [gJ v1, gJ v2, gJ v3, gJ 1]) (rest := [gJ z2]) (cs1 := 206) (ss1 := 87467) X (c_X12_wed v1 v2 v3 1 (by omega) (by omega) (by omega) (by omega) (by omega) ((congrFun (F5 190) _).trans (gFr_190_1 hFr)) ((congrFun (F5 191) _).trans ((hS 1 (by omega) (by omega)).trans (by decide)))) okX12_wed kw_6_153 ⟨kw_6_154, kw_6_155⟩ ⟨rfl, rfl⟩ ⟨Nat.le_of_ble_eq_true rfl, Nat.le_of_ble_eq_true rfl⟩ rfl (by omega) (by omega) lay_190 rfl rfl (Nat.le_of_ble_eq_true rfl) ⟨Nat.le_of_ble_eq_true rfl, Nat.le_of_ble_eq_true rfl⟩ rfl rfl dL_law_684 rfl (fun z12 M13 P14 => ?_)
      obtain ⟨P14, F15⟩ := P14
      refine g_icmp_eq (n := 690) (tgt := 1992) X dL_law_687 (by decide) (by omega) (by omega) rfl (fun c16 => ?_) (fun c16 => by exfalso; omega)
      exact law_tail X hr hb (by omega) (by omega)
  · refine g_iconst (n := 648) X dL_law_647 rfl ?_
    refine g_goto (tgt := 652) X dL_law_648 (by decide) ?_
    refine g_callVi (n := 655) (As := [gJ v1, gJ v2, gJ v3, gJ 1]) (rest := []) (cs1 := 206) (ss1 := 87467) X (c_X11_wed v1 v2 v3 1 (by omega) (by omega) (by omega) (by omega) (by omega) (gFr_0_0 hFr) (gFr_1_10 hFr)) okX11_wed kw_3_88 ⟨kw_3_89, kw_3_90⟩ ⟨rfl, rfl⟩ ⟨Nat.le_of_ble_eq_true rfl, Nat.le_of_ble_eq_true rfl⟩ rfl (by omega) (by omega) lay_0 rfl rfl (Nat.le_of_ble_eq_true rfl) ⟨Nat.le_of_ble_eq_true rfl, Nat.le_of_ble_eq_true rfl⟩ rfl rfl dL_law_652 rfl (fun z17 M18 P19 => ?_)
    obtain ⟨P19, F20⟩ := P19
    refine g_aload_n (n := 656) X 1 dL_law_655 rfl rfl rfl ?_
    refine g_aload_n (n := 657) X 3 dL_law_656 rfl rfl rfl ?_
    refine g_iload_n (n := 658) X 0 dL_law_657 rfl rfl rfl ?_
    refine g_iconst (n := 659) X dL_law_658 rfl ?_
    refine g_iadd (n := 660) (z := 1) X dL_law_659 rfl rfl ?_
    refine g_scrld (n := 661) (z := v1) X hb (by omega) (by omega) (by omega) dL_law_660 rfl e1 ?_
    refine g_aload_n (n := 662) X 3 dL_law_661 rfl rfl rfl ?_
    refine g_iload_n (n := 663) X 0 dL_law_662 rfl rfl rfl ?_
    refine g_iconst (n := 664) X dL_law_663 rfl ?_
    refine g_iadd (n := 665) (z := 2) X dL_law_664 rfl rfl ?_
    refine g_scrld (n := 666) (z := v2) X hb (by omega) (by omega) (by omega) dL_law_665 rfl e2 ?_
    refine g_aload_n (n := 667) X 3 dL_law_666 rfl rfl rfl ?_
    refine g_iload_n (n := 668) X 0 dL_law_667 rfl rfl rfl ?_
    refine g_iconst (n := 669) X dL_law_668 rfl ?_
    refine g_iadd (n := 670) (z := 3) X dL_law_669 rfl rfl ?_
    refine g_scrld (n := 671) (z := v3) X hb (by omega) (by omega) (by omega) dL_law_670 rfl e3 ?_
    refine g_aload_n (n := 672) X 3 dL_law_671 rfl rfl rfl ?_
    refine g_iload_n (n := 673) X 0 dL_law_672 rfl rfl rfl ?_
    refine g_iconst (n := 674) X dL_law_673 rfl ?_
    refine g_iadd (n := 675) (z := 4) X dL_law_674 rfl rfl ?_
    refine g_scrld (n := 676) (z := v4) X hb (by omega) (by omega) (by omega) dL_law_675 rfl e4 ?_
    refine g_if_eq (n := 679) (tgt := 683) X dL_law_676 (by decide) (by omega) rfl (fun c21 => ?_) (fun c21 => ?_)
    · refine g_iconst (n := 684) X dL_law_683 rfl ?_
      refine g_callVi (n := 687) (As := [gJ v1, gJ v2, gJ v3, gJ 0]) (rest := [gJ z17]) (cs1 := 206) (ss1 := 87467) X (c_X12_wed v1 v2 v3 0 (by omega) (by omega) (by omega) (by omega) (by omega) ((congrFun (F20 190) _).trans (gFr_190_1 hFr)) ((congrFun (F20 191) _).trans ((hS 1 (by omega) (by omega)).trans (by decide)))) okX12_wed kw_6_153 ⟨kw_6_154, kw_6_155⟩ ⟨rfl, rfl⟩ ⟨Nat.le_of_ble_eq_true rfl, Nat.le_of_ble_eq_true rfl⟩ rfl (by omega) (by omega) lay_190 rfl rfl (Nat.le_of_ble_eq_true rfl) ⟨Nat.le_of_ble_eq_true rfl, Nat.le_of_ble_eq_true rfl⟩ rfl rfl dL_law_684 rfl (fun z22 M23 P24 => ?_)
      obtain ⟨P24, F25⟩ := P24
      refine g_icmp_eq (n := 690) (tgt := 1992) X dL_law_687 (by decide) (by omega) (by omega) rfl (fun c26 => ?_) (fun c26 => by exfalso; omega)
      exact law_tail X hr hb (by omega) (by omega)
    · refine g_iconst (n := 680) X dL_law_679 rfl ?_
      refine g_goto (tgt := 684) X dL_law_680 (by decide) ?_
      refine g_callVi (n := 687) (As := [gJ v1, gJ v2, gJ v3, gJ 1]) (rest := [gJ z17]) (cs1 := 206) (ss1 := 87467) X (c_X12_wed v1 v2 v3 1 (by omega) (by omega) (by omega) (by omega) (by omega) ((congrFun (F20 190) _).trans (gFr_190_1 hFr)) ((congrFun (F20 191) _).trans ((hS 1 (by omega) (by omega)).trans (by decide)))) okX12_wed kw_6_153 ⟨kw_6_154, kw_6_155⟩ ⟨rfl, rfl⟩ ⟨Nat.le_of_ble_eq_true rfl, Nat.le_of_ble_eq_true rfl⟩ rfl (by omega) (by omega) lay_190 rfl rfl (Nat.le_of_ble_eq_true rfl) ⟨Nat.le_of_ble_eq_true rfl, Nat.le_of_ble_eq_true rfl⟩ rfl rfl dL_law_684 rfl (fun z27 M28 P29 => ?_)
      obtain ⟨P29, F30⟩ := P29
      refine g_icmp_eq (n := 690) (tgt := 1992) X dL_law_687 (by decide) (by omega) (by omega) rfl (fun c31 => ?_) (fun c31 => by exfalso; omega)
      exact law_tail X hr hb (by omega) (by omega)
