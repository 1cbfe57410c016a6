theorem g_ldcw {p : Program} {l : Launch} {e : Env} {R : Room} {s : State} {m : MethodId} {args : Array Value} {below : List Frame} {meth : Method} {c : Code} {n0 : Nat} {D : va_G} {cA : Nat → ClassId} {nL : Nat} {Q : State → Prop} {cells slots : Nat} {M : gM} {sz pc n : Nat} {L : List (Nat × Value)} {st : List Value} {own : String} {cc : ByteArray} (X : gCx p s m args meth c n0 D cA own cc nL) {index : Nat} {v : Int32} {z : Int} (hd : decode cc pc = .ok (.ldc_w index, 3)) (hw : Cond.constant own index v ∈ gT) (hv : Int32.ofInt z = v) (hn : pc + 3 = n) (kk : G p l e R s m args below meth c n0 D cA nL Q cells slots M sz n L (gJ z :: st)) : G p l e R s m args below meth c n0 D cA nL Q cells slots M sz pc L st := by
  subst hn; subst hv
  exact fun H locs ls hl hW hS => lv_ldcw X.1 X.2.1 X.2.2.2.1 (X.2.2.2.2.1 _ hw) hd (kk H locs ls hl hW hS)
theorem gi_z0 {x : Int32} {q : Int} (hx : x = Int32.ofInt q) (r : -2147483648 ≤ q ∧ q ≤ 2147483647) (h0 : x = Int32.ofInt 0) : q = 0 := ((gi_eq ⟨by omega, by omega⟩ r).mp (h0.symm.trans hx)).symm
theorem G.str {p : Program} {l : Launch} {e : Env} {R : Room} {s : State} {m : MethodId} {args : Array Value} {below : List Frame} {meth : Method} {c : Code} {n0 : Nat} {D : va_G} {cA : Nat → ClassId} {nL : Nat} {Q : State → Prop} {cells slots : Nat} {M : gM} {sz pc : Nat} {L : List (Nat × Value)} {st : List Value} {z : Int} {i : Nat} (h : z.toNat = i) (kk : G p l e R s m args below meth c n0 D cA nL Q cells slots M sz pc L (.ref (cA (100 + i)) :: st)) : G p l e R s m args below meth c n0 D cA nL Q cells slots M sz pc L (.ref (cA (100 + z.toNat)) :: st) := by
  subst h; exact kk
theorem dJ_bit_0 : decode cJ_bit 0 = .ok (.iload_n 0, 1) := by decide +kernel
theorem dJ_bit_1 : decode cJ_bit 1 = .ok (.iload_n 0, 1) := by decide +kernel
theorem dJ_bit_2 : decode cJ_bit 2 = .ok (.iconst 1, 1) := by decide +kernel
theorem dJ_bit_3 : decode cJ_bit 3 = .ok (.iushr, 1) := by decide +kernel
theorem dJ_bit_4 : decode cJ_bit 4 = .ok (.ldc_w 265, 3) := by decide +kernel
theorem kw_3_188 : (Jvm.Cond.constant "java/lang/Integer" (265 : Nat) (1431655765 : Int32)) ∈ gT := gT_of (tb_3 _ (List.mem_of_getElem? (i := 188) rfl)) rfl
theorem dJ_bit_7 : decode cJ_bit 7 = .ok (.iand, 1) := by decide +kernel
theorem dJ_bit_8 : decode cJ_bit 8 = .ok (.isub, 1) := by decide +kernel
theorem dJ_bit_9 : decode cJ_bit 9 = .ok (.istore_n 0, 1) := by decide +kernel
theorem dJ_bit_10 : decode cJ_bit 10 = .ok (.iload_n 0, 1) := by decide +kernel
theorem dJ_bit_11 : decode cJ_bit 11 = .ok (.ldc_w 266, 3) := by decide +kernel
theorem kw_3_189 : (Jvm.Cond.constant "java/lang/Integer" (266 : Nat) (858993459 : Int32)) ∈ gT := gT_of (tb_3 _ (List.mem_of_getElem? (i := 189) rfl)) rfl
theorem dJ_bit_14 : decode cJ_bit 14 = .ok (.iand, 1) := by decide +kernel
theorem dJ_bit_15 : decode cJ_bit 15 = .ok (.iload_n 0, 1) := by decide +kernel
theorem dJ_bit_16 : decode cJ_bit 16 = .ok (.iconst 2, 1) := by decide +kernel
theorem dJ_bit_17 : decode cJ_bit 17 = .ok (.iushr, 1) := by decide +kernel
theorem dJ_bit_18 : decode cJ_bit 18 = .ok (.ldc_w 266, 3) := by decide +kernel
theorem dJ_bit_21 : decode cJ_bit 21 = .ok (.iand, 1) := by decide +kernel
theorem dJ_bit_22 : decode cJ_bit 22 = .ok (.iadd, 1) := by decide +kernel
theorem dJ_bit_23 : decode cJ_bit 23 = .ok (.istore_n 0, 1) := by decide +kernel
theorem dJ_bit_24 : decode cJ_bit 24 = .ok (.iload_n 0, 1) := by decide +kernel
theorem dJ_bit_25 : decode cJ_bit 25 = .ok (.iload_n 0, 1) := by decide +kernel
theorem dJ_bit_26 : decode cJ_bit 26 = .ok (.iconst 4, 1) := by decide +kernel
theorem dJ_bit_27 : decode cJ_bit 27 = .ok (.iushr, 1) := by decide +kernel
theorem dJ_bit_28 : decode cJ_bit 28 = .ok (.iadd, 1) := by decide +kernel
theorem dJ_bit_29 : decode cJ_bit 29 = .ok (.ldc_w 267, 3) := by decide +kernel
theorem kw_3_190 : (Jvm.Cond.constant "java/lang/Integer" (267 : Nat) (252645135 : Int32)) ∈ gT := gT_of (tb_3 _ (List.mem_of_getElem? (i := 190) rfl)) rfl
theorem dJ_bit_32 : decode cJ_bit 32 = .ok (.iand, 1) := by decide +kernel
theorem dJ_bit_33 : decode cJ_bit 33 = .ok (.istore_n 0, 1) := by decide +kernel
theorem dJ_bit_34 : decode cJ_bit 34 = .ok (.iload_n 0, 1) := by decide +kernel
theorem dJ_bit_35 : decode cJ_bit 35 = .ok (.iload_n 0, 1) := by decide +kernel
theorem dJ_bit_36 : decode cJ_bit 36 = .ok (.bipush 8, 2) := by decide +kernel
theorem dJ_bit_38 : decode cJ_bit 38 = .ok (.iushr, 1) := by decide +kernel
theorem dJ_bit_39 : decode cJ_bit 39 = .ok (.iadd, 1) := by decide +kernel
theorem dJ_bit_40 : decode cJ_bit 40 = .ok (.istore_n 0, 1) := by decide +kernel
theorem dJ_bit_41 : decode cJ_bit 41 = .ok (.iload_n 0, 1) := by decide +kernel
theorem dJ_bit_42 : decode cJ_bit 42 = .ok (.iload_n 0, 1) := by decide +kernel
theorem dJ_bit_43 : decode cJ_bit 43 = .ok (.bipush 16, 2) := by decide +kernel
theorem dJ_bit_45 : decode cJ_bit 45 = .ok (.iushr, 1) := by decide +kernel
theorem dJ_bit_46 : decode cJ_bit 46 = .ok (.iadd, 1) := by decide +kernel
theorem dJ_bit_47 : decode cJ_bit 47 = .ok (.istore_n 0, 1) := by decide +kernel
theorem dJ_bit_48 : decode cJ_bit 48 = .ok (.iload_n 0, 1) := by decide +kernel
theorem dJ_bit_49 : decode cJ_bit 49 = .ok (.bipush 63, 2) := by decide +kernel
theorem dJ_bit_51 : decode cJ_bit 51 = .ok (.iand, 1) := by decide +kernel
theorem dJ_bit_52 : decode cJ_bit 52 = .ok (.ireturn, 1) := by decide +kernel
set_option maxRecDepth 100000 in
set_option maxHeartbeats 4000000 in
theorem c_J_bit {l : Launch} {n0 : Nat} {D : va_G} {cA : Nat → ClassId} {M : gM} (a : Int) (r_a : -2147483648 ≤ a ∧ a ≤ 2147483647) {sz : Nat} (hsz : 0 ≤ sz) : Met l yJ_bit (gWsOf yJ_bit cJ_bit 1 (Option.some Jvm.ClassFile.FieldType.int)) { frames := 0, cells := 0, slots := 0, locals := 0 } (gPc n0 D cA [gJ a] M sz) (gQi n0 D cA sz (fun z M1 => M = M1 ∧ (a = 0 → z = 0))) 0 0 (fun q => n0 ≤ q) := by
  refine gMet_of [gJ a] (by decide) (Nat.le_of_ble_eq_true rfl) ?_
  intro p e s m args below meth cd X hr hm
  have X : gCx p s m args meth cd n0 D cA "java/lang/Integer" cJ_bit 1 := X
  show G p l e ({ frames := 0, cells := 0, slots := 0, locals := 0 } : Room) s m args below meth cd n0 D cA 1 (MQ below (gQi n0 D cA sz (fun z M1 => M = M1 ∧ (a = 0 → z = 0))) args s 0 0 (fun q => n0 ≤ q)) 0 0 M sz 0 [(0, gJ a)] []
  refine g_iload_n (n := 1) X 0 dJ_bit_0 rfl rfl rfl ?_
  refine g_iload_n (n := 2) X 0 dJ_bit_1 rfl rfl rfl ?_
  refine g_iconst (n := 3) X dJ_bit_2 rfl ?_
  refine g_iushrA (n := 4) X dJ_bit_3 rfl (fun q1 rq1 xq1 => ?_)
  refine g_ldcw (n := 7) (z := 1431655765) X dJ_bit_4 kw_3_188 (by decide +kernel) rfl ?_
  refine g_iandA (n := 8) X dJ_bit_7 rfl (fun q2 rq2 xq2 => ?_)
  refine g_isub (n := 9) (z := a - q2) X dJ_bit_8 rfl rfl ?_
  refine g_istore_n (n := 10) (L' := [(0, gJ (a - q2))]) X dJ_bit_9 rfl (by decide) rfl rfl ?_
  refine g_iload_n (n := 11) X 0 dJ_bit_10 rfl rfl rfl ?_
  refine g_ldcw (n := 14) (z := 858993459) X dJ_bit_11 kw_3_189 (by decide +kernel) rfl ?_
  refine g_iandA (n := 15) X dJ_bit_14 rfl (fun q3 rq3 xq3 => ?_)
  refine g_iload_n (n := 16) X 0 dJ_bit_15 rfl rfl rfl ?_
  refine g_iconst (n := 17) X dJ_bit_16 rfl ?_
  refine g_iushrA (n := 18) X dJ_bit_17 rfl (fun q4 rq4 xq4 => ?_)
  refine g_ldcw (n := 21) (z := 858993459) X dJ_bit_18 kw_3_189 (by decide +kernel) rfl ?_
  refine g_iandA (n := 22) X dJ_bit_21 rfl (fun q5 rq5 xq5 => ?_)
  refine g_iadd (n := 23) (z := q3 + q5) X dJ_bit_22 rfl rfl ?_
  refine g_istore_n (n := 24) (L' := [(0, gJ (q3 + q5))]) X dJ_bit_23 rfl (by decide) rfl rfl ?_
  refine g_iload_n (n := 25) X 0 dJ_bit_24 rfl rfl rfl ?_
  refine g_iload_n (n := 26) X 0 dJ_bit_25 rfl rfl rfl ?_
  refine g_iconst (n := 27) X dJ_bit_26 rfl ?_
  refine g_iushrA (n := 28) X dJ_bit_27 rfl (fun q6 rq6 xq6 => ?_)
  refine g_iadd (n := 29) (z := (q3 + q5) + q6) X dJ_bit_28 rfl rfl ?_
  refine g_ldcw (n := 32) (z := 252645135) X dJ_bit_29 kw_3_190 (by decide +kernel) rfl ?_
  refine g_iandA (n := 33) X dJ_bit_32 rfl (fun q7 rq7 xq7 => ?_)
  refine g_istore_n (n := 34) (L' := [(0, gJ q7)]) X dJ_bit_33 rfl (by decide) rfl rfl ?_
  refine g_iload_n (n := 35) X 0 dJ_bit_34 rfl rfl rfl ?_
  refine g_iload_n (n := 36) X 0 dJ_bit_35 rfl rfl rfl ?_
  refine g_bipush (n := 38) X dJ_bit_36 (by decide +kernel) rfl ?_
  refine g_iushrA (n := 39) X dJ_bit_38 rfl (fun q8 rq8 xq8 => ?_)
  refine g_iadd (n := 40) (z := q7 + q8) X dJ_bit_39 rfl rfl ?_
  refine g_istore_n (n := 41) (L' := [(0, gJ (q7 + q8))]) X dJ_bit_40 rfl (by decide) rfl rfl ?_
  refine g_iload_n (n := 42) X 0 dJ_bit_41 rfl rfl rfl ?_
  refine g_iload_n (n := 43) X 0 dJ_bit_42 rfl rfl rfl ?_
  refine g_bipush (n := 45) X dJ_bit_43 (by decide +kernel) rfl ?_
  refine g_iushrA (n := 46) X dJ_bit_45 rfl (fun q9 rq9 xq9 => ?_)
  refine g_iadd (n := 47) (z := (q7 + q8) + q9) X dJ_bit_46 rfl rfl ?_
  refine g_istore_n (n := 48) (L' := [(0, gJ ((q7 + q8) + q9))]) X dJ_bit_47 rfl (by decide) rfl rfl ?_
  refine g_iload_n (n := 49) X 0 dJ_bit_48 rfl rfl rfl ?_
  refine g_bipush (n := 51) X dJ_bit_49 (by decide +kernel) rfl ?_
  refine g_iandA (n := 52) X dJ_bit_51 rfl (fun q10 rq10 xq10 => ?_)
  exact g_ireturn X hr dJ_bit_52 (by exact ⟨rfl, fun h => by subst h; obtain rfl := gi_z0 xq1 rq1 (by decide +kernel); obtain rfl := gi_z0 xq2 rq2 (by decide +kernel); obtain rfl := gi_z0 xq3 rq3 (by decide +kernel); obtain rfl := gi_z0 xq4 rq4 (by decide +kernel); obtain rfl := gi_z0 xq5 rq5 (by decide +kernel); obtain rfl := gi_z0 xq6 rq6 (by decide +kernel); obtain rfl := gi_z0 xq7 rq7 (by decide +kernel); obtain rfl := gi_z0 xq8 rq8 (by decide +kernel); obtain rfl := gi_z0 xq9 rq9 (by decide +kernel); obtain rfl := gi_z0 xq10 rq10 (by decide +kernel); rfl⟩)
theorem dX7_nameOf_0 : decode cX7_nameOf 0 = .ok (.iload_n 0, 1) := by decide +kernel
theorem dX7_nameOf_52 : decode cX7_nameOf 52 = .ok (.ldc 69, 2) := by decide +kernel
theorem dX7_nameOf_54 : decode cX7_nameOf 54 = .ok (.areturn, 1) := by decide +kernel
theorem dX7_nameOf_1 : decode cX7_nameOf 1 = .ok (.tableswitch 78 0 8 #[51, 54, 57, 60, 63, 66, 69, 72, 75], 51) := by decide +kernel
theorem dX7_nameOf_55 : decode cX7_nameOf 55 = .ok (.ldc 71, 2) := by decide +kernel
theorem dX7_nameOf_57 : decode cX7_nameOf 57 = .ok (.areturn, 1) := by decide +kernel
theorem dX7_nameOf_58 : decode cX7_nameOf 58 = .ok (.ldc 73, 2) := by decide +kernel
theorem dX7_nameOf_60 : decode cX7_nameOf 60 = .ok (.areturn, 1) := by decide +kernel
theorem dX7_nameOf_61 : decode cX7_nameOf 61 = .ok (.ldc 75, 2) := by decide +kernel
theorem dX7_nameOf_63 : decode cX7_nameOf 63 = .ok (.areturn, 1) := by decide +kernel
theorem dX7_nameOf_64 : decode cX7_nameOf 64 = .ok (.ldc 77, 2) := by decide +kernel
theorem dX7_nameOf_66 : decode cX7_nameOf 66 = .ok (.areturn, 1) := by decide +kernel
theorem dX7_nameOf_67 : decode cX7_nameOf 67 = .ok (.ldc 79, 2) := by decide +kernel
theorem dX7_nameOf_69 : decode cX7_nameOf 69 = .ok (.areturn, 1) := by decide +kernel
theorem dX7_nameOf_70 : decode cX7_nameOf 70 = .ok (.ldc 81, 2) := by decide +kernel
theorem dX7_nameOf_72 : decode cX7_nameOf 72 = .ok (.areturn, 1) := by decide +kernel
theorem dX7_nameOf_73 : decode cX7_nameOf 73 = .ok (.ldc 83, 2) := by decide +kernel
theorem dX7_nameOf_75 : decode cX7_nameOf 75 = .ok (.areturn, 1) := by decide +kernel
theorem dX7_nameOf_76 : decode cX7_nameOf 76 = .ok (.ldc 85, 2) := by decide +kernel
theorem dX7_nameOf_78 : decode cX7_nameOf 78 = .ok (.areturn, 1) := by decide +kernel
theorem dX7_nameOf_79 : decode cX7_nameOf 79 = .ok (.ldc 87, 2) := by decide +kernel
theorem dX7_nameOf_81 : decode cX7_nameOf 81 = .ok (.areturn, 1) := by decide +kernel
set_option maxHeartbeats 1000000 in
theorem c_X7_nameOf {l : Launch} {n0 : Nat} {D : va_G} {cA : Nat → ClassId} {M : gM} {sz : Nat} (a : Int) (h0a : 0 ≤ a) (h1a : a ≤ 9) : Met l yX7_nameOf (gWsOf yX7_nameOf cX7_nameOf 1 (Option.some (Jvm.ClassFile.FieldType.object "java/lang/String"))) { frames := 0, cells := 0, slots := 0, locals := 0 } (gPc n0 D cA [gJ a] M sz) (gQs n0 D cA sz (fun z M1 => M = M1 ∧ z = a + 0)) 0 0 (fun q => n0 ≤ q) := by
  refine gMet_of [gJ a] (by decide) (Nat.le_of_ble_eq_true rfl) ?_
  intro p e s m args below meth cd X hr hm
  have X : gCx p s m args meth cd n0 D cA "ParishUnion$Reader" cX7_nameOf 1 := X
  refine g_iload_n (n := 1) X 0 dX7_nameOf_0 rfl rfl rfl ?_
  by_cases h0 : a = 0
  · refine g_tableIn (tgt := 52) X 0 dX7_nameOf_1 (by omega) (by omega) (by omega) (by omega) rfl (by decide) ?_
    refine g_ldcS (n := 54) X 0 rfl dX7_nameOf_52 rfl ?_
    exact g_areturnS X 0 hr dX7_nameOf_54 ⟨rfl, by omega⟩
  by_cases h1 : a = 1
  · refine g_tableIn (tgt := 55) X 1 dX7_nameOf_1 (by omega) (by omega) (by omega) (by omega) rfl (by decide) ?_
    refine g_ldcS (n := 57) X 1 rfl dX7_nameOf_55 rfl ?_
    exact g_areturnS X 1 hr dX7_nameOf_57 ⟨rfl, by omega⟩
  by_cases h2 : a = 2
  · refine g_tableIn (tgt := 58) X 2 dX7_nameOf_1 (by omega) (by omega) (by omega) (by omega) rfl (by decide) ?_
    refine g_ldcS (n := 60) X 2 rfl dX7_nameOf_58 rfl ?_
    exact g_areturnS X 2 hr dX7_nameOf_60 ⟨rfl, by omega⟩
  by_cases h3 : a = 3
  · refine g_tableIn (tgt := 61) X 3 dX7_nameOf_1 (by omega) (by omega) (by omega) (by omega) rfl (by decide) ?_
    refine g_ldcS (n := 63) X 3 rfl dX7_nameOf_61 rfl ?_
    exact g_areturnS X 3 hr dX7_nameOf_63 ⟨rfl, by omega⟩
  by_cases h4 : a = 4
  · refine g_tableIn (tgt := 64) X 4 dX7_nameOf_1 (by omega) (by omega) (by omega) (by omega) rfl (by decide) ?_
    refine g_ldcS (n := 66) X 4 rfl dX7_nameOf_64 rfl ?_
    exact g_areturnS X 4 hr dX7_nameOf_66 ⟨rfl, by omega⟩
  by_cases h5 : a = 5
  · refine g_tableIn (tgt := 67) X 5 dX7_nameOf_1 (by omega) (by omega) (by omega) (by omega) rfl (by decide) ?_
    refine g_ldcS (n := 69) X 5 rfl dX7_nameOf_67 rfl ?_
    exact g_areturnS X 5 hr dX7_nameOf_69 ⟨rfl, by omega⟩
  by_cases h6 : a = 6
  · refine g_tableIn (tgt := 70) X 6 dX7_nameOf_1 (by omega) (by omega) (by omega) (by omega) rfl (by decide) ?_
    refine g_ldcS (n := 72) X 6 rfl dX7_nameOf_70 rfl ?_
    exact g_areturnS X 6 hr dX7_nameOf_72 ⟨rfl, by omega⟩
  by_cases h7 : a = 7
  · refine g_tableIn (tgt := 73) X 7 dX7_nameOf_1 (by omega) (by omega) (by omega) (by omega) rfl (by decide) ?_
    refine g_ldcS (n := 75) X 7 rfl dX7_nameOf_73 rfl ?_
    exact g_areturnS X 7 hr dX7_nameOf_75 ⟨rfl, by omega⟩
  by_cases h8 : a = 8
  · refine g_tableIn (tgt := 76) X 8 dX7_nameOf_1 (by omega) (by omega) (by omega) (by omega) rfl (by decide) ?_
    refine g_ldcS (n := 78) X 8 rfl dX7_nameOf_76 rfl ?_
    exact g_areturnS X 8 hr dX7_nameOf_78 ⟨rfl, by omega⟩
  refine g_tableOut (tgt := 79) X dX7_nameOf_1 (by omega) (by omega) (by decide) ?_
  refine g_ldcS (n := 81) X 9 rfl dX7_nameOf_79 rfl ?_
  exact g_areturnS X 9 hr dX7_nameOf_81 ⟨rfl, by omega⟩
theorem dX12_word_0 : decode cX12_word 0 = .ok (.iload_n 0, 1) := by decide +kernel
theorem dX12_word_52 : decode cX12_word 52 = .ok (.ldc 143, 2) := by decide +kernel
theorem dX12_word_54 : decode cX12_word 54 = .ok (.areturn, 1) := by decide +kernel
theorem dX12_word_1 : decode cX12_word 1 = .ok (.tableswitch 78 0 8 #[51, 54, 57, 60, 63, 66, 69, 72, 75], 51) := by decide +kernel
theorem dX12_word_55 : decode cX12_word 55 = .ok (.ldc 145, 2) := by decide +kernel
theorem dX12_word_57 : decode cX12_word 57 = .ok (.areturn, 1) := by decide +kernel
theorem dX12_word_58 : decode cX12_word 58 = .ok (.ldc 147, 2) := by decide +kernel
theorem dX12_word_60 : decode cX12_word 60 = .ok (.areturn, 1) := by decide +kernel
theorem dX12_word_61 : decode cX12_word 61 = .ok (.ldc 149, 2) := by decide +kernel
theorem dX12_word_63 : decode cX12_word 63 = .ok (.areturn, 1) := by decide +kernel
theorem dX12_word_64 : decode cX12_word 64 = .ok (.ldc 151, 2) := by decide +kernel
theorem dX12_word_66 : decode cX12_word 66 = .ok (.areturn, 1) := by decide +kernel
theorem dX12_word_67 : decode cX12_word 67 = .ok (.ldc 153, 2) := by decide +kernel
theorem dX12_word_69 : decode cX12_word 69 = .ok (.areturn, 1) := by decide +kernel
theorem dX12_word_70 : decode cX12_word 70 = .ok (.ldc 155, 2) := by decide +kernel
theorem dX12_word_72 : decode cX12_word 72 = .ok (.areturn, 1) := by decide +kernel
theorem dX12_word_73 : decode cX12_word 73 = .ok (.ldc 157, 2) := by decide +kernel
theorem dX12_word_75 : decode cX12_word 75 = .ok (.areturn, 1) := by decide +kernel
theorem dX12_word_76 : decode cX12_word 76 = .ok (.ldc 159, 2) := by decide +kernel
theorem dX12_word_78 : decode cX12_word 78 = .ok (.areturn, 1) := by decide +kernel
theorem dX12_word_79 : decode cX12_word 79 = .ok (.ldc 161, 2) := by decide +kernel
theorem dX12_word_81 : decode cX12_word 81 = .ok (.areturn, 1) := by decide +kernel
set_option maxHeartbeats 1000000 in
theorem c_X12_word {l : Launch} {n0 : Nat} {D : va_G} {cA : Nat → ClassId} {M : gM} {sz : Nat} (a : Int) (h0a : 0 ≤ a) (h1a : a ≤ 9) : Met l yX12_word (gWsOf yX12_word cX12_word 1 (Option.some (Jvm.ClassFile.FieldType.object "java/lang/String"))) { frames := 0, cells := 0, slots := 0, locals := 0 } (gPc n0 D cA [gJ a] M sz) (gQs n0 D cA sz (fun z M1 => M = M1 ∧ z = a + 16)) 0 0 (fun q => n0 ≤ q) := by
  refine gMet_of [gJ a] (by decide) (Nat.le_of_ble_eq_true rfl) ?_
  intro p e s m args below meth cd X hr hm
  have X : gCx p s m args meth cd n0 D cA "ParishUnionModel" cX12_word 1 := X
  refine g_iload_n (n := 1) X 0 dX12_word_0 rfl rfl rfl ?_
  by_cases h0 : a = 0
  · refine g_tableIn (tgt := 52) X 0 dX12_word_1 (by omega) (by omega) (by omega) (by omega) rfl (by decide) ?_
    refine g_ldcS (n := 54) X 16 rfl dX12_word_52 rfl ?_
    exact g_areturnS X 16 hr dX12_word_54 ⟨rfl, by omega⟩
  by_cases h1 : a = 1
  · refine g_tableIn (tgt := 55) X 1 dX12_word_1 (by omega) (by omega) (by omega) (by omega) rfl (by decide) ?_
    refine g_ldcS (n := 57) X 17 rfl dX12_word_55 rfl ?_
    exact g_areturnS X 17 hr dX12_word_57 ⟨rfl, by omega⟩
  by_cases h2 : a = 2
  · refine g_tableIn (tgt := 58) X 2 dX12_word_1 (by omega) (by omega) (by omega) (by omega) rfl (by decide) ?_
    refine g_ldcS (n := 60) X 18 rfl dX12_word_58 rfl ?_
    exact g_areturnS X 18 hr dX12_word_60 ⟨rfl, by omega⟩
  by_cases h3 : a = 3
  · refine g_tableIn (tgt := 61) X 3 dX12_word_1 (by omega) (by omega) (by omega) (by omega) rfl (by decide) ?_
    refine g_ldcS (n := 63) X 19 rfl dX12_word_61 rfl ?_
    exact g_areturnS X 19 hr dX12_word_63 ⟨rfl, by omega⟩
  by_cases h4 : a = 4
  · refine g_tableIn (tgt := 64) X 4 dX12_word_1 (by omega) (by omega) (by omega) (by omega) rfl (by decide) ?_
    refine g_ldcS (n := 66) X 20 rfl dX12_word_64 rfl ?_
    exact g_areturnS X 20 hr dX12_word_66 ⟨rfl, by omega⟩
  by_cases h5 : a = 5
  · refine g_tableIn (tgt := 67) X 5 dX12_word_1 (by omega) (by omega) (by omega) (by omega) rfl (by decide) ?_
    refine g_ldcS (n := 69) X 21 rfl dX12_word_67 rfl ?_
    exact g_areturnS X 21 hr dX12_word_69 ⟨rfl, by omega⟩
  by_cases h6 : a = 6
  · refine g_tableIn (tgt := 70) X 6 dX12_word_1 (by omega) (by omega) (by omega) (by omega) rfl (by decide) ?_
    refine g_ldcS (n := 72) X 22 rfl dX12_word_70 rfl ?_
    exact g_areturnS X 22 hr dX12_word_72 ⟨rfl, by omega⟩
  by_cases h7 : a = 7
  · refine g_tableIn (tgt := 73) X 7 dX12_word_1 (by omega) (by omega) (by omega) (by omega) rfl (by decide) ?_
    refine g_ldcS (n := 75) X 23 rfl dX12_word_73 rfl ?_
    exact g_areturnS X 23 hr dX12_word_75 ⟨rfl, by omega⟩
  by_cases h8 : a = 8
  · refine g_tableIn (tgt := 76) X 8 dX12_word_1 (by omega) (by omega) (by omega) (by omega) rfl (by decide) ?_
    refine g_ldcS (n := 78) X 24 rfl dX12_word_76 rfl ?_
    exact g_areturnS X 24 hr dX12_word_78 ⟨rfl, by omega⟩
  refine g_tableOut (tgt := 79) X dX12_word_1 (by omega) (by omega) (by decide) ?_
  refine g_ldcS (n := 81) X 25 rfl dX12_word_79 rfl ?_
  exact g_areturnS X 25 hr dX12_word_81 ⟨rfl, by omega⟩
