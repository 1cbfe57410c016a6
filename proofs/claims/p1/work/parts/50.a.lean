def yJ_bit : MethodName := ⟨"java/lang/Integer", "bitCount", "(I)I"⟩
abbrev cJ_bit : ByteArray := prog_15_method_49_code
def yJ_len : MethodName := ⟨"java/lang/String", "length", "()I"⟩
abbrev cJ_len : ByteArray := prog_17_method_54_code
def yJ_cod : MethodName := ⟨"java/lang/String", "coder", "()B"⟩
abbrev cJ_cod : ByteArray := prog_17_method_152_code
def yJ_lat : MethodName := ⟨"java/lang/String", "isLatin1", "()Z"⟩
abbrev cJ_lat : ByteArray := prog_17_method_154_code
def yJ_chr : MethodName := ⟨"java/lang/String", "charAt", "(I)C"⟩
abbrev cJ_chr : ByteArray := prog_17_method_56_code
def yJ_l1c : MethodName := ⟨"java/lang/StringLatin1", "charAt", "([BI)C"⟩
abbrev cJ_l1c : ByteArray := prog_18_method_2_code
def yJ_chk : MethodName := ⟨"java/lang/String", "checkIndex", "(II)V"⟩
abbrev cJ_chk : ByteArray := prog_17_method_155_code
def yJ_pre : MethodName := ⟨"jdk/internal/util/Preconditions", "checkIndex", "(IILjava/util/function/BiFunction;)I"⟩
abbrev cJ_pre : ByteArray := prog_21_method_11_code
theorem kw_4_3 : (Jvm.Cond.fieldLink "java/lang/String" (38 : Nat) "java/lang/String" "COMPACT_STRINGS" "Z") ∈ gT := gT_of (tb_4 _ (List.mem_of_getElem? (i := 3) rfl)) rfl
theorem kw_8_55 : (Jvm.Cond.fieldLink "java/lang/String" (15 : Nat) "java/lang/String" "coder" "B") ∈ gT := gT_of (tb_8 _ (List.mem_of_getElem? (i := 55) rfl)) rfl
theorem dJ_cod_0 : decode cJ_cod 0 = .ok (.getstatic 38, 3) := by decide +kernel
theorem dJ_cod_3 : decode cJ_cod 3 = .ok (.ifCond .eq 10, 3) := by decide +kernel
theorem dJ_cod_6 : decode cJ_cod 6 = .ok (.aload_n 0, 1) := by decide +kernel
theorem dJ_cod_7 : decode cJ_cod 7 = .ok (.getfield 15, 3) := by decide +kernel
theorem dJ_cod_10 : decode cJ_cod 10 = .ok (.goto 4, 3) := by decide +kernel
theorem dJ_cod_14 : decode cJ_cod 14 = .ok (.ireturn, 1) := by decide +kernel
set_option maxHeartbeats 1000000 in
theorem c_J_cod {l : Launch} {n0 : Nat} {D : va_G} {cA : Nat → ClassId} {M : gM} {sz : Nat} (i : Nat) {q : String × Nat × String × List Int32} (hq : gSO[i]? = some q) : Met l yJ_cod (gWsOf yJ_cod cJ_cod 1 (Option.some Jvm.ClassFile.FieldType.byte)) { frames := 0, cells := 0, slots := 0, locals := 0 } (gPc n0 D cA [.ref (cA (100 + i))] M sz) (gQi n0 D cA sz (fun z M1 => M = M1 ∧ z = 0)) 0 0 (fun q => n0 ≤ q) := by
  refine gMet_of [.ref (cA (100 + i))] (by decide) (Nat.le_of_ble_eq_true rfl) ?_
  intro p e s m args below meth cd X hr hm
  have X : gCx p s m args meth cd n0 D cA "java/lang/String" cJ_cod 1 := X
  refine g_getsCS (n := 3) X kw_4_3 rfl dJ_cod_0 rfl ?_
  refine g_if_eq (n := 6) (tgt := 13) X dJ_cod_3 (by decide) (by omega) rfl (fun h => by exfalso; omega) (fun h => ?_)
  refine g_aload_n (n := 7) X 0 dJ_cod_6 rfl rfl rfl ?_
  refine g_strCod (n := 10) X i hq kw_8_55 rfl dJ_cod_7 rfl ?_
  refine g_goto (tgt := 14) X dJ_cod_10 (by decide) ?_
  exact g_nreturn X (by decide +kernel) hr dJ_cod_14 ⟨rfl, rfl⟩
theorem kw_4_2 : (Jvm.Cond.code ({ cls := "java/lang/String", name := "coder", desc := "()B" } : Jvm.MethodName) prog_17_method_152_code (1 : Nat) (Option.some Jvm.ClassFile.FieldType.byte)) ∈ gT := gT_of (tb_4 _ (List.mem_of_getElem? (i := 2) rfl)) rfl
theorem kw_1_17 : (Jvm.Cond.initialized "java/lang/String") ∈ gT := gT_of (tb_1 _ (List.mem_of_getElem? (i := 17) rfl)) rfl
theorem okJ_cod : gQok yJ_cod cJ_cod 1 (Option.some Jvm.ClassFile.FieldType.byte) 0 := ⟨kw_4_2, kw_1_17, by decide +kernel, by decide +kernel, by decide +kernel⟩
theorem dJ_lat_0 : decode cJ_lat 0 = .ok (.getstatic 38, 3) := by decide +kernel
theorem dJ_lat_3 : decode cJ_lat 3 = .ok (.ifCond .eq 14, 3) := by decide +kernel
theorem dJ_lat_6 : decode cJ_lat 6 = .ok (.aload_n 0, 1) := by decide +kernel
theorem dJ_lat_7 : decode cJ_lat 7 = .ok (.getfield 15, 3) := by decide +kernel
theorem dJ_lat_10 : decode cJ_lat 10 = .ok (.ifCond .ne 7, 3) := by decide +kernel
theorem dJ_lat_13 : decode cJ_lat 13 = .ok (.iconst 1, 1) := by decide +kernel
theorem dJ_lat_14 : decode cJ_lat 14 = .ok (.goto 4, 3) := by decide +kernel
theorem dJ_lat_18 : decode cJ_lat 18 = .ok (.ireturn, 1) := by decide +kernel
set_option maxHeartbeats 1000000 in
theorem c_J_lat {l : Launch} {n0 : Nat} {D : va_G} {cA : Nat → ClassId} {M : gM} {sz : Nat} (i : Nat) {q : String × Nat × String × List Int32} (hq : gSO[i]? = some q) : Met l yJ_lat (gWsOf yJ_lat cJ_lat 1 (Option.some Jvm.ClassFile.FieldType.boolean)) { frames := 0, cells := 0, slots := 0, locals := 0 } (gPc n0 D cA [.ref (cA (100 + i))] M sz) (gQi n0 D cA sz (fun z M1 => M = M1 ∧ z = 1)) 0 0 (fun q => n0 ≤ q) := by
  refine gMet_of [.ref (cA (100 + i))] (by decide) (Nat.le_of_ble_eq_true rfl) ?_
  intro p e s m args below meth cd X hr hm
  have X : gCx p s m args meth cd n0 D cA "java/lang/String" cJ_lat 1 := X
  refine g_getsCS (n := 3) X kw_4_3 rfl dJ_lat_0 rfl ?_
  refine g_if_eq (n := 6) (tgt := 17) X dJ_lat_3 (by decide) (by omega) rfl (fun h => by exfalso; omega) (fun h => ?_)
  refine g_aload_n (n := 7) X 0 dJ_lat_6 rfl rfl rfl ?_
  refine g_strCod (n := 10) X i hq kw_8_55 rfl dJ_lat_7 rfl ?_
  refine g_if_ne (n := 13) (tgt := 17) X dJ_lat_10 (by decide) (by omega) rfl (fun h => by exfalso; omega) (fun h => ?_)
  refine g_iconst (n := 14) X dJ_lat_13 rfl ?_
  refine g_goto (tgt := 18) X dJ_lat_14 (by decide) ?_
  exact g_zreturn X (by omega) hr dJ_lat_18 ⟨rfl, rfl⟩
theorem kw_4_12 : (Jvm.Cond.code ({ cls := "java/lang/String", name := "isLatin1", desc := "()Z" } : Jvm.MethodName) prog_17_method_154_code (1 : Nat) (Option.some Jvm.ClassFile.FieldType.boolean)) ∈ gT := gT_of (tb_4 _ (List.mem_of_getElem? (i := 12) rfl)) rfl
theorem okJ_lat : gQok yJ_lat cJ_lat 1 (Option.some Jvm.ClassFile.FieldType.boolean) 0 := ⟨kw_4_12, kw_1_17, by decide +kernel, by decide +kernel, by decide +kernel⟩
theorem g_getsSG {p : Program} {l : Launch} {e : Env} {R : Room} {s : State} {m : MethodId} {args : Array Value} {below : List Frame} {meth : Method} {c : Code} {n0 : Nat} {D : va_G} {cA : Nat → ClassId} {nL : Nat} {Q : State → Prop} {cells slots : Nat} {M : gM} {sz pc n : Nat} {L : List (Nat × Value)} {st : List Value} {own : String} {cc : ByteArray} (X : gCx p s m args meth c n0 D cA own cc nL) {index : Nat} {ref : String} (hw : Cond.fieldLink own index ref "SIOOBE_FORMATTER" "Ljava/util/function/BiFunction;" ∈ gT) (href : ref = "jdk/internal/util/Preconditions") (hd : decode cc pc = .ok (.getstatic index, 3)) (hn : pc + 3 = n) (kk : ∀ v : Value, (v = .null ∨ ∃ a : Nat, v = .ref a) → G p l e R s m args below meth c n0 D cA nL Q cells slots M sz n L (v :: st)) : G p l e R s m args below meth c n0 D cA nL Q cells slots M sz pc L st := by
  subst hn; subst href
  intro H locs ls hl hW hS
  obtain ⟨v, hv, hZ⟩ := X.2.2.2.2.2.2.2.2.2.2
  exact va_gets X.1 X.2.1 hZ hS X.2.2.2.1 (X.2.2.2.2.1 _ hw) (fun x hx => hx) hd (kk v (hv.elim .inl (fun h => .inr h)) H locs ls hl hW hS)
theorem dJ_pre_0 : decode cJ_pre 0 = .ok (.iload_n 0, 1) := by decide +kernel
theorem dJ_pre_1 : decode cJ_pre 1 = .ok (.ifCond .lt 8, 3) := by decide +kernel
theorem dJ_pre_4 : decode cJ_pre 4 = .ok (.iload_n 0, 1) := by decide +kernel
theorem dJ_pre_5 : decode cJ_pre 5 = .ok (.iload_n 1, 1) := by decide +kernel
theorem dJ_pre_6 : decode cJ_pre 6 = .ok (.if_icmp .lt 10, 3) := by decide +kernel
theorem dJ_pre_16 : decode cJ_pre 16 = .ok (.iload_n 0, 1) := by decide +kernel
theorem dJ_pre_17 : decode cJ_pre 17 = .ok (.ireturn, 1) := by decide +kernel
set_option maxHeartbeats 1000000 in
theorem c_J_pre_r {l : Launch} {n0 : Nat} {D : va_G} {cA : Nat → ClassId} {M : gM} {sz : Nat} (a b : Int) (r : Nat) (h0 : 0 ≤ a) (h1 : a < b) (h2 : b ≤ 2147483647) : Met l yJ_pre (gWsOf yJ_pre cJ_pre 3 (Option.some Jvm.ClassFile.FieldType.int)) { frames := 0, cells := 0, slots := 0, locals := 0 } (gPc n0 D cA [gJ a, gJ b, .ref r] M sz) (gQi n0 D cA sz (fun z M1 => M = M1)) 0 0 (fun q => n0 ≤ q) := by
  refine gMet_of [gJ a, gJ b, .ref r] (by decide) (Nat.le_of_ble_eq_true rfl) ?_
  intro p e s m args below meth cd X hr hm
  have X : gCx p s m args meth cd n0 D cA "jdk/internal/util/Preconditions" cJ_pre 3 := X
  refine g_iload_n (n := 1) X 0 dJ_pre_0 rfl rfl rfl ?_
  refine g_if_lt (n := 4) (tgt := 9) X dJ_pre_1 (by decide) (by omega) rfl (fun h => by exfalso; omega) (fun h => ?_)
  refine g_iload_n (n := 5) X 0 dJ_pre_4 rfl rfl rfl ?_
  refine g_iload_n (n := 6) X 1 dJ_pre_5 rfl rfl rfl ?_
  refine g_icmp_lt (n := 9) (tgt := 16) X dJ_pre_6 (by decide) (by omega) (by omega) rfl (fun h => ?_) (fun h => by exfalso; omega)
  refine g_iload_n (n := 17) X 0 dJ_pre_16 rfl rfl rfl ?_
  exact g_ireturn X hr dJ_pre_17 rfl
set_option maxHeartbeats 1000000 in
theorem c_J_pre_n {l : Launch} {n0 : Nat} {D : va_G} {cA : Nat → ClassId} {M : gM} {sz : Nat} (a b : Int) (h0 : 0 ≤ a) (h1 : a < b) (h2 : b ≤ 2147483647) : Met l yJ_pre (gWsOf yJ_pre cJ_pre 3 (Option.some Jvm.ClassFile.FieldType.int)) { frames := 0, cells := 0, slots := 0, locals := 0 } (gPc n0 D cA [gJ a, gJ b, .null] M sz) (gQi n0 D cA sz (fun z M1 => M = M1)) 0 0 (fun q => n0 ≤ q) := by
  refine gMet_of [gJ a, gJ b, .null] (by decide) (Nat.le_of_ble_eq_true rfl) ?_
  intro p e s m args below meth cd X hr hm
  have X : gCx p s m args meth cd n0 D cA "jdk/internal/util/Preconditions" cJ_pre 3 := X
  refine g_iload_n (n := 1) X 0 dJ_pre_0 rfl rfl rfl ?_
  refine g_if_lt (n := 4) (tgt := 9) X dJ_pre_1 (by decide) (by omega) rfl (fun h => by exfalso; omega) (fun h => ?_)
  refine g_iload_n (n := 5) X 0 dJ_pre_4 rfl rfl rfl ?_
  refine g_iload_n (n := 6) X 1 dJ_pre_5 rfl rfl rfl ?_
  refine g_icmp_lt (n := 9) (tgt := 16) X dJ_pre_6 (by decide) (by omega) (by omega) rfl (fun h => ?_) (fun h => by exfalso; omega)
  refine g_iload_n (n := 17) X 0 dJ_pre_16 rfl rfl rfl ?_
  exact g_ireturn X hr dJ_pre_17 rfl
theorem kw_4_23 : (Jvm.Cond.code ({ cls := "jdk/internal/util/Preconditions", name := "checkIndex", desc := "(IILjava/util/function/BiFunction;)I" } : Jvm.MethodName) prog_21_method_11_code (3 : Nat) (Option.some Jvm.ClassFile.FieldType.int)) ∈ gT := gT_of (tb_4 _ (List.mem_of_getElem? (i := 23) rfl)) rfl
theorem kw_1_19 : (Jvm.Cond.initialized "jdk/internal/util/Preconditions") ∈ gT := gT_of (tb_1 _ (List.mem_of_getElem? (i := 19) rfl)) rfl
theorem okJ_pre : gQok yJ_pre cJ_pre 3 (Option.some Jvm.ClassFile.FieldType.int) 3 := ⟨kw_4_23, kw_1_19, by decide +kernel, by decide +kernel, by decide +kernel⟩
theorem kw_4_19 : (Jvm.Cond.fieldLink "java/lang/String" (1053 : Nat) "jdk/internal/util/Preconditions" "SIOOBE_FORMATTER" "Ljava/util/function/BiFunction;") ∈ gT := gT_of (tb_4 _ (List.mem_of_getElem? (i := 19) rfl)) rfl
theorem kw_4_21 : (Jvm.Cond.methodLink "java/lang/String" (1059 : Nat) ({ cls := "jdk/internal/util/Preconditions", name := "checkIndex", desc := "(IILjava/util/function/BiFunction;)I" } : Jvm.MethodName)) ∈ gT := gT_of (tb_4 _ (List.mem_of_getElem? (i := 21) rfl)) rfl
theorem kw_4_22 : (Jvm.Cond.static ({ cls := "jdk/internal/util/Preconditions", name := "checkIndex", desc := "(IILjava/util/function/BiFunction;)I" } : Jvm.MethodName)) ∈ gT := gT_of (tb_4 _ (List.mem_of_getElem? (i := 22) rfl)) rfl
theorem dJ_chk_8 : decode cJ_chk 8 = .ok (.pop, 1) := by decide +kernel
theorem dJ_chk_9 : decode cJ_chk 9 = .ok (.return_, 1) := by decide +kernel
theorem dJ_chk_0 : decode cJ_chk 0 = .ok (.iload_n 0, 1) := by decide +kernel
theorem dJ_chk_1 : decode cJ_chk 1 = .ok (.iload_n 1, 1) := by decide +kernel
theorem dJ_chk_2 : decode cJ_chk 2 = .ok (.getstatic 1053, 3) := by decide +kernel
theorem dJ_chk_5 : decode cJ_chk 5 = .ok (.invokestatic 1059, 3) := by decide +kernel
set_option maxHeartbeats 1000000 in
theorem c_J_chk {l : Launch} {n0 : Nat} {D : va_G} {cA : Nat → ClassId} {M : gM} {sz : Nat} (a b : Int) (h0 : 0 ≤ a) (h1 : a < b) (h2 : b ≤ 2147483647) : Met l yJ_chk (gWsOf yJ_chk cJ_chk 2 (Option.none : Option Jvm.ClassFile.FieldType)) { frames := 1, cells := 0, slots := 0, locals := 22 } (gPc n0 D cA [gJ a, gJ b] M sz) (gQv n0 D cA sz (fun M1 => M = M1)) 0 0 (fun q => n0 ≤ q) := by
  refine gMet_of [gJ a, gJ b] (by decide) (Nat.le_of_ble_eq_true rfl) ?_
  intro p e s m args below meth cd X hr hm
  have X : gCx p s m args meth cd n0 D cA "java/lang/String" cJ_chk 2 := X
  refine g_iload_n (n := 1) X 0 dJ_chk_0 rfl rfl rfl ?_
  refine g_iload_n (n := 2) X 1 dJ_chk_1 rfl rfl rfl ?_
  refine g_getsSG (n := 5) X kw_4_19 rfl dJ_chk_2 rfl (fun v hv => ?_)
  rcases hv with rfl | ⟨r, rfl⟩
  · refine g_callSi (n := 8) (As := [gJ a, gJ b, .null]) (rest := []) (cs1 := 0) (ss1 := 0) X (c_J_pre_n a b h0 h1 h2) okJ_pre kw_4_21 kw_4_22 ⟨rfl, rfl⟩ ⟨Nat.le_of_ble_eq_true rfl, Nat.le_of_ble_eq_true rfl⟩ rfl rfl (Nat.le_of_ble_eq_true rfl) ⟨Nat.le_of_ble_eq_true rfl, Nat.le_of_ble_eq_true rfl⟩ rfl rfl dJ_chk_5 rfl (fun z M1 hP => ?_)
    obtain rfl := hP
    refine g_pop (n := 9) X dJ_chk_8 rfl rfl ?_
    exact g_return X hr dJ_chk_9 rfl
  · refine g_callSi (n := 8) (As := [gJ a, gJ b, .ref r]) (rest := []) (cs1 := 0) (ss1 := 0) X (c_J_pre_r a b r h0 h1 h2) okJ_pre kw_4_21 kw_4_22 ⟨rfl, rfl⟩ ⟨Nat.le_of_ble_eq_true rfl, Nat.le_of_ble_eq_true rfl⟩ rfl rfl (Nat.le_of_ble_eq_true rfl) ⟨Nat.le_of_ble_eq_true rfl, Nat.le_of_ble_eq_true rfl⟩ rfl rfl dJ_chk_5 rfl (fun z M1 hP => ?_)
    obtain rfl := hP
    refine g_pop (n := 9) X dJ_chk_8 rfl rfl ?_
    exact g_return X hr dJ_chk_9 rfl
theorem kw_4_18 : (Jvm.Cond.code ({ cls := "java/lang/String", name := "checkIndex", desc := "(II)V" } : Jvm.MethodName) prog_17_method_155_code (2 : Nat) (Option.none : Option Jvm.ClassFile.FieldType)) ∈ gT := gT_of (tb_4 _ (List.mem_of_getElem? (i := 18) rfl)) rfl
theorem okJ_chk : gQok yJ_chk cJ_chk 2 (Option.none : Option Jvm.ClassFile.FieldType) 2 := ⟨kw_4_18, kw_1_17, by decide +kernel, by decide +kernel, by decide +kernel⟩
theorem kw_8_54 : (Jvm.Cond.fieldLink "java/lang/String" (9 : Nat) "java/lang/String" "value" "[B") ∈ gT := gT_of (tb_8 _ (List.mem_of_getElem? (i := 54) rfl)) rfl
theorem kw_3_239 : (Jvm.Cond.methodLink "java/lang/String" (335 : Nat) ({ cls := "java/lang/String", name := "coder", desc := "()B" } : Jvm.MethodName)) ∈ gT := gT_of (tb_3 _ (List.mem_of_getElem? (i := 239) rfl)) rfl
theorem kw_4_0 : (Jvm.Cond.instanceMethod ({ cls := "java/lang/String", name := "coder", desc := "()B" } : Jvm.MethodName)) ∈ gT := gT_of (tb_4 _ (List.mem_of_getElem? (i := 0) rfl)) rfl
theorem kw_4_1 : (Jvm.Cond.selects "java/lang/String" ({ cls := "java/lang/String", name := "coder", desc := "()B" } : Jvm.MethodName) ({ cls := "java/lang/String", name := "coder", desc := "()B" } : Jvm.MethodName)) ∈ gT := gT_of (tb_4 _ (List.mem_of_getElem? (i := 1) rfl)) rfl
theorem dJ_len_0 : decode cJ_len 0 = .ok (.aload_n 0, 1) := by decide +kernel
theorem dJ_len_1 : decode cJ_len 1 = .ok (.getfield 9, 3) := by decide +kernel
theorem dJ_len_4 : decode cJ_len 4 = .ok (.arraylength, 1) := by decide +kernel
theorem dJ_len_5 : decode cJ_len 5 = .ok (.aload_n 0, 1) := by decide +kernel
theorem dJ_len_6 : decode cJ_len 6 = .ok (.invokevirtual 335, 3) := by decide +kernel
theorem dJ_len_9 : decode cJ_len 9 = .ok (.ishr, 1) := by decide +kernel
theorem dJ_len_10 : decode cJ_len 10 = .ok (.ireturn, 1) := by decide +kernel
set_option maxHeartbeats 1000000 in
theorem c_J_len_0 {l : Launch} {n0 : Nat} {D : va_G} {cA : Nat → ClassId} {M : gM} {sz : Nat}  : Met l yJ_len (gWsOf yJ_len cJ_len 1 (Option.some Jvm.ClassFile.FieldType.int)) { frames := 1, cells := 0, slots := 0, locals := 20 } (gPc n0 D cA [.ref (cA (100 + 0))] M sz) (gQi n0 D cA sz (fun z M1 => M = M1 ∧ z = 5)) 0 0 (fun q => n0 ≤ q) := by
  refine gMet_of [.ref (cA (100 + 0))] (by decide) (Nat.le_of_ble_eq_true rfl) ?_
  intro p e s m args below meth cd X hr hm
  have X : gCx p s m args meth cd n0 D cA "java/lang/String" cJ_len 1 := X
  refine g_aload_n (n := 1) X 0 dJ_len_0 rfl rfl rfl ?_
  refine g_strVal (n := 4) X 0 rfl kw_8_54 rfl dJ_len_1 rfl ?_
  refine g_strLen (n := 5) (z := 5) X 0 rfl (by decide +kernel) dJ_len_4 rfl ?_
  refine g_aload_n (n := 6) X 0 dJ_len_5 rfl rfl rfl ?_
  refine g_callSt (n := 9) (As := []) (rest := [gJ 5]) (cs1 := 0) (ss1 := 0) X 0 rfl (c_J_cod 0 rfl) okJ_cod kw_3_239 ⟨kw_4_0, kw_4_1⟩ ⟨rfl, rfl⟩ ⟨Nat.le_of_ble_eq_true rfl, Nat.le_of_ble_eq_true rfl⟩ rfl rfl (Nat.le_of_ble_eq_true rfl) ⟨Nat.le_of_ble_eq_true rfl, Nat.le_of_ble_eq_true rfl⟩ rfl rfl dJ_len_6 rfl (fun z M1 hP => ?_)
  obtain ⟨rfl, rfl⟩ := hP
  refine g_ishrE (n := 10) (z := 5) X dJ_len_9 (gi_shr0 _) rfl ?_
  exact g_ireturn X hr dJ_len_10 ⟨rfl, rfl⟩
set_option maxHeartbeats 1000000 in
theorem c_J_len_1 {l : Launch} {n0 : Nat} {D : va_G} {cA : Nat → ClassId} {M : gM} {sz : Nat}  : Met l yJ_len (gWsOf yJ_len cJ_len 1 (Option.some Jvm.ClassFile.FieldType.int)) { frames := 1, cells := 0, slots := 0, locals := 20 } (gPc n0 D cA [.ref (cA (100 + 1))] M sz) (gQi n0 D cA sz (fun z M1 => M = M1 ∧ z = 5)) 0 0 (fun q => n0 ≤ q) := by
  refine gMet_of [.ref (cA (100 + 1))] (by decide) (Nat.le_of_ble_eq_true rfl) ?_
  intro p e s m args below meth cd X hr hm
  have X : gCx p s m args meth cd n0 D cA "java/lang/String" cJ_len 1 := X
  refine g_aload_n (n := 1) X 0 dJ_len_0 rfl rfl rfl ?_
  refine g_strVal (n := 4) X 1 rfl kw_8_54 rfl dJ_len_1 rfl ?_
  refine g_strLen (n := 5) (z := 5) X 1 rfl (by decide +kernel) dJ_len_4 rfl ?_
  refine g_aload_n (n := 6) X 0 dJ_len_5 rfl rfl rfl ?_
  refine g_callSt (n := 9) (As := []) (rest := [gJ 5]) (cs1 := 0) (ss1 := 0) X 1 rfl (c_J_cod 1 rfl) okJ_cod kw_3_239 ⟨kw_4_0, kw_4_1⟩ ⟨rfl, rfl⟩ ⟨Nat.le_of_ble_eq_true rfl, Nat.le_of_ble_eq_true rfl⟩ rfl rfl (Nat.le_of_ble_eq_true rfl) ⟨Nat.le_of_ble_eq_true rfl, Nat.le_of_ble_eq_true rfl⟩ rfl rfl dJ_len_6 rfl (fun z M1 hP => ?_)
  obtain ⟨rfl, rfl⟩ := hP
  refine g_ishrE (n := 10) (z := 5) X dJ_len_9 (gi_shr0 _) rfl ?_
  exact g_ireturn X hr dJ_len_10 ⟨rfl, rfl⟩
set_option maxHeartbeats 1000000 in
theorem c_J_len_2 {l : Launch} {n0 : Nat} {D : va_G} {cA : Nat → ClassId} {M : gM} {sz : Nat}  : Met l yJ_len (gWsOf yJ_len cJ_len 1 (Option.some Jvm.ClassFile.FieldType.int)) { frames := 1, cells := 0, slots := 0, locals := 20 } (gPc n0 D cA [.ref (cA (100 + 2))] M sz) (gQi n0 D cA sz (fun z M1 => M = M1 ∧ z = 4)) 0 0 (fun q => n0 ≤ q) := by
  refine gMet_of [.ref (cA (100 + 2))] (by decide) (Nat.le_of_ble_eq_true rfl) ?_
  intro p e s m args below meth cd X hr hm
  have X : gCx p s m args meth cd n0 D cA "java/lang/String" cJ_len 1 := X
  refine g_aload_n (n := 1) X 0 dJ_len_0 rfl rfl rfl ?_
  refine g_strVal (n := 4) X 2 rfl kw_8_54 rfl dJ_len_1 rfl ?_
  refine g_strLen (n := 5) (z := 4) X 2 rfl (by decide +kernel) dJ_len_4 rfl ?_
  refine g_aload_n (n := 6) X 0 dJ_len_5 rfl rfl rfl ?_
  refine g_callSt (n := 9) (As := []) (rest := [gJ 4]) (cs1 := 0) (ss1 := 0) X 2 rfl (c_J_cod 2 rfl) okJ_cod kw_3_239 ⟨kw_4_0, kw_4_1⟩ ⟨rfl, rfl⟩ ⟨Nat.le_of_ble_eq_true rfl, Nat.le_of_ble_eq_true rfl⟩ rfl rfl (Nat.le_of_ble_eq_true rfl) ⟨Nat.le_of_ble_eq_true rfl, Nat.le_of_ble_eq_true rfl⟩ rfl rfl dJ_len_6 rfl (fun z M1 hP => ?_)
  obtain ⟨rfl, rfl⟩ := hP
  refine g_ishrE (n := 10) (z := 4) X dJ_len_9 (gi_shr0 _) rfl ?_
  exact g_ireturn X hr dJ_len_10 ⟨rfl, rfl⟩
set_option maxHeartbeats 1000000 in
theorem c_J_len_3 {l : Launch} {n0 : Nat} {D : va_G} {cA : Nat → ClassId} {M : gM} {sz : Nat}  : Met l yJ_len (gWsOf yJ_len cJ_len 1 (Option.some Jvm.ClassFile.FieldType.int)) { frames := 1, cells := 0, slots := 0, locals := 20 } (gPc n0 D cA [.ref (cA (100 + 3))] M sz) (gQi n0 D cA sz (fun z M1 => M = M1 ∧ z = 4)) 0 0 (fun q => n0 ≤ q) := by
  refine gMet_of [.ref (cA (100 + 3))] (by decide) (Nat.le_of_ble_eq_true rfl) ?_
  intro p e s m args below meth cd X hr hm
  have X : gCx p s m args meth cd n0 D cA "java/lang/String" cJ_len 1 := X
  refine g_aload_n (n := 1) X 0 dJ_len_0 rfl rfl rfl ?_
  refine g_strVal (n := 4) X 3 rfl kw_8_54 rfl dJ_len_1 rfl ?_
  refine g_strLen (n := 5) (z := 4) X 3 rfl (by decide +kernel) dJ_len_4 rfl ?_
  refine g_aload_n (n := 6) X 0 dJ_len_5 rfl rfl rfl ?_
  refine g_callSt (n := 9) (As := []) (rest := [gJ 4]) (cs1 := 0) (ss1 := 0) X 3 rfl (c_J_cod 3 rfl) okJ_cod kw_3_239 ⟨kw_4_0, kw_4_1⟩ ⟨rfl, rfl⟩ ⟨Nat.le_of_ble_eq_true rfl, Nat.le_of_ble_eq_true rfl⟩ rfl rfl (Nat.le_of_ble_eq_true rfl) ⟨Nat.le_of_ble_eq_true rfl, Nat.le_of_ble_eq_true rfl⟩ rfl rfl dJ_len_6 rfl (fun z M1 hP => ?_)
  obtain ⟨rfl, rfl⟩ := hP
  refine g_ishrE (n := 10) (z := 4) X dJ_len_9 (gi_shr0 _) rfl ?_
  exact g_ireturn X hr dJ_len_10 ⟨rfl, rfl⟩
set_option maxHeartbeats 1000000 in
theorem c_J_len_4 {l : Launch} {n0 : Nat} {D : va_G} {cA : Nat → ClassId} {M : gM} {sz : Nat}  : Met l yJ_len (gWsOf yJ_len cJ_len 1 (Option.some Jvm.ClassFile.FieldType.int)) { frames := 1, cells := 0, slots := 0, locals := 20 } (gPc n0 D cA [.ref (cA (100 + 4))] M sz) (gQi n0 D cA sz (fun z M1 => M = M1 ∧ z = 4)) 0 0 (fun q => n0 ≤ q) := by
  refine gMet_of [.ref (cA (100 + 4))] (by decide) (Nat.le_of_ble_eq_true rfl) ?_
  intro p e s m args below meth cd X hr hm
  have X : gCx p s m args meth cd n0 D cA "java/lang/String" cJ_len 1 := X
  refine g_aload_n (n := 1) X 0 dJ_len_0 rfl rfl rfl ?_
  refine g_strVal (n := 4) X 4 rfl kw_8_54 rfl dJ_len_1 rfl ?_
  refine g_strLen (n := 5) (z := 4) X 4 rfl (by decide +kernel) dJ_len_4 rfl ?_
  refine g_aload_n (n := 6) X 0 dJ_len_5 rfl rfl rfl ?_
  refine g_callSt (n := 9) (As := []) (rest := [gJ 4]) (cs1 := 0) (ss1 := 0) X 4 rfl (c_J_cod 4 rfl) okJ_cod kw_3_239 ⟨kw_4_0, kw_4_1⟩ ⟨rfl, rfl⟩ ⟨Nat.le_of_ble_eq_true rfl, Nat.le_of_ble_eq_true rfl⟩ rfl rfl (Nat.le_of_ble_eq_true rfl) ⟨Nat.le_of_ble_eq_true rfl, Nat.le_of_ble_eq_true rfl⟩ rfl rfl dJ_len_6 rfl (fun z M1 hP => ?_)
  obtain ⟨rfl, rfl⟩ := hP
  refine g_ishrE (n := 10) (z := 4) X dJ_len_9 (gi_shr0 _) rfl ?_
  exact g_ireturn X hr dJ_len_10 ⟨rfl, rfl⟩
set_option maxHeartbeats 1000000 in
theorem c_J_len_5 {l : Launch} {n0 : Nat} {D : va_G} {cA : Nat → ClassId} {M : gM} {sz : Nat}  : Met l yJ_len (gWsOf yJ_len cJ_len 1 (Option.some Jvm.ClassFile.FieldType.int)) { frames := 1, cells := 0, slots := 0, locals := 20 } (gPc n0 D cA [.ref (cA (100 + 5))] M sz) (gQi n0 D cA sz (fun z M1 => M = M1 ∧ z = 3)) 0 0 (fun q => n0 ≤ q) := by
  refine gMet_of [.ref (cA (100 + 5))] (by decide) (Nat.le_of_ble_eq_true rfl) ?_
  intro p e s m args below meth cd X hr hm
  have X : gCx p s m args meth cd n0 D cA "java/lang/String" cJ_len 1 := X
  refine g_aload_n (n := 1) X 0 dJ_len_0 rfl rfl rfl ?_
  refine g_strVal (n := 4) X 5 rfl kw_8_54 rfl dJ_len_1 rfl ?_
  refine g_strLen (n := 5) (z := 3) X 5 rfl (by decide +kernel) dJ_len_4 rfl ?_
  refine g_aload_n (n := 6) X 0 dJ_len_5 rfl rfl rfl ?_
  refine g_callSt (n := 9) (As := []) (rest := [gJ 3]) (cs1 := 0) (ss1 := 0) X 5 rfl (c_J_cod 5 rfl) okJ_cod kw_3_239 ⟨kw_4_0, kw_4_1⟩ ⟨rfl, rfl⟩ ⟨Nat.le_of_ble_eq_true rfl, Nat.le_of_ble_eq_true rfl⟩ rfl rfl (Nat.le_of_ble_eq_true rfl) ⟨Nat.le_of_ble_eq_true rfl, Nat.le_of_ble_eq_true rfl⟩ rfl rfl dJ_len_6 rfl (fun z M1 hP => ?_)
  obtain ⟨rfl, rfl⟩ := hP
  refine g_ishrE (n := 10) (z := 3) X dJ_len_9 (gi_shr0 _) rfl ?_
  exact g_ireturn X hr dJ_len_10 ⟨rfl, rfl⟩
set_option maxHeartbeats 1000000 in
theorem c_J_len_6 {l : Launch} {n0 : Nat} {D : va_G} {cA : Nat → ClassId} {M : gM} {sz : Nat}  : Met l yJ_len (gWsOf yJ_len cJ_len 1 (Option.some Jvm.ClassFile.FieldType.int)) { frames := 1, cells := 0, slots := 0, locals := 20 } (gPc n0 D cA [.ref (cA (100 + 6))] M sz) (gQi n0 D cA sz (fun z M1 => M = M1 ∧ z = 3)) 0 0 (fun q => n0 ≤ q) := by
  refine gMet_of [.ref (cA (100 + 6))] (by decide) (Nat.le_of_ble_eq_true rfl) ?_
  intro p e s m args below meth cd X hr hm
  have X : gCx p s m args meth cd n0 D cA "java/lang/String" cJ_len 1 := X
  refine g_aload_n (n := 1) X 0 dJ_len_0 rfl rfl rfl ?_
  refine g_strVal (n := 4) X 6 rfl kw_8_54 rfl dJ_len_1 rfl ?_
  refine g_strLen (n := 5) (z := 3) X 6 rfl (by decide +kernel) dJ_len_4 rfl ?_
  refine g_aload_n (n := 6) X 0 dJ_len_5 rfl rfl rfl ?_
  refine g_callSt (n := 9) (As := []) (rest := [gJ 3]) (cs1 := 0) (ss1 := 0) X 6 rfl (c_J_cod 6 rfl) okJ_cod kw_3_239 ⟨kw_4_0, kw_4_1⟩ ⟨rfl, rfl⟩ ⟨Nat.le_of_ble_eq_true rfl, Nat.le_of_ble_eq_true rfl⟩ rfl rfl (Nat.le_of_ble_eq_true rfl) ⟨Nat.le_of_ble_eq_true rfl, Nat.le_of_ble_eq_true rfl⟩ rfl rfl dJ_len_6 rfl (fun z M1 hP => ?_)
  obtain ⟨rfl, rfl⟩ := hP
  refine g_ishrE (n := 10) (z := 3) X dJ_len_9 (gi_shr0 _) rfl ?_
  exact g_ireturn X hr dJ_len_10 ⟨rfl, rfl⟩
set_option maxHeartbeats 1000000 in
theorem c_J_len_7 {l : Launch} {n0 : Nat} {D : va_G} {cA : Nat → ClassId} {M : gM} {sz : Nat}  : Met l yJ_len (gWsOf yJ_len cJ_len 1 (Option.some Jvm.ClassFile.FieldType.int)) { frames := 1, cells := 0, slots := 0, locals := 20 } (gPc n0 D cA [.ref (cA (100 + 7))] M sz) (gQi n0 D cA sz (fun z M1 => M = M1 ∧ z = 5)) 0 0 (fun q => n0 ≤ q) := by
  refine gMet_of [.ref (cA (100 + 7))] (by decide) (Nat.le_of_ble_eq_true rfl) ?_
  intro p e s m args below meth cd X hr hm
  have X : gCx p s m args meth cd n0 D cA "java/lang/String" cJ_len 1 := X
  refine g_aload_n (n := 1) X 0 dJ_len_0 rfl rfl rfl ?_
  refine g_strVal (n := 4) X 7 rfl kw_8_54 rfl dJ_len_1 rfl ?_
  refine g_strLen (n := 5) (z := 5) X 7 rfl (by decide +kernel) dJ_len_4 rfl ?_
  refine g_aload_n (n := 6) X 0 dJ_len_5 rfl rfl rfl ?_
  refine g_callSt (n := 9) (As := []) (rest := [gJ 5]) (cs1 := 0) (ss1 := 0) X 7 rfl (c_J_cod 7 rfl) okJ_cod kw_3_239 ⟨kw_4_0, kw_4_1⟩ ⟨rfl, rfl⟩ ⟨Nat.le_of_ble_eq_true rfl, Nat.le_of_ble_eq_true rfl⟩ rfl rfl (Nat.le_of_ble_eq_true rfl) ⟨Nat.le_of_ble_eq_true rfl, Nat.le_of_ble_eq_true rfl⟩ rfl rfl dJ_len_6 rfl (fun z M1 hP => ?_)
  obtain ⟨rfl, rfl⟩ := hP
  refine g_ishrE (n := 10) (z := 5) X dJ_len_9 (gi_shr0 _) rfl ?_
  exact g_ireturn X hr dJ_len_10 ⟨rfl, rfl⟩
set_option maxHeartbeats 1000000 in
theorem c_J_len_8 {l : Launch} {n0 : Nat} {D : va_G} {cA : Nat → ClassId} {M : gM} {sz : Nat}  : Met l yJ_len (gWsOf yJ_len cJ_len 1 (Option.some Jvm.ClassFile.FieldType.int)) { frames := 1, cells := 0, slots := 0, locals := 20 } (gPc n0 D cA [.ref (cA (100 + 8))] M sz) (gQi n0 D cA sz (fun z M1 => M = M1 ∧ z = 4)) 0 0 (fun q => n0 ≤ q) := by
  refine gMet_of [.ref (cA (100 + 8))] (by decide) (Nat.le_of_ble_eq_true rfl) ?_
  intro p e s m args below meth cd X hr hm
  have X : gCx p s m args meth cd n0 D cA "java/lang/String" cJ_len 1 := X
  refine g_aload_n (n := 1) X 0 dJ_len_0 rfl rfl rfl ?_
  refine g_strVal (n := 4) X 8 rfl kw_8_54 rfl dJ_len_1 rfl ?_
  refine g_strLen (n := 5) (z := 4) X 8 rfl (by decide +kernel) dJ_len_4 rfl ?_
  refine g_aload_n (n := 6) X 0 dJ_len_5 rfl rfl rfl ?_
  refine g_callSt (n := 9) (As := []) (rest := [gJ 4]) (cs1 := 0) (ss1 := 0) X 8 rfl (c_J_cod 8 rfl) okJ_cod kw_3_239 ⟨kw_4_0, kw_4_1⟩ ⟨rfl, rfl⟩ ⟨Nat.le_of_ble_eq_true rfl, Nat.le_of_ble_eq_true rfl⟩ rfl rfl (Nat.le_of_ble_eq_true rfl) ⟨Nat.le_of_ble_eq_true rfl, Nat.le_of_ble_eq_true rfl⟩ rfl rfl dJ_len_6 rfl (fun z M1 hP => ?_)
  obtain ⟨rfl, rfl⟩ := hP
  refine g_ishrE (n := 10) (z := 4) X dJ_len_9 (gi_shr0 _) rfl ?_
  exact g_ireturn X hr dJ_len_10 ⟨rfl, rfl⟩
set_option maxHeartbeats 1000000 in
theorem c_J_len_9 {l : Launch} {n0 : Nat} {D : va_G} {cA : Nat → ClassId} {M : gM} {sz : Nat}  : Met l yJ_len (gWsOf yJ_len cJ_len 1 (Option.some Jvm.ClassFile.FieldType.int)) { frames := 1, cells := 0, slots := 0, locals := 20 } (gPc n0 D cA [.ref (cA (100 + 9))] M sz) (gQi n0 D cA sz (fun z M1 => M = M1 ∧ z = 4)) 0 0 (fun q => n0 ≤ q) := by
  refine gMet_of [.ref (cA (100 + 9))] (by decide) (Nat.le_of_ble_eq_true rfl) ?_
  intro p e s m args below meth cd X hr hm
  have X : gCx p s m args meth cd n0 D cA "java/lang/String" cJ_len 1 := X
  refine g_aload_n (n := 1) X 0 dJ_len_0 rfl rfl rfl ?_
  refine g_strVal (n := 4) X 9 rfl kw_8_54 rfl dJ_len_1 rfl ?_
  refine g_strLen (n := 5) (z := 4) X 9 rfl (by decide +kernel) dJ_len_4 rfl ?_
  refine g_aload_n (n := 6) X 0 dJ_len_5 rfl rfl rfl ?_
  refine g_callSt (n := 9) (As := []) (rest := [gJ 4]) (cs1 := 0) (ss1 := 0) X 9 rfl (c_J_cod 9 rfl) okJ_cod kw_3_239 ⟨kw_4_0, kw_4_1⟩ ⟨rfl, rfl⟩ ⟨Nat.le_of_ble_eq_true rfl, Nat.le_of_ble_eq_true rfl⟩ rfl rfl (Nat.le_of_ble_eq_true rfl) ⟨Nat.le_of_ble_eq_true rfl, Nat.le_of_ble_eq_true rfl⟩ rfl rfl dJ_len_6 rfl (fun z M1 hP => ?_)
  obtain ⟨rfl, rfl⟩ := hP
  refine g_ishrE (n := 10) (z := 4) X dJ_len_9 (gi_shr0 _) rfl ?_
  exact g_ireturn X hr dJ_len_10 ⟨rfl, rfl⟩
set_option maxHeartbeats 1000000 in
theorem c_J_len_10 {l : Launch} {n0 : Nat} {D : va_G} {cA : Nat → ClassId} {M : gM} {sz : Nat}  : Met l yJ_len (gWsOf yJ_len cJ_len 1 (Option.some Jvm.ClassFile.FieldType.int)) { frames := 1, cells := 0, slots := 0, locals := 20 } (gPc n0 D cA [.ref (cA (100 + 10))] M sz) (gQi n0 D cA sz (fun z M1 => M = M1 ∧ z = 2)) 0 0 (fun q => n0 ≤ q) := by
  refine gMet_of [.ref (cA (100 + 10))] (by decide) (Nat.le_of_ble_eq_true rfl) ?_
  intro p e s m args below meth cd X hr hm
  have X : gCx p s m args meth cd n0 D cA "java/lang/String" cJ_len 1 := X
  refine g_aload_n (n := 1) X 0 dJ_len_0 rfl rfl rfl ?_
  refine g_strVal (n := 4) X 10 rfl kw_8_54 rfl dJ_len_1 rfl ?_
  refine g_strLen (n := 5) (z := 2) X 10 rfl (by decide +kernel) dJ_len_4 rfl ?_
  refine g_aload_n (n := 6) X 0 dJ_len_5 rfl rfl rfl ?_
  refine g_callSt (n := 9) (As := []) (rest := [gJ 2]) (cs1 := 0) (ss1 := 0) X 10 rfl (c_J_cod 10 rfl) okJ_cod kw_3_239 ⟨kw_4_0, kw_4_1⟩ ⟨rfl, rfl⟩ ⟨Nat.le_of_ble_eq_true rfl, Nat.le_of_ble_eq_true rfl⟩ rfl rfl (Nat.le_of_ble_eq_true rfl) ⟨Nat.le_of_ble_eq_true rfl, Nat.le_of_ble_eq_true rfl⟩ rfl rfl dJ_len_6 rfl (fun z M1 hP => ?_)
  obtain ⟨rfl, rfl⟩ := hP
  refine g_ishrE (n := 10) (z := 2) X dJ_len_9 (gi_shr0 _) rfl ?_
  exact g_ireturn X hr dJ_len_10 ⟨rfl, rfl⟩
set_option maxHeartbeats 1000000 in
theorem c_J_len_11 {l : Launch} {n0 : Nat} {D : va_G} {cA : Nat → ClassId} {M : gM} {sz : Nat}  : Met l yJ_len (gWsOf yJ_len cJ_len 1 (Option.some Jvm.ClassFile.FieldType.int)) { frames := 1, cells := 0, slots := 0, locals := 20 } (gPc n0 D cA [.ref (cA (100 + 11))] M sz) (gQi n0 D cA sz (fun z M1 => M = M1 ∧ z = 3)) 0 0 (fun q => n0 ≤ q) := by
  refine gMet_of [.ref (cA (100 + 11))] (by decide) (Nat.le_of_ble_eq_true rfl) ?_
  intro p e s m args below meth cd X hr hm
  have X : gCx p s m args meth cd n0 D cA "java/lang/String" cJ_len 1 := X
  refine g_aload_n (n := 1) X 0 dJ_len_0 rfl rfl rfl ?_
  refine g_strVal (n := 4) X 11 rfl kw_8_54 rfl dJ_len_1 rfl ?_
  refine g_strLen (n := 5) (z := 3) X 11 rfl (by decide +kernel) dJ_len_4 rfl ?_
  refine g_aload_n (n := 6) X 0 dJ_len_5 rfl rfl rfl ?_
  refine g_callSt (n := 9) (As := []) (rest := [gJ 3]) (cs1 := 0) (ss1 := 0) X 11 rfl (c_J_cod 11 rfl) okJ_cod kw_3_239 ⟨kw_4_0, kw_4_1⟩ ⟨rfl, rfl⟩ ⟨Nat.le_of_ble_eq_true rfl, Nat.le_of_ble_eq_true rfl⟩ rfl rfl (Nat.le_of_ble_eq_true rfl) ⟨Nat.le_of_ble_eq_true rfl, Nat.le_of_ble_eq_true rfl⟩ rfl rfl dJ_len_6 rfl (fun z M1 hP => ?_)
  obtain ⟨rfl, rfl⟩ := hP
  refine g_ishrE (n := 10) (z := 3) X dJ_len_9 (gi_shr0 _) rfl ?_
  exact g_ireturn X hr dJ_len_10 ⟨rfl, rfl⟩
set_option maxHeartbeats 1000000 in
theorem c_J_len_12 {l : Launch} {n0 : Nat} {D : va_G} {cA : Nat → ClassId} {M : gM} {sz : Nat}  : Met l yJ_len (gWsOf yJ_len cJ_len 1 (Option.some Jvm.ClassFile.FieldType.int)) { frames := 1, cells := 0, slots := 0, locals := 20 } (gPc n0 D cA [.ref (cA (100 + 12))] M sz) (gQi n0 D cA sz (fun z M1 => M = M1 ∧ z = 4)) 0 0 (fun q => n0 ≤ q) := by
  refine gMet_of [.ref (cA (100 + 12))] (by decide) (Nat.le_of_ble_eq_true rfl) ?_
  intro p e s m args below meth cd X hr hm
  have X : gCx p s m args meth cd n0 D cA "java/lang/String" cJ_len 1 := X
  refine g_aload_n (n := 1) X 0 dJ_len_0 rfl rfl rfl ?_
  refine g_strVal (n := 4) X 12 rfl kw_8_54 rfl dJ_len_1 rfl ?_
  refine g_strLen (n := 5) (z := 4) X 12 rfl (by decide +kernel) dJ_len_4 rfl ?_
  refine g_aload_n (n := 6) X 0 dJ_len_5 rfl rfl rfl ?_
  refine g_callSt (n := 9) (As := []) (rest := [gJ 4]) (cs1 := 0) (ss1 := 0) X 12 rfl (c_J_cod 12 rfl) okJ_cod kw_3_239 ⟨kw_4_0, kw_4_1⟩ ⟨rfl, rfl⟩ ⟨Nat.le_of_ble_eq_true rfl, Nat.le_of_ble_eq_true rfl⟩ rfl rfl (Nat.le_of_ble_eq_true rfl) ⟨Nat.le_of_ble_eq_true rfl, Nat.le_of_ble_eq_true rfl⟩ rfl rfl dJ_len_6 rfl (fun z M1 hP => ?_)
  obtain ⟨rfl, rfl⟩ := hP
  refine g_ishrE (n := 10) (z := 4) X dJ_len_9 (gi_shr0 _) rfl ?_
  exact g_ireturn X hr dJ_len_10 ⟨rfl, rfl⟩
set_option maxHeartbeats 1000000 in
theorem c_J_len_13 {l : Launch} {n0 : Nat} {D : va_G} {cA : Nat → ClassId} {M : gM} {sz : Nat}  : Met l yJ_len (gWsOf yJ_len cJ_len 1 (Option.some Jvm.ClassFile.FieldType.int)) { frames := 1, cells := 0, slots := 0, locals := 20 } (gPc n0 D cA [.ref (cA (100 + 13))] M sz) (gQi n0 D cA sz (fun z M1 => M = M1 ∧ z = 4)) 0 0 (fun q => n0 ≤ q) := by
  refine gMet_of [.ref (cA (100 + 13))] (by decide) (Nat.le_of_ble_eq_true rfl) ?_
  intro p e s m args below meth cd X hr hm
  have X : gCx p s m args meth cd n0 D cA "java/lang/String" cJ_len 1 := X
  refine g_aload_n (n := 1) X 0 dJ_len_0 rfl rfl rfl ?_
  refine g_strVal (n := 4) X 13 rfl kw_8_54 rfl dJ_len_1 rfl ?_
  refine g_strLen (n := 5) (z := 4) X 13 rfl (by decide +kernel) dJ_len_4 rfl ?_
  refine g_aload_n (n := 6) X 0 dJ_len_5 rfl rfl rfl ?_
  refine g_callSt (n := 9) (As := []) (rest := [gJ 4]) (cs1 := 0) (ss1 := 0) X 13 rfl (c_J_cod 13 rfl) okJ_cod kw_3_239 ⟨kw_4_0, kw_4_1⟩ ⟨rfl, rfl⟩ ⟨Nat.le_of_ble_eq_true rfl, Nat.le_of_ble_eq_true rfl⟩ rfl rfl (Nat.le_of_ble_eq_true rfl) ⟨Nat.le_of_ble_eq_true rfl, Nat.le_of_ble_eq_true rfl⟩ rfl rfl dJ_len_6 rfl (fun z M1 hP => ?_)
  obtain ⟨rfl, rfl⟩ := hP
  refine g_ishrE (n := 10) (z := 4) X dJ_len_9 (gi_shr0 _) rfl ?_
  exact g_ireturn X hr dJ_len_10 ⟨rfl, rfl⟩
set_option maxHeartbeats 1000000 in
theorem c_J_len_14 {l : Launch} {n0 : Nat} {D : va_G} {cA : Nat → ClassId} {M : gM} {sz : Nat}  : Met l yJ_len (gWsOf yJ_len cJ_len 1 (Option.some Jvm.ClassFile.FieldType.int)) { frames := 1, cells := 0, slots := 0, locals := 20 } (gPc n0 D cA [.ref (cA (100 + 14))] M sz) (gQi n0 D cA sz (fun z M1 => M = M1 ∧ z = 2)) 0 0 (fun q => n0 ≤ q) := by
  refine gMet_of [.ref (cA (100 + 14))] (by decide) (Nat.le_of_ble_eq_true rfl) ?_
  intro p e s m args below meth cd X hr hm
  have X : gCx p s m args meth cd n0 D cA "java/lang/String" cJ_len 1 := X
  refine g_aload_n (n := 1) X 0 dJ_len_0 rfl rfl rfl ?_
  refine g_strVal (n := 4) X 14 rfl kw_8_54 rfl dJ_len_1 rfl ?_
  refine g_strLen (n := 5) (z := 2) X 14 rfl (by decide +kernel) dJ_len_4 rfl ?_
  refine g_aload_n (n := 6) X 0 dJ_len_5 rfl rfl rfl ?_
  refine g_callSt (n := 9) (As := []) (rest := [gJ 2]) (cs1 := 0) (ss1 := 0) X 14 rfl (c_J_cod 14 rfl) okJ_cod kw_3_239 ⟨kw_4_0, kw_4_1⟩ ⟨rfl, rfl⟩ ⟨Nat.le_of_ble_eq_true rfl, Nat.le_of_ble_eq_true rfl⟩ rfl rfl (Nat.le_of_ble_eq_true rfl) ⟨Nat.le_of_ble_eq_true rfl, Nat.le_of_ble_eq_true rfl⟩ rfl rfl dJ_len_6 rfl (fun z M1 hP => ?_)
  obtain ⟨rfl, rfl⟩ := hP
  refine g_ishrE (n := 10) (z := 2) X dJ_len_9 (gi_shr0 _) rfl ?_
  exact g_ireturn X hr dJ_len_10 ⟨rfl, rfl⟩
set_option maxHeartbeats 1000000 in
theorem c_J_len_15 {l : Launch} {n0 : Nat} {D : va_G} {cA : Nat → ClassId} {M : gM} {sz : Nat}  : Met l yJ_len (gWsOf yJ_len cJ_len 1 (Option.some Jvm.ClassFile.FieldType.int)) { frames := 1, cells := 0, slots := 0, locals := 20 } (gPc n0 D cA [.ref (cA (100 + 15))] M sz) (gQi n0 D cA sz (fun z M1 => M = M1 ∧ z = 2)) 0 0 (fun q => n0 ≤ q) := by
  refine gMet_of [.ref (cA (100 + 15))] (by decide) (Nat.le_of_ble_eq_true rfl) ?_
  intro p e s m args below meth cd X hr hm
  have X : gCx p s m args meth cd n0 D cA "java/lang/String" cJ_len 1 := X
  refine g_aload_n (n := 1) X 0 dJ_len_0 rfl rfl rfl ?_
  refine g_strVal (n := 4) X 15 rfl kw_8_54 rfl dJ_len_1 rfl ?_
  refine g_strLen (n := 5) (z := 2) X 15 rfl (by decide +kernel) dJ_len_4 rfl ?_
  refine g_aload_n (n := 6) X 0 dJ_len_5 rfl rfl rfl ?_
  refine g_callSt (n := 9) (As := []) (rest := [gJ 2]) (cs1 := 0) (ss1 := 0) X 15 rfl (c_J_cod 15 rfl) okJ_cod kw_3_239 ⟨kw_4_0, kw_4_1⟩ ⟨rfl, rfl⟩ ⟨Nat.le_of_ble_eq_true rfl, Nat.le_of_ble_eq_true rfl⟩ rfl rfl (Nat.le_of_ble_eq_true rfl) ⟨Nat.le_of_ble_eq_true rfl, Nat.le_of_ble_eq_true rfl⟩ rfl rfl dJ_len_6 rfl (fun z M1 hP => ?_)
  obtain ⟨rfl, rfl⟩ := hP
  refine g_ishrE (n := 10) (z := 2) X dJ_len_9 (gi_shr0 _) rfl ?_
  exact g_ireturn X hr dJ_len_10 ⟨rfl, rfl⟩
set_option maxHeartbeats 1000000 in
theorem c_J_len_16 {l : Launch} {n0 : Nat} {D : va_G} {cA : Nat → ClassId} {M : gM} {sz : Nat}  : Met l yJ_len (gWsOf yJ_len cJ_len 1 (Option.some Jvm.ClassFile.FieldType.int)) { frames := 1, cells := 0, slots := 0, locals := 20 } (gPc n0 D cA [.ref (cA (100 + 16))] M sz) (gQi n0 D cA sz (fun z M1 => M = M1 ∧ z = 6)) 0 0 (fun q => n0 ≤ q) := by
  refine gMet_of [.ref (cA (100 + 16))] (by decide) (Nat.le_of_ble_eq_true rfl) ?_
  intro p e s m args below meth cd X hr hm
  have X : gCx p s m args meth cd n0 D cA "java/lang/String" cJ_len 1 := X
  refine g_aload_n (n := 1) X 0 dJ_len_0 rfl rfl rfl ?_
  refine g_strVal (n := 4) X 16 rfl kw_8_54 rfl dJ_len_1 rfl ?_
  refine g_strLen (n := 5) (z := 6) X 16 rfl (by decide +kernel) dJ_len_4 rfl ?_
  refine g_aload_n (n := 6) X 0 dJ_len_5 rfl rfl rfl ?_
  refine g_callSt (n := 9) (As := []) (rest := [gJ 6]) (cs1 := 0) (ss1 := 0) X 16 rfl (c_J_cod 16 rfl) okJ_cod kw_3_239 ⟨kw_4_0, kw_4_1⟩ ⟨rfl, rfl⟩ ⟨Nat.le_of_ble_eq_true rfl, Nat.le_of_ble_eq_true rfl⟩ rfl rfl (Nat.le_of_ble_eq_true rfl) ⟨Nat.le_of_ble_eq_true rfl, Nat.le_of_ble_eq_true rfl⟩ rfl rfl dJ_len_6 rfl (fun z M1 hP => ?_)
  obtain ⟨rfl, rfl⟩ := hP
  refine g_ishrE (n := 10) (z := 6) X dJ_len_9 (gi_shr0 _) rfl ?_
  exact g_ireturn X hr dJ_len_10 ⟨rfl, rfl⟩
set_option maxHeartbeats 1000000 in
theorem c_J_len_17 {l : Launch} {n0 : Nat} {D : va_G} {cA : Nat → ClassId} {M : gM} {sz : Nat}  : Met l yJ_len (gWsOf yJ_len cJ_len 1 (Option.some Jvm.ClassFile.FieldType.int)) { frames := 1, cells := 0, slots := 0, locals := 20 } (gPc n0 D cA [.ref (cA (100 + 17))] M sz) (gQi n0 D cA sz (fun z M1 => M = M1 ∧ z = 6)) 0 0 (fun q => n0 ≤ q) := by
  refine gMet_of [.ref (cA (100 + 17))] (by decide) (Nat.le_of_ble_eq_true rfl) ?_
  intro p e s m args below meth cd X hr hm
  have X : gCx p s m args meth cd n0 D cA "java/lang/String" cJ_len 1 := X
  refine g_aload_n (n := 1) X 0 dJ_len_0 rfl rfl rfl ?_
  refine g_strVal (n := 4) X 17 rfl kw_8_54 rfl dJ_len_1 rfl ?_
  refine g_strLen (n := 5) (z := 6) X 17 rfl (by decide +kernel) dJ_len_4 rfl ?_
  refine g_aload_n (n := 6) X 0 dJ_len_5 rfl rfl rfl ?_
  refine g_callSt (n := 9) (As := []) (rest := [gJ 6]) (cs1 := 0) (ss1 := 0) X 17 rfl (c_J_cod 17 rfl) okJ_cod kw_3_239 ⟨kw_4_0, kw_4_1⟩ ⟨rfl, rfl⟩ ⟨Nat.le_of_ble_eq_true rfl, Nat.le_of_ble_eq_true rfl⟩ rfl rfl (Nat.le_of_ble_eq_true rfl) ⟨Nat.le_of_ble_eq_true rfl, Nat.le_of_ble_eq_true rfl⟩ rfl rfl dJ_len_6 rfl (fun z M1 hP => ?_)
  obtain ⟨rfl, rfl⟩ := hP
  refine g_ishrE (n := 10) (z := 6) X dJ_len_9 (gi_shr0 _) rfl ?_
  exact g_ireturn X hr dJ_len_10 ⟨rfl, rfl⟩
set_option maxHeartbeats 1000000 in
theorem c_J_len_18 {l : Launch} {n0 : Nat} {D : va_G} {cA : Nat → ClassId} {M : gM} {sz : Nat}  : Met l yJ_len (gWsOf yJ_len cJ_len 1 (Option.some Jvm.ClassFile.FieldType.int)) { frames := 1, cells := 0, slots := 0, locals := 20 } (gPc n0 D cA [.ref (cA (100 + 18))] M sz) (gQi n0 D cA sz (fun z M1 => M = M1 ∧ z = 5)) 0 0 (fun q => n0 ≤ q) := by
  refine gMet_of [.ref (cA (100 + 18))] (by decide) (Nat.le_of_ble_eq_true rfl) ?_
  intro p e s m args below meth cd X hr hm
  have X : gCx p s m args meth cd n0 D cA "java/lang/String" cJ_len 1 := X
  refine g_aload_n (n := 1) X 0 dJ_len_0 rfl rfl rfl ?_
  refine g_strVal (n := 4) X 18 rfl kw_8_54 rfl dJ_len_1 rfl ?_
  refine g_strLen (n := 5) (z := 5) X 18 rfl (by decide +kernel) dJ_len_4 rfl ?_
  refine g_aload_n (n := 6) X 0 dJ_len_5 rfl rfl rfl ?_
  refine g_callSt (n := 9) (As := []) (rest := [gJ 5]) (cs1 := 0) (ss1 := 0) X 18 rfl (c_J_cod 18 rfl) okJ_cod kw_3_239 ⟨kw_4_0, kw_4_1⟩ ⟨rfl, rfl⟩ ⟨Nat.le_of_ble_eq_true rfl, Nat.le_of_ble_eq_true rfl⟩ rfl rfl (Nat.le_of_ble_eq_true rfl) ⟨Nat.le_of_ble_eq_true rfl, Nat.le_of_ble_eq_true rfl⟩ rfl rfl dJ_len_6 rfl (fun z M1 hP => ?_)
  obtain ⟨rfl, rfl⟩ := hP
  refine g_ishrE (n := 10) (z := 5) X dJ_len_9 (gi_shr0 _) rfl ?_
  exact g_ireturn X hr dJ_len_10 ⟨rfl, rfl⟩
set_option maxHeartbeats 1000000 in
theorem c_J_len_19 {l : Launch} {n0 : Nat} {D : va_G} {cA : Nat → ClassId} {M : gM} {sz : Nat}  : Met l yJ_len (gWsOf yJ_len cJ_len 1 (Option.some Jvm.ClassFile.FieldType.int)) { frames := 1, cells := 0, slots := 0, locals := 20 } (gPc n0 D cA [.ref (cA (100 + 19))] M sz) (gQi n0 D cA sz (fun z M1 => M = M1 ∧ z = 5)) 0 0 (fun q => n0 ≤ q) := by
  refine gMet_of [.ref (cA (100 + 19))] (by decide) (Nat.le_of_ble_eq_true rfl) ?_
  intro p e s m args below meth cd X hr hm
  have X : gCx p s m args meth cd n0 D cA "java/lang/String" cJ_len 1 := X
  refine g_aload_n (n := 1) X 0 dJ_len_0 rfl rfl rfl ?_
  refine g_strVal (n := 4) X 19 rfl kw_8_54 rfl dJ_len_1 rfl ?_
  refine g_strLen (n := 5) (z := 5) X 19 rfl (by decide +kernel) dJ_len_4 rfl ?_
  refine g_aload_n (n := 6) X 0 dJ_len_5 rfl rfl rfl ?_
  refine g_callSt (n := 9) (As := []) (rest := [gJ 5]) (cs1 := 0) (ss1 := 0) X 19 rfl (c_J_cod 19 rfl) okJ_cod kw_3_239 ⟨kw_4_0, kw_4_1⟩ ⟨rfl, rfl⟩ ⟨Nat.le_of_ble_eq_true rfl, Nat.le_of_ble_eq_true rfl⟩ rfl rfl (Nat.le_of_ble_eq_true rfl) ⟨Nat.le_of_ble_eq_true rfl, Nat.le_of_ble_eq_true rfl⟩ rfl rfl dJ_len_6 rfl (fun z M1 hP => ?_)
  obtain ⟨rfl, rfl⟩ := hP
  refine g_ishrE (n := 10) (z := 5) X dJ_len_9 (gi_shr0 _) rfl ?_
  exact g_ireturn X hr dJ_len_10 ⟨rfl, rfl⟩
set_option maxHeartbeats 1000000 in
theorem c_J_len_20 {l : Launch} {n0 : Nat} {D : va_G} {cA : Nat → ClassId} {M : gM} {sz : Nat}  : Met l yJ_len (gWsOf yJ_len cJ_len 1 (Option.some Jvm.ClassFile.FieldType.int)) { frames := 1, cells := 0, slots := 0, locals := 20 } (gPc n0 D cA [.ref (cA (100 + 20))] M sz) (gQi n0 D cA sz (fun z M1 => M = M1 ∧ z = 5)) 0 0 (fun q => n0 ≤ q) := by
  refine gMet_of [.ref (cA (100 + 20))] (by decide) (Nat.le_of_ble_eq_true rfl) ?_
  intro p e s m args below meth cd X hr hm
  have X : gCx p s m args meth cd n0 D cA "java/lang/String" cJ_len 1 := X
  refine g_aload_n (n := 1) X 0 dJ_len_0 rfl rfl rfl ?_
  refine g_strVal (n := 4) X 20 rfl kw_8_54 rfl dJ_len_1 rfl ?_
  refine g_strLen (n := 5) (z := 5) X 20 rfl (by decide +kernel) dJ_len_4 rfl ?_
  refine g_aload_n (n := 6) X 0 dJ_len_5 rfl rfl rfl ?_
  refine g_callSt (n := 9) (As := []) (rest := [gJ 5]) (cs1 := 0) (ss1 := 0) X 20 rfl (c_J_cod 20 rfl) okJ_cod kw_3_239 ⟨kw_4_0, kw_4_1⟩ ⟨rfl, rfl⟩ ⟨Nat.le_of_ble_eq_true rfl, Nat.le_of_ble_eq_true rfl⟩ rfl rfl (Nat.le_of_ble_eq_true rfl) ⟨Nat.le_of_ble_eq_true rfl, Nat.le_of_ble_eq_true rfl⟩ rfl rfl dJ_len_6 rfl (fun z M1 hP => ?_)
  obtain ⟨rfl, rfl⟩ := hP
  refine g_ishrE (n := 10) (z := 5) X dJ_len_9 (gi_shr0 _) rfl ?_
  exact g_ireturn X hr dJ_len_10 ⟨rfl, rfl⟩
set_option maxHeartbeats 1000000 in
theorem c_J_len_21 {l : Launch} {n0 : Nat} {D : va_G} {cA : Nat → ClassId} {M : gM} {sz : Nat}  : Met l yJ_len (gWsOf yJ_len cJ_len 1 (Option.some Jvm.ClassFile.FieldType.int)) { frames := 1, cells := 0, slots := 0, locals := 20 } (gPc n0 D cA [.ref (cA (100 + 21))] M sz) (gQi n0 D cA sz (fun z M1 => M = M1 ∧ z = 4)) 0 0 (fun q => n0 ≤ q) := by
  refine gMet_of [.ref (cA (100 + 21))] (by decide) (Nat.le_of_ble_eq_true rfl) ?_
  intro p e s m args below meth cd X hr hm
  have X : gCx p s m args meth cd n0 D cA "java/lang/String" cJ_len 1 := X
  refine g_aload_n (n := 1) X 0 dJ_len_0 rfl rfl rfl ?_
  refine g_strVal (n := 4) X 21 rfl kw_8_54 rfl dJ_len_1 rfl ?_
  refine g_strLen (n := 5) (z := 4) X 21 rfl (by decide +kernel) dJ_len_4 rfl ?_
  refine g_aload_n (n := 6) X 0 dJ_len_5 rfl rfl rfl ?_
  refine g_callSt (n := 9) (As := []) (rest := [gJ 4]) (cs1 := 0) (ss1 := 0) X 21 rfl (c_J_cod 21 rfl) okJ_cod kw_3_239 ⟨kw_4_0, kw_4_1⟩ ⟨rfl, rfl⟩ ⟨Nat.le_of_ble_eq_true rfl, Nat.le_of_ble_eq_true rfl⟩ rfl rfl (Nat.le_of_ble_eq_true rfl) ⟨Nat.le_of_ble_eq_true rfl, Nat.le_of_ble_eq_true rfl⟩ rfl rfl dJ_len_6 rfl (fun z M1 hP => ?_)
  obtain ⟨rfl, rfl⟩ := hP
  refine g_ishrE (n := 10) (z := 4) X dJ_len_9 (gi_shr0 _) rfl ?_
  exact g_ireturn X hr dJ_len_10 ⟨rfl, rfl⟩
set_option maxHeartbeats 1000000 in
theorem c_J_len_22 {l : Launch} {n0 : Nat} {D : va_G} {cA : Nat → ClassId} {M : gM} {sz : Nat}  : Met l yJ_len (gWsOf yJ_len cJ_len 1 (Option.some Jvm.ClassFile.FieldType.int)) { frames := 1, cells := 0, slots := 0, locals := 20 } (gPc n0 D cA [.ref (cA (100 + 22))] M sz) (gQi n0 D cA sz (fun z M1 => M = M1 ∧ z = 4)) 0 0 (fun q => n0 ≤ q) := by
  refine gMet_of [.ref (cA (100 + 22))] (by decide) (Nat.le_of_ble_eq_true rfl) ?_
  intro p e s m args below meth cd X hr hm
  have X : gCx p s m args meth cd n0 D cA "java/lang/String" cJ_len 1 := X
  refine g_aload_n (n := 1) X 0 dJ_len_0 rfl rfl rfl ?_
  refine g_strVal (n := 4) X 22 rfl kw_8_54 rfl dJ_len_1 rfl ?_
  refine g_strLen (n := 5) (z := 4) X 22 rfl (by decide +kernel) dJ_len_4 rfl ?_
  refine g_aload_n (n := 6) X 0 dJ_len_5 rfl rfl rfl ?_
  refine g_callSt (n := 9) (As := []) (rest := [gJ 4]) (cs1 := 0) (ss1 := 0) X 22 rfl (c_J_cod 22 rfl) okJ_cod kw_3_239 ⟨kw_4_0, kw_4_1⟩ ⟨rfl, rfl⟩ ⟨Nat.le_of_ble_eq_true rfl, Nat.le_of_ble_eq_true rfl⟩ rfl rfl (Nat.le_of_ble_eq_true rfl) ⟨Nat.le_of_ble_eq_true rfl, Nat.le_of_ble_eq_true rfl⟩ rfl rfl dJ_len_6 rfl (fun z M1 hP => ?_)
  obtain ⟨rfl, rfl⟩ := hP
  refine g_ishrE (n := 10) (z := 4) X dJ_len_9 (gi_shr0 _) rfl ?_
  exact g_ireturn X hr dJ_len_10 ⟨rfl, rfl⟩
set_option maxHeartbeats 1000000 in
theorem c_J_len_23 {l : Launch} {n0 : Nat} {D : va_G} {cA : Nat → ClassId} {M : gM} {sz : Nat}  : Met l yJ_len (gWsOf yJ_len cJ_len 1 (Option.some Jvm.ClassFile.FieldType.int)) { frames := 1, cells := 0, slots := 0, locals := 20 } (gPc n0 D cA [.ref (cA (100 + 23))] M sz) (gQi n0 D cA sz (fun z M1 => M = M1 ∧ z = 6)) 0 0 (fun q => n0 ≤ q) := by
  refine gMet_of [.ref (cA (100 + 23))] (by decide) (Nat.le_of_ble_eq_true rfl) ?_
  intro p e s m args below meth cd X hr hm
  have X : gCx p s m args meth cd n0 D cA "java/lang/String" cJ_len 1 := X
  refine g_aload_n (n := 1) X 0 dJ_len_0 rfl rfl rfl ?_
  refine g_strVal (n := 4) X 23 rfl kw_8_54 rfl dJ_len_1 rfl ?_
  refine g_strLen (n := 5) (z := 6) X 23 rfl (by decide +kernel) dJ_len_4 rfl ?_
  refine g_aload_n (n := 6) X 0 dJ_len_5 rfl rfl rfl ?_
  refine g_callSt (n := 9) (As := []) (rest := [gJ 6]) (cs1 := 0) (ss1 := 0) X 23 rfl (c_J_cod 23 rfl) okJ_cod kw_3_239 ⟨kw_4_0, kw_4_1⟩ ⟨rfl, rfl⟩ ⟨Nat.le_of_ble_eq_true rfl, Nat.le_of_ble_eq_true rfl⟩ rfl rfl (Nat.le_of_ble_eq_true rfl) ⟨Nat.le_of_ble_eq_true rfl, Nat.le_of_ble_eq_true rfl⟩ rfl rfl dJ_len_6 rfl (fun z M1 hP => ?_)
  obtain ⟨rfl, rfl⟩ := hP
  refine g_ishrE (n := 10) (z := 6) X dJ_len_9 (gi_shr0 _) rfl ?_
  exact g_ireturn X hr dJ_len_10 ⟨rfl, rfl⟩
set_option maxHeartbeats 1000000 in
theorem c_J_len_24 {l : Launch} {n0 : Nat} {D : va_G} {cA : Nat → ClassId} {M : gM} {sz : Nat}  : Met l yJ_len (gWsOf yJ_len cJ_len 1 (Option.some Jvm.ClassFile.FieldType.int)) { frames := 1, cells := 0, slots := 0, locals := 20 } (gPc n0 D cA [.ref (cA (100 + 24))] M sz) (gQi n0 D cA sz (fun z M1 => M = M1 ∧ z = 5)) 0 0 (fun q => n0 ≤ q) := by
  refine gMet_of [.ref (cA (100 + 24))] (by decide) (Nat.le_of_ble_eq_true rfl) ?_
  intro p e s m args below meth cd X hr hm
  have X : gCx p s m args meth cd n0 D cA "java/lang/String" cJ_len 1 := X
  refine g_aload_n (n := 1) X 0 dJ_len_0 rfl rfl rfl ?_
  refine g_strVal (n := 4) X 24 rfl kw_8_54 rfl dJ_len_1 rfl ?_
  refine g_strLen (n := 5) (z := 5) X 24 rfl (by decide +kernel) dJ_len_4 rfl ?_
  refine g_aload_n (n := 6) X 0 dJ_len_5 rfl rfl rfl ?_
  refine g_callSt (n := 9) (As := []) (rest := [gJ 5]) (cs1 := 0) (ss1 := 0) X 24 rfl (c_J_cod 24 rfl) okJ_cod kw_3_239 ⟨kw_4_0, kw_4_1⟩ ⟨rfl, rfl⟩ ⟨Nat.le_of_ble_eq_true rfl, Nat.le_of_ble_eq_true rfl⟩ rfl rfl (Nat.le_of_ble_eq_true rfl) ⟨Nat.le_of_ble_eq_true rfl, Nat.le_of_ble_eq_true rfl⟩ rfl rfl dJ_len_6 rfl (fun z M1 hP => ?_)
  obtain ⟨rfl, rfl⟩ := hP
  refine g_ishrE (n := 10) (z := 5) X dJ_len_9 (gi_shr0 _) rfl ?_
  exact g_ireturn X hr dJ_len_10 ⟨rfl, rfl⟩
set_option maxHeartbeats 1000000 in
theorem c_J_len_25 {l : Launch} {n0 : Nat} {D : va_G} {cA : Nat → ClassId} {M : gM} {sz : Nat}  : Met l yJ_len (gWsOf yJ_len cJ_len 1 (Option.some Jvm.ClassFile.FieldType.int)) { frames := 1, cells := 0, slots := 0, locals := 20 } (gPc n0 D cA [.ref (cA (100 + 25))] M sz) (gQi n0 D cA sz (fun z M1 => M = M1 ∧ z = 5)) 0 0 (fun q => n0 ≤ q) := by
  refine gMet_of [.ref (cA (100 + 25))] (by decide) (Nat.le_of_ble_eq_true rfl) ?_
  intro p e s m args below meth cd X hr hm
  have X : gCx p s m args meth cd n0 D cA "java/lang/String" cJ_len 1 := X
  refine g_aload_n (n := 1) X 0 dJ_len_0 rfl rfl rfl ?_
  refine g_strVal (n := 4) X 25 rfl kw_8_54 rfl dJ_len_1 rfl ?_
  refine g_strLen (n := 5) (z := 5) X 25 rfl (by decide +kernel) dJ_len_4 rfl ?_
  refine g_aload_n (n := 6) X 0 dJ_len_5 rfl rfl rfl ?_
  refine g_callSt (n := 9) (As := []) (rest := [gJ 5]) (cs1 := 0) (ss1 := 0) X 25 rfl (c_J_cod 25 rfl) okJ_cod kw_3_239 ⟨kw_4_0, kw_4_1⟩ ⟨rfl, rfl⟩ ⟨Nat.le_of_ble_eq_true rfl, Nat.le_of_ble_eq_true rfl⟩ rfl rfl (Nat.le_of_ble_eq_true rfl) ⟨Nat.le_of_ble_eq_true rfl, Nat.le_of_ble_eq_true rfl⟩ rfl rfl dJ_len_6 rfl (fun z M1 hP => ?_)
  obtain ⟨rfl, rfl⟩ := hP
  refine g_ishrE (n := 10) (z := 5) X dJ_len_9 (gi_shr0 _) rfl ?_
  exact g_ireturn X hr dJ_len_10 ⟨rfl, rfl⟩
theorem kw_3_238 : (Jvm.Cond.code ({ cls := "java/lang/String", name := "length", desc := "()I" } : Jvm.MethodName) prog_17_method_54_code (1 : Nat) (Option.some Jvm.ClassFile.FieldType.int)) ∈ gT := gT_of (tb_3 _ (List.mem_of_getElem? (i := 238) rfl)) rfl
theorem okJ_len : gQok yJ_len cJ_len 1 (Option.some Jvm.ClassFile.FieldType.int) 0 := ⟨kw_3_238, kw_1_17, by decide +kernel, by decide +kernel, by decide +kernel⟩
theorem kw_4_16 : (Jvm.Cond.methodLink "java/lang/StringLatin1" (9 : Nat) ({ cls := "java/lang/String", name := "checkIndex", desc := "(II)V" } : Jvm.MethodName)) ∈ gT := gT_of (tb_4 _ (List.mem_of_getElem? (i := 16) rfl)) rfl
theorem kw_4_17 : (Jvm.Cond.static ({ cls := "java/lang/String", name := "checkIndex", desc := "(II)V" } : Jvm.MethodName)) ∈ gT := gT_of (tb_4 _ (List.mem_of_getElem? (i := 17) rfl)) rfl
theorem dJ_l1c_0 : decode cJ_l1c 0 = .ok (.iload_n 1, 1) := by decide +kernel
theorem dJ_l1c_1 : decode cJ_l1c 1 = .ok (.aload_n 0, 1) := by decide +kernel
theorem dJ_l1c_2 : decode cJ_l1c 2 = .ok (.arraylength, 1) := by decide +kernel
theorem dJ_l1c_3 : decode cJ_l1c 3 = .ok (.invokestatic 9, 3) := by decide +kernel
theorem dJ_l1c_6 : decode cJ_l1c 6 = .ok (.aload_n 0, 1) := by decide +kernel
theorem dJ_l1c_7 : decode cJ_l1c 7 = .ok (.iload_n 1, 1) := by decide +kernel
theorem dJ_l1c_8 : decode cJ_l1c 8 = .ok (.baload, 1) := by decide +kernel
theorem dJ_l1c_9 : decode cJ_l1c 9 = .ok (.sipush 255, 3) := by decide +kernel
theorem dJ_l1c_12 : decode cJ_l1c 12 = .ok (.iand, 1) := by decide +kernel
theorem dJ_l1c_13 : decode cJ_l1c 13 = .ok (.i2c, 1) := by decide +kernel
theorem dJ_l1c_14 : decode cJ_l1c 14 = .ok (.ireturn, 1) := by decide +kernel
set_option maxHeartbeats 1000000 in
theorem c_J_l1c_16 {l : Launch} {n0 : Nat} {D : va_G} {cA : Nat → ClassId} {M : gM} {sz : Nat}  : Met l yJ_l1c (gWsOf yJ_l1c cJ_l1c 2 (Option.some Jvm.ClassFile.FieldType.char)) { frames := 2, cells := 0, slots := 0, locals := 43 } (gPc n0 D cA [.ref (cA (200 + 16)), gJ 0] M sz) (gQi n0 D cA sz (fun z M1 => M = M1 ∧ 0 ≤ z ∧ z ≤ 65535)) 0 0 (fun q => n0 ≤ q) := by
  refine gMet_of [.ref (cA (200 + 16)), gJ 0] (by decide) (Nat.le_of_ble_eq_true rfl) ?_
  intro p e s m args below meth cd X hr hm
  have X : gCx p s m args meth cd n0 D cA "java/lang/StringLatin1" cJ_l1c 2 := X
  refine g_iload_n (n := 1) X 1 dJ_l1c_0 rfl rfl rfl ?_
  refine g_aload_n (n := 2) X 0 dJ_l1c_1 rfl rfl rfl ?_
  refine g_strLen (n := 3) (z := 6) X 16 rfl (by decide +kernel) dJ_l1c_2 rfl ?_
  refine g_callSv (n := 6) (As := [gJ 0, gJ 6]) (rest := []) (cs1 := 0) (ss1 := 0) X (c_J_chk 0 6 (by omega) (by omega) (by omega)) okJ_chk kw_4_16 kw_4_17 ⟨rfl, rfl⟩ ⟨Nat.le_of_ble_eq_true rfl, Nat.le_of_ble_eq_true rfl⟩ rfl rfl (Nat.le_of_ble_eq_true rfl) ⟨Nat.le_of_ble_eq_true rfl, Nat.le_of_ble_eq_true rfl⟩ rfl rfl dJ_l1c_3 rfl (fun M1 hP => ?_)
  obtain rfl := hP
  refine g_aload_n (n := 7) X 0 dJ_l1c_6 rfl rfl rfl ?_
  refine g_iload_n (n := 8) X 1 dJ_l1c_7 rfl rfl rfl ?_
  refine g_strByt (n := 9) (z := 104) X 16 rfl (by omega) (by decide +kernel) (by decide +kernel) (by decide +kernel) dJ_l1c_8 rfl ?_
  refine g_sipush (n := 12) X dJ_l1c_9 (by decide +kernel) rfl ?_
  refine g_iandE (n := 13) (z := 104) X dJ_l1c_12 (by decide +kernel) rfl ?_
  refine g_i2cA (n := 14) X dJ_l1c_13 rfl (fun z rz nz => ?_)
  exact g_nreturn X nz hr dJ_l1c_14 ⟨rfl, rz.1, rz.2⟩
set_option maxHeartbeats 1000000 in
theorem c_J_l1c_17 {l : Launch} {n0 : Nat} {D : va_G} {cA : Nat → ClassId} {M : gM} {sz : Nat}  : Met l yJ_l1c (gWsOf yJ_l1c cJ_l1c 2 (Option.some Jvm.ClassFile.FieldType.char)) { frames := 2, cells := 0, slots := 0, locals := 43 } (gPc n0 D cA [.ref (cA (200 + 17)), gJ 0] M sz) (gQi n0 D cA sz (fun z M1 => M = M1 ∧ 0 ≤ z ∧ z ≤ 65535)) 0 0 (fun q => n0 ≤ q) := by
  refine gMet_of [.ref (cA (200 + 17)), gJ 0] (by decide) (Nat.le_of_ble_eq_true rfl) ?_
  intro p e s m args below meth cd X hr hm
  have X : gCx p s m args meth cd n0 D cA "java/lang/StringLatin1" cJ_l1c 2 := X
  refine g_iload_n (n := 1) X 1 dJ_l1c_0 rfl rfl rfl ?_
  refine g_aload_n (n := 2) X 0 dJ_l1c_1 rfl rfl rfl ?_
  refine g_strLen (n := 3) (z := 6) X 17 rfl (by decide +kernel) dJ_l1c_2 rfl ?_
  refine g_callSv (n := 6) (As := [gJ 0, gJ 6]) (rest := []) (cs1 := 0) (ss1 := 0) X (c_J_chk 0 6 (by omega) (by omega) (by omega)) okJ_chk kw_4_16 kw_4_17 ⟨rfl, rfl⟩ ⟨Nat.le_of_ble_eq_true rfl, Nat.le_of_ble_eq_true rfl⟩ rfl rfl (Nat.le_of_ble_eq_true rfl) ⟨Nat.le_of_ble_eq_true rfl, Nat.le_of_ble_eq_true rfl⟩ rfl rfl dJ_l1c_3 rfl (fun M1 hP => ?_)
  obtain rfl := hP
  refine g_aload_n (n := 7) X 0 dJ_l1c_6 rfl rfl rfl ?_
  refine g_iload_n (n := 8) X 1 dJ_l1c_7 rfl rfl rfl ?_
  refine g_strByt (n := 9) (z := 114) X 17 rfl (by omega) (by decide +kernel) (by decide +kernel) (by decide +kernel) dJ_l1c_8 rfl ?_
  refine g_sipush (n := 12) X dJ_l1c_9 (by decide +kernel) rfl ?_
  refine g_iandE (n := 13) (z := 114) X dJ_l1c_12 (by decide +kernel) rfl ?_
  refine g_i2cA (n := 14) X dJ_l1c_13 rfl (fun z rz nz => ?_)
  exact g_nreturn X nz hr dJ_l1c_14 ⟨rfl, rz.1, rz.2⟩
set_option maxHeartbeats 1000000 in
theorem c_J_l1c_18 {l : Launch} {n0 : Nat} {D : va_G} {cA : Nat → ClassId} {M : gM} {sz : Nat}  : Met l yJ_l1c (gWsOf yJ_l1c cJ_l1c 2 (Option.some Jvm.ClassFile.FieldType.char)) { frames := 2, cells := 0, slots := 0, locals := 43 } (gPc n0 D cA [.ref (cA (200 + 18)), gJ 0] M sz) (gQi n0 D cA sz (fun z M1 => M = M1 ∧ 0 ≤ z ∧ z ≤ 65535)) 0 0 (fun q => n0 ≤ q) := by
  refine gMet_of [.ref (cA (200 + 18)), gJ 0] (by decide) (Nat.le_of_ble_eq_true rfl) ?_
  intro p e s m args below meth cd X hr hm
  have X : gCx p s m args meth cd n0 D cA "java/lang/StringLatin1" cJ_l1c 2 := X
  refine g_iload_n (n := 1) X 1 dJ_l1c_0 rfl rfl rfl ?_
  refine g_aload_n (n := 2) X 0 dJ_l1c_1 rfl rfl rfl ?_
  refine g_strLen (n := 3) (z := 5) X 18 rfl (by decide +kernel) dJ_l1c_2 rfl ?_
  refine g_callSv (n := 6) (As := [gJ 0, gJ 5]) (rest := []) (cs1 := 0) (ss1 := 0) X (c_J_chk 0 5 (by omega) (by omega) (by omega)) okJ_chk kw_4_16 kw_4_17 ⟨rfl, rfl⟩ ⟨Nat.le_of_ble_eq_true rfl, Nat.le_of_ble_eq_true rfl⟩ rfl rfl (Nat.le_of_ble_eq_true rfl) ⟨Nat.le_of_ble_eq_true rfl, Nat.le_of_ble_eq_true rfl⟩ rfl rfl dJ_l1c_3 rfl (fun M1 hP => ?_)
  obtain rfl := hP
  refine g_aload_n (n := 7) X 0 dJ_l1c_6 rfl rfl rfl ?_
  refine g_iload_n (n := 8) X 1 dJ_l1c_7 rfl rfl rfl ?_
  refine g_strByt (n := 9) (z := 100) X 18 rfl (by omega) (by decide +kernel) (by decide +kernel) (by decide +kernel) dJ_l1c_8 rfl ?_
  refine g_sipush (n := 12) X dJ_l1c_9 (by decide +kernel) rfl ?_
  refine g_iandE (n := 13) (z := 100) X dJ_l1c_12 (by decide +kernel) rfl ?_
  refine g_i2cA (n := 14) X dJ_l1c_13 rfl (fun z rz nz => ?_)
  exact g_nreturn X nz hr dJ_l1c_14 ⟨rfl, rz.1, rz.2⟩
set_option maxHeartbeats 1000000 in
theorem c_J_l1c_19 {l : Launch} {n0 : Nat} {D : va_G} {cA : Nat → ClassId} {M : gM} {sz : Nat}  : Met l yJ_l1c (gWsOf yJ_l1c cJ_l1c 2 (Option.some Jvm.ClassFile.FieldType.char)) { frames := 2, cells := 0, slots := 0, locals := 43 } (gPc n0 D cA [.ref (cA (200 + 19)), gJ 0] M sz) (gQi n0 D cA sz (fun z M1 => M = M1 ∧ 0 ≤ z ∧ z ≤ 65535)) 0 0 (fun q => n0 ≤ q) := by
  refine gMet_of [.ref (cA (200 + 19)), gJ 0] (by decide) (Nat.le_of_ble_eq_true rfl) ?_
  intro p e s m args below meth cd X hr hm
  have X : gCx p s m args meth cd n0 D cA "java/lang/StringLatin1" cJ_l1c 2 := X
  refine g_iload_n (n := 1) X 1 dJ_l1c_0 rfl rfl rfl ?_
  refine g_aload_n (n := 2) X 0 dJ_l1c_1 rfl rfl rfl ?_
  refine g_strLen (n := 3) (z := 5) X 19 rfl (by decide +kernel) dJ_l1c_2 rfl ?_
  refine g_callSv (n := 6) (As := [gJ 0, gJ 5]) (rest := []) (cs1 := 0) (ss1 := 0) X (c_J_chk 0 5 (by omega) (by omega) (by omega)) okJ_chk kw_4_16 kw_4_17 ⟨rfl, rfl⟩ ⟨Nat.le_of_ble_eq_true rfl, Nat.le_of_ble_eq_true rfl⟩ rfl rfl (Nat.le_of_ble_eq_true rfl) ⟨Nat.le_of_ble_eq_true rfl, Nat.le_of_ble_eq_true rfl⟩ rfl rfl dJ_l1c_3 rfl (fun M1 hP => ?_)
  obtain rfl := hP
  refine g_aload_n (n := 7) X 0 dJ_l1c_6 rfl rfl rfl ?_
  refine g_iload_n (n := 8) X 1 dJ_l1c_7 rfl rfl rfl ?_
  refine g_strByt (n := 9) (z := 102) X 19 rfl (by omega) (by decide +kernel) (by decide +kernel) (by decide +kernel) dJ_l1c_8 rfl ?_
  refine g_sipush (n := 12) X dJ_l1c_9 (by decide +kernel) rfl ?_
  refine g_iandE (n := 13) (z := 102) X dJ_l1c_12 (by decide +kernel) rfl ?_
  refine g_i2cA (n := 14) X dJ_l1c_13 rfl (fun z rz nz => ?_)
  exact g_nreturn X nz hr dJ_l1c_14 ⟨rfl, rz.1, rz.2⟩
set_option maxHeartbeats 1000000 in
theorem c_J_l1c_20 {l : Launch} {n0 : Nat} {D : va_G} {cA : Nat → ClassId} {M : gM} {sz : Nat}  : Met l yJ_l1c (gWsOf yJ_l1c cJ_l1c 2 (Option.some Jvm.ClassFile.FieldType.char)) { frames := 2, cells := 0, slots := 0, locals := 43 } (gPc n0 D cA [.ref (cA (200 + 20)), gJ 0] M sz) (gQi n0 D cA sz (fun z M1 => M = M1 ∧ 0 ≤ z ∧ z ≤ 65535)) 0 0 (fun q => n0 ≤ q) := by
  refine gMet_of [.ref (cA (200 + 20)), gJ 0] (by decide) (Nat.le_of_ble_eq_true rfl) ?_
  intro p e s m args below meth cd X hr hm
  have X : gCx p s m args meth cd n0 D cA "java/lang/StringLatin1" cJ_l1c 2 := X
  refine g_iload_n (n := 1) X 1 dJ_l1c_0 rfl rfl rfl ?_
  refine g_aload_n (n := 2) X 0 dJ_l1c_1 rfl rfl rfl ?_
  refine g_strLen (n := 3) (z := 5) X 20 rfl (by decide +kernel) dJ_l1c_2 rfl ?_
  refine g_callSv (n := 6) (As := [gJ 0, gJ 5]) (rest := []) (cs1 := 0) (ss1 := 0) X (c_J_chk 0 5 (by omega) (by omega) (by omega)) okJ_chk kw_4_16 kw_4_17 ⟨rfl, rfl⟩ ⟨Nat.le_of_ble_eq_true rfl, Nat.le_of_ble_eq_true rfl⟩ rfl rfl (Nat.le_of_ble_eq_true rfl) ⟨Nat.le_of_ble_eq_true rfl, Nat.le_of_ble_eq_true rfl⟩ rfl rfl dJ_l1c_3 rfl (fun M1 hP => ?_)
  obtain rfl := hP
  refine g_aload_n (n := 7) X 0 dJ_l1c_6 rfl rfl rfl ?_
  refine g_iload_n (n := 8) X 1 dJ_l1c_7 rfl rfl rfl ?_
  refine g_strByt (n := 9) (z := 98) X 20 rfl (by omega) (by decide +kernel) (by decide +kernel) (by decide +kernel) dJ_l1c_8 rfl ?_
  refine g_sipush (n := 12) X dJ_l1c_9 (by decide +kernel) rfl ?_
  refine g_iandE (n := 13) (z := 98) X dJ_l1c_12 (by decide +kernel) rfl ?_
  refine g_i2cA (n := 14) X dJ_l1c_13 rfl (fun z rz nz => ?_)
  exact g_nreturn X nz hr dJ_l1c_14 ⟨rfl, rz.1, rz.2⟩
set_option maxHeartbeats 1000000 in
theorem c_J_l1c_21 {l : Launch} {n0 : Nat} {D : va_G} {cA : Nat → ClassId} {M : gM} {sz : Nat}  : Met l yJ_l1c (gWsOf yJ_l1c cJ_l1c 2 (Option.some Jvm.ClassFile.FieldType.char)) { frames := 2, cells := 0, slots := 0, locals := 43 } (gPc n0 D cA [.ref (cA (200 + 21)), gJ 0] M sz) (gQi n0 D cA sz (fun z M1 => M = M1 ∧ 0 ≤ z ∧ z ≤ 65535)) 0 0 (fun q => n0 ≤ q) := by
  refine gMet_of [.ref (cA (200 + 21)), gJ 0] (by decide) (Nat.le_of_ble_eq_true rfl) ?_
  intro p e s m args below meth cd X hr hm
  have X : gCx p s m args meth cd n0 D cA "java/lang/StringLatin1" cJ_l1c 2 := X
  refine g_iload_n (n := 1) X 1 dJ_l1c_0 rfl rfl rfl ?_
  refine g_aload_n (n := 2) X 0 dJ_l1c_1 rfl rfl rfl ?_
  refine g_strLen (n := 3) (z := 4) X 21 rfl (by decide +kernel) dJ_l1c_2 rfl ?_
  refine g_callSv (n := 6) (As := [gJ 0, gJ 4]) (rest := []) (cs1 := 0) (ss1 := 0) X (c_J_chk 0 4 (by omega) (by omega) (by omega)) okJ_chk kw_4_16 kw_4_17 ⟨rfl, rfl⟩ ⟨Nat.le_of_ble_eq_true rfl, Nat.le_of_ble_eq_true rfl⟩ rfl rfl (Nat.le_of_ble_eq_true rfl) ⟨Nat.le_of_ble_eq_true rfl, Nat.le_of_ble_eq_true rfl⟩ rfl rfl dJ_l1c_3 rfl (fun M1 hP => ?_)
  obtain rfl := hP
  refine g_aload_n (n := 7) X 0 dJ_l1c_6 rfl rfl rfl ?_
  refine g_iload_n (n := 8) X 1 dJ_l1c_7 rfl rfl rfl ?_
  refine g_strByt (n := 9) (z := 119) X 21 rfl (by omega) (by decide +kernel) (by decide +kernel) (by decide +kernel) dJ_l1c_8 rfl ?_
  refine g_sipush (n := 12) X dJ_l1c_9 (by decide +kernel) rfl ?_
  refine g_iandE (n := 13) (z := 119) X dJ_l1c_12 (by decide +kernel) rfl ?_
  refine g_i2cA (n := 14) X dJ_l1c_13 rfl (fun z rz nz => ?_)
  exact g_nreturn X nz hr dJ_l1c_14 ⟨rfl, rz.1, rz.2⟩
set_option maxHeartbeats 1000000 in
theorem c_J_l1c_22 {l : Launch} {n0 : Nat} {D : va_G} {cA : Nat → ClassId} {M : gM} {sz : Nat}  : Met l yJ_l1c (gWsOf yJ_l1c cJ_l1c 2 (Option.some Jvm.ClassFile.FieldType.char)) { frames := 2, cells := 0, slots := 0, locals := 43 } (gPc n0 D cA [.ref (cA (200 + 22)), gJ 0] M sz) (gQi n0 D cA sz (fun z M1 => M = M1 ∧ 0 ≤ z ∧ z ≤ 65535)) 0 0 (fun q => n0 ≤ q) := by
  refine gMet_of [.ref (cA (200 + 22)), gJ 0] (by decide) (Nat.le_of_ble_eq_true rfl) ?_
  intro p e s m args below meth cd X hr hm
  have X : gCx p s m args meth cd n0 D cA "java/lang/StringLatin1" cJ_l1c 2 := X
  refine g_iload_n (n := 1) X 1 dJ_l1c_0 rfl rfl rfl ?_
  refine g_aload_n (n := 2) X 0 dJ_l1c_1 rfl rfl rfl ?_
  refine g_strLen (n := 3) (z := 4) X 22 rfl (by decide +kernel) dJ_l1c_2 rfl ?_
  refine g_callSv (n := 6) (As := [gJ 0, gJ 4]) (rest := []) (cs1 := 0) (ss1 := 0) X (c_J_chk 0 4 (by omega) (by omega) (by omega)) okJ_chk kw_4_16 kw_4_17 ⟨rfl, rfl⟩ ⟨Nat.le_of_ble_eq_true rfl, Nat.le_of_ble_eq_true rfl⟩ rfl rfl (Nat.le_of_ble_eq_true rfl) ⟨Nat.le_of_ble_eq_true rfl, Nat.le_of_ble_eq_true rfl⟩ rfl rfl dJ_l1c_3 rfl (fun M1 hP => ?_)
  obtain rfl := hP
  refine g_aload_n (n := 7) X 0 dJ_l1c_6 rfl rfl rfl ?_
  refine g_iload_n (n := 8) X 1 dJ_l1c_7 rfl rfl rfl ?_
  refine g_strByt (n := 9) (z := 107) X 22 rfl (by omega) (by decide +kernel) (by decide +kernel) (by decide +kernel) dJ_l1c_8 rfl ?_
  refine g_sipush (n := 12) X dJ_l1c_9 (by decide +kernel) rfl ?_
  refine g_iandE (n := 13) (z := 107) X dJ_l1c_12 (by decide +kernel) rfl ?_
  refine g_i2cA (n := 14) X dJ_l1c_13 rfl (fun z rz nz => ?_)
  exact g_nreturn X nz hr dJ_l1c_14 ⟨rfl, rz.1, rz.2⟩
set_option maxHeartbeats 1000000 in
theorem c_J_l1c_23 {l : Launch} {n0 : Nat} {D : va_G} {cA : Nat → ClassId} {M : gM} {sz : Nat}  : Met l yJ_l1c (gWsOf yJ_l1c cJ_l1c 2 (Option.some Jvm.ClassFile.FieldType.char)) { frames := 2, cells := 0, slots := 0, locals := 43 } (gPc n0 D cA [.ref (cA (200 + 23)), gJ 0] M sz) (gQi n0 D cA sz (fun z M1 => M = M1 ∧ 0 ≤ z ∧ z ≤ 65535)) 0 0 (fun q => n0 ≤ q) := by
  refine gMet_of [.ref (cA (200 + 23)), gJ 0] (by decide) (Nat.le_of_ble_eq_true rfl) ?_
  intro p e s m args below meth cd X hr hm
  have X : gCx p s m args meth cd n0 D cA "java/lang/StringLatin1" cJ_l1c 2 := X
  refine g_iload_n (n := 1) X 1 dJ_l1c_0 rfl rfl rfl ?_
  refine g_aload_n (n := 2) X 0 dJ_l1c_1 rfl rfl rfl ?_
  refine g_strLen (n := 3) (z := 6) X 23 rfl (by decide +kernel) dJ_l1c_2 rfl ?_
  refine g_callSv (n := 6) (As := [gJ 0, gJ 6]) (rest := []) (cs1 := 0) (ss1 := 0) X (c_J_chk 0 6 (by omega) (by omega) (by omega)) okJ_chk kw_4_16 kw_4_17 ⟨rfl, rfl⟩ ⟨Nat.le_of_ble_eq_true rfl, Nat.le_of_ble_eq_true rfl⟩ rfl rfl (Nat.le_of_ble_eq_true rfl) ⟨Nat.le_of_ble_eq_true rfl, Nat.le_of_ble_eq_true rfl⟩ rfl rfl dJ_l1c_3 rfl (fun M1 hP => ?_)
  obtain rfl := hP
  refine g_aload_n (n := 7) X 0 dJ_l1c_6 rfl rfl rfl ?_
  refine g_iload_n (n := 8) X 1 dJ_l1c_7 rfl rfl rfl ?_
  refine g_strByt (n := 9) (z := 115) X 23 rfl (by omega) (by decide +kernel) (by decide +kernel) (by decide +kernel) dJ_l1c_8 rfl ?_
  refine g_sipush (n := 12) X dJ_l1c_9 (by decide +kernel) rfl ?_
  refine g_iandE (n := 13) (z := 115) X dJ_l1c_12 (by decide +kernel) rfl ?_
  refine g_i2cA (n := 14) X dJ_l1c_13 rfl (fun z rz nz => ?_)
  exact g_nreturn X nz hr dJ_l1c_14 ⟨rfl, rz.1, rz.2⟩
set_option maxHeartbeats 1000000 in
theorem c_J_l1c_24 {l : Launch} {n0 : Nat} {D : va_G} {cA : Nat → ClassId} {M : gM} {sz : Nat}  : Met l yJ_l1c (gWsOf yJ_l1c cJ_l1c 2 (Option.some Jvm.ClassFile.FieldType.char)) { frames := 2, cells := 0, slots := 0, locals := 43 } (gPc n0 D cA [.ref (cA (200 + 24)), gJ 0] M sz) (gQi n0 D cA sz (fun z M1 => M = M1 ∧ 0 ≤ z ∧ z ≤ 65535)) 0 0 (fun q => n0 ≤ q) := by
  refine gMet_of [.ref (cA (200 + 24)), gJ 0] (by decide) (Nat.le_of_ble_eq_true rfl) ?_
  intro p e s m args below meth cd X hr hm
  have X : gCx p s m args meth cd n0 D cA "java/lang/StringLatin1" cJ_l1c 2 := X
  refine g_iload_n (n := 1) X 1 dJ_l1c_0 rfl rfl rfl ?_
  refine g_aload_n (n := 2) X 0 dJ_l1c_1 rfl rfl rfl ?_
  refine g_strLen (n := 3) (z := 5) X 24 rfl (by decide +kernel) dJ_l1c_2 rfl ?_
  refine g_callSv (n := 6) (As := [gJ 0, gJ 5]) (rest := []) (cs1 := 0) (ss1 := 0) X (c_J_chk 0 5 (by omega) (by omega) (by omega)) okJ_chk kw_4_16 kw_4_17 ⟨rfl, rfl⟩ ⟨Nat.le_of_ble_eq_true rfl, Nat.le_of_ble_eq_true rfl⟩ rfl rfl (Nat.le_of_ble_eq_true rfl) ⟨Nat.le_of_ble_eq_true rfl, Nat.le_of_ble_eq_true rfl⟩ rfl rfl dJ_l1c_3 rfl (fun M1 hP => ?_)
  obtain rfl := hP
  refine g_aload_n (n := 7) X 0 dJ_l1c_6 rfl rfl rfl ?_
  refine g_iload_n (n := 8) X 1 dJ_l1c_7 rfl rfl rfl ?_
  refine g_strByt (n := 9) (z := 103) X 24 rfl (by omega) (by decide +kernel) (by decide +kernel) (by decide +kernel) dJ_l1c_8 rfl ?_
  refine g_sipush (n := 12) X dJ_l1c_9 (by decide +kernel) rfl ?_
  refine g_iandE (n := 13) (z := 103) X dJ_l1c_12 (by decide +kernel) rfl ?_
  refine g_i2cA (n := 14) X dJ_l1c_13 rfl (fun z rz nz => ?_)
  exact g_nreturn X nz hr dJ_l1c_14 ⟨rfl, rz.1, rz.2⟩
set_option maxHeartbeats 1000000 in
theorem c_J_l1c_25 {l : Launch} {n0 : Nat} {D : va_G} {cA : Nat → ClassId} {M : gM} {sz : Nat}  : Met l yJ_l1c (gWsOf yJ_l1c cJ_l1c 2 (Option.some Jvm.ClassFile.FieldType.char)) { frames := 2, cells := 0, slots := 0, locals := 43 } (gPc n0 D cA [.ref (cA (200 + 25)), gJ 0] M sz) (gQi n0 D cA sz (fun z M1 => M = M1 ∧ 0 ≤ z ∧ z ≤ 65535)) 0 0 (fun q => n0 ≤ q) := by
  refine gMet_of [.ref (cA (200 + 25)), gJ 0] (by decide) (Nat.le_of_ble_eq_true rfl) ?_
  intro p e s m args below meth cd X hr hm
  have X : gCx p s m args meth cd n0 D cA "java/lang/StringLatin1" cJ_l1c 2 := X
  refine g_iload_n (n := 1) X 1 dJ_l1c_0 rfl rfl rfl ?_
  refine g_aload_n (n := 2) X 0 dJ_l1c_1 rfl rfl rfl ?_
  refine g_strLen (n := 3) (z := 5) X 25 rfl (by decide +kernel) dJ_l1c_2 rfl ?_
  refine g_callSv (n := 6) (As := [gJ 0, gJ 5]) (rest := []) (cs1 := 0) (ss1 := 0) X (c_J_chk 0 5 (by omega) (by omega) (by omega)) okJ_chk kw_4_16 kw_4_17 ⟨rfl, rfl⟩ ⟨Nat.le_of_ble_eq_true rfl, Nat.le_of_ble_eq_true rfl⟩ rfl rfl (Nat.le_of_ble_eq_true rfl) ⟨Nat.le_of_ble_eq_true rfl, Nat.le_of_ble_eq_true rfl⟩ rfl rfl dJ_l1c_3 rfl (fun M1 hP => ?_)
  obtain rfl := hP
  refine g_aload_n (n := 7) X 0 dJ_l1c_6 rfl rfl rfl ?_
  refine g_iload_n (n := 8) X 1 dJ_l1c_7 rfl rfl rfl ?_
  refine g_strByt (n := 9) (z := 119) X 25 rfl (by omega) (by decide +kernel) (by decide +kernel) (by decide +kernel) dJ_l1c_8 rfl ?_
  refine g_sipush (n := 12) X dJ_l1c_9 (by decide +kernel) rfl ?_
  refine g_iandE (n := 13) (z := 119) X dJ_l1c_12 (by decide +kernel) rfl ?_
  refine g_i2cA (n := 14) X dJ_l1c_13 rfl (fun z rz nz => ?_)
  exact g_nreturn X nz hr dJ_l1c_14 ⟨rfl, rz.1, rz.2⟩
theorem kw_4_15 : (Jvm.Cond.code ({ cls := "java/lang/StringLatin1", name := "charAt", desc := "([BI)C" } : Jvm.MethodName) prog_18_method_2_code (2 : Nat) (Option.some Jvm.ClassFile.FieldType.char)) ∈ gT := gT_of (tb_4 _ (List.mem_of_getElem? (i := 15) rfl)) rfl
theorem kw_1_18 : (Jvm.Cond.initialized "java/lang/StringLatin1") ∈ gT := gT_of (tb_1 _ (List.mem_of_getElem? (i := 18) rfl)) rfl
theorem okJ_l1c : gQok yJ_l1c cJ_l1c 2 (Option.some Jvm.ClassFile.FieldType.char) 2 := ⟨kw_4_15, kw_1_18, by decide +kernel, by decide +kernel, by decide +kernel⟩
theorem kw_4_9 : (Jvm.Cond.methodLink "java/lang/String" (492 : Nat) ({ cls := "java/lang/String", name := "isLatin1", desc := "()Z" } : Jvm.MethodName)) ∈ gT := gT_of (tb_4 _ (List.mem_of_getElem? (i := 9) rfl)) rfl
theorem kw_4_10 : (Jvm.Cond.instanceMethod ({ cls := "java/lang/String", name := "isLatin1", desc := "()Z" } : Jvm.MethodName)) ∈ gT := gT_of (tb_4 _ (List.mem_of_getElem? (i := 10) rfl)) rfl
theorem kw_4_11 : (Jvm.Cond.selects "java/lang/String" ({ cls := "java/lang/String", name := "isLatin1", desc := "()Z" } : Jvm.MethodName) ({ cls := "java/lang/String", name := "isLatin1", desc := "()Z" } : Jvm.MethodName)) ∈ gT := gT_of (tb_4 _ (List.mem_of_getElem? (i := 11) rfl)) rfl
theorem kw_4_13 : (Jvm.Cond.methodLink "java/lang/String" (495 : Nat) ({ cls := "java/lang/StringLatin1", name := "charAt", desc := "([BI)C" } : Jvm.MethodName)) ∈ gT := gT_of (tb_4 _ (List.mem_of_getElem? (i := 13) rfl)) rfl
theorem kw_4_14 : (Jvm.Cond.static ({ cls := "java/lang/StringLatin1", name := "charAt", desc := "([BI)C" } : Jvm.MethodName)) ∈ gT := gT_of (tb_4 _ (List.mem_of_getElem? (i := 14) rfl)) rfl
theorem dJ_chr_0 : decode cJ_chr 0 = .ok (.aload_n 0, 1) := by decide +kernel
theorem dJ_chr_1 : decode cJ_chr 1 = .ok (.invokevirtual 492, 3) := by decide +kernel
theorem dJ_chr_4 : decode cJ_chr 4 = .ok (.ifCond .eq 12, 3) := by decide +kernel
theorem dJ_chr_7 : decode cJ_chr 7 = .ok (.aload_n 0, 1) := by decide +kernel
theorem dJ_chr_8 : decode cJ_chr 8 = .ok (.getfield 9, 3) := by decide +kernel
theorem dJ_chr_11 : decode cJ_chr 11 = .ok (.iload_n 1, 1) := by decide +kernel
theorem dJ_chr_12 : decode cJ_chr 12 = .ok (.invokestatic 495, 3) := by decide +kernel
theorem dJ_chr_15 : decode cJ_chr 15 = .ok (.ireturn, 1) := by decide +kernel
set_option maxHeartbeats 1000000 in
theorem c_J_chr_16 {l : Launch} {n0 : Nat} {D : va_G} {cA : Nat → ClassId} {M : gM} {sz : Nat}  : Met l yJ_chr (gWsOf yJ_chr cJ_chr 2 (Option.some Jvm.ClassFile.FieldType.char)) { frames := 3, cells := 0, slots := 0, locals := 64 } (gPc n0 D cA [.ref (cA (100 + 16)), gJ 0] M sz) (gQi n0 D cA sz (fun z M1 => M = M1 ∧ 0 ≤ z ∧ z ≤ 65535)) 0 0 (fun q => n0 ≤ q) := by
  refine gMet_of [.ref (cA (100 + 16)), gJ 0] (by decide) (Nat.le_of_ble_eq_true rfl) ?_
  intro p e s m args below meth cd X hr hm
  have X : gCx p s m args meth cd n0 D cA "java/lang/String" cJ_chr 2 := X
  refine g_aload_n (n := 1) X 0 dJ_chr_0 rfl rfl rfl ?_
  refine g_callSt (n := 4) (As := []) (rest := []) (cs1 := 0) (ss1 := 0) X 16 rfl (c_J_lat 16 rfl) okJ_lat kw_4_9 ⟨kw_4_10, kw_4_11⟩ ⟨rfl, rfl⟩ ⟨Nat.le_of_ble_eq_true rfl, Nat.le_of_ble_eq_true rfl⟩ rfl rfl (Nat.le_of_ble_eq_true rfl) ⟨Nat.le_of_ble_eq_true rfl, Nat.le_of_ble_eq_true rfl⟩ rfl rfl dJ_chr_1 rfl (fun z M1 hP => ?_)
  obtain ⟨rfl, rfl⟩ := hP
  refine g_if_eq (n := 7) (tgt := 16) X dJ_chr_4 (by decide) (by omega) rfl (fun h => by exfalso; omega) (fun h => ?_)
  refine g_aload_n (n := 8) X 0 dJ_chr_7 rfl rfl rfl ?_
  refine g_strVal (n := 11) X 16 rfl kw_8_54 rfl dJ_chr_8 rfl ?_
  refine g_iload_n (n := 12) X 1 dJ_chr_11 rfl rfl rfl ?_
  refine g_callSi (n := 15) (As := [.ref (cA (200 + 16)), gJ 0]) (rest := []) (cs1 := 0) (ss1 := 0) X c_J_l1c_16 okJ_l1c kw_4_13 kw_4_14 ⟨rfl, rfl⟩ ⟨Nat.le_of_ble_eq_true rfl, Nat.le_of_ble_eq_true rfl⟩ rfl rfl (Nat.le_of_ble_eq_true rfl) ⟨Nat.le_of_ble_eq_true rfl, Nat.le_of_ble_eq_true rfl⟩ rfl rfl dJ_chr_12 rfl (fun z M1 hP => ?_)
  obtain ⟨rfl, hz0, hz1⟩ := hP
  exact g_nreturn X (by have h := (pk_charN (q := z.toNat) (by omega)).1; rw [show nI z.toNat = Int32.ofInt z by rw [← Int32.toInt_inj, nI_toInt (by omega), gi_toInt ⟨by omega, by omega⟩]; omega] at h; exact h) hr dJ_chr_15 ⟨rfl, hz0, hz1⟩
set_option maxHeartbeats 1000000 in
theorem c_J_chr_17 {l : Launch} {n0 : Nat} {D : va_G} {cA : Nat → ClassId} {M : gM} {sz : Nat}  : Met l yJ_chr (gWsOf yJ_chr cJ_chr 2 (Option.some Jvm.ClassFile.FieldType.char)) { frames := 3, cells := 0, slots := 0, locals := 64 } (gPc n0 D cA [.ref (cA (100 + 17)), gJ 0] M sz) (gQi n0 D cA sz (fun z M1 => M = M1 ∧ 0 ≤ z ∧ z ≤ 65535)) 0 0 (fun q => n0 ≤ q) := by
  refine gMet_of [.ref (cA (100 + 17)), gJ 0] (by decide) (Nat.le_of_ble_eq_true rfl) ?_
  intro p e s m args below meth cd X hr hm
  have X : gCx p s m args meth cd n0 D cA "java/lang/String" cJ_chr 2 := X
  refine g_aload_n (n := 1) X 0 dJ_chr_0 rfl rfl rfl ?_
  refine g_callSt (n := 4) (As := []) (rest := []) (cs1 := 0) (ss1 := 0) X 17 rfl (c_J_lat 17 rfl) okJ_lat kw_4_9 ⟨kw_4_10, kw_4_11⟩ ⟨rfl, rfl⟩ ⟨Nat.le_of_ble_eq_true rfl, Nat.le_of_ble_eq_true rfl⟩ rfl rfl (Nat.le_of_ble_eq_true rfl) ⟨Nat.le_of_ble_eq_true rfl, Nat.le_of_ble_eq_true rfl⟩ rfl rfl dJ_chr_1 rfl (fun z M1 hP => ?_)
  obtain ⟨rfl, rfl⟩ := hP
  refine g_if_eq (n := 7) (tgt := 16) X dJ_chr_4 (by decide) (by omega) rfl (fun h => by exfalso; omega) (fun h => ?_)
  refine g_aload_n (n := 8) X 0 dJ_chr_7 rfl rfl rfl ?_
  refine g_strVal (n := 11) X 17 rfl kw_8_54 rfl dJ_chr_8 rfl ?_
  refine g_iload_n (n := 12) X 1 dJ_chr_11 rfl rfl rfl ?_
  refine g_callSi (n := 15) (As := [.ref (cA (200 + 17)), gJ 0]) (rest := []) (cs1 := 0) (ss1 := 0) X c_J_l1c_17 okJ_l1c kw_4_13 kw_4_14 ⟨rfl, rfl⟩ ⟨Nat.le_of_ble_eq_true rfl, Nat.le_of_ble_eq_true rfl⟩ rfl rfl (Nat.le_of_ble_eq_true rfl) ⟨Nat.le_of_ble_eq_true rfl, Nat.le_of_ble_eq_true rfl⟩ rfl rfl dJ_chr_12 rfl (fun z M1 hP => ?_)
  obtain ⟨rfl, hz0, hz1⟩ := hP
  exact g_nreturn X (by have h := (pk_charN (q := z.toNat) (by omega)).1; rw [show nI z.toNat = Int32.ofInt z by rw [← Int32.toInt_inj, nI_toInt (by omega), gi_toInt ⟨by omega, by omega⟩]; omega] at h; exact h) hr dJ_chr_15 ⟨rfl, hz0, hz1⟩
set_option maxHeartbeats 1000000 in
theorem c_J_chr_18 {l : Launch} {n0 : Nat} {D : va_G} {cA : Nat → ClassId} {M : gM} {sz : Nat}  : Met l yJ_chr (gWsOf yJ_chr cJ_chr 2 (Option.some Jvm.ClassFile.FieldType.char)) { frames := 3, cells := 0, slots := 0, locals := 64 } (gPc n0 D cA [.ref (cA (100 + 18)), gJ 0] M sz) (gQi n0 D cA sz (fun z M1 => M = M1 ∧ 0 ≤ z ∧ z ≤ 65535)) 0 0 (fun q => n0 ≤ q) := by
  refine gMet_of [.ref (cA (100 + 18)), gJ 0] (by decide) (Nat.le_of_ble_eq_true rfl) ?_
  intro p e s m args below meth cd X hr hm
  have X : gCx p s m args meth cd n0 D cA "java/lang/String" cJ_chr 2 := X
  refine g_aload_n (n := 1) X 0 dJ_chr_0 rfl rfl rfl ?_
  refine g_callSt (n := 4) (As := []) (rest := []) (cs1 := 0) (ss1 := 0) X 18 rfl (c_J_lat 18 rfl) okJ_lat kw_4_9 ⟨kw_4_10, kw_4_11⟩ ⟨rfl, rfl⟩ ⟨Nat.le_of_ble_eq_true rfl, Nat.le_of_ble_eq_true rfl⟩ rfl rfl (Nat.le_of_ble_eq_true rfl) ⟨Nat.le_of_ble_eq_true rfl, Nat.le_of_ble_eq_true rfl⟩ rfl rfl dJ_chr_1 rfl (fun z M1 hP => ?_)
  obtain ⟨rfl, rfl⟩ := hP
  refine g_if_eq (n := 7) (tgt := 16) X dJ_chr_4 (by decide) (by omega) rfl (fun h => by exfalso; omega) (fun h => ?_)
  refine g_aload_n (n := 8) X 0 dJ_chr_7 rfl rfl rfl ?_
  refine g_strVal (n := 11) X 18 rfl kw_8_54 rfl dJ_chr_8 rfl ?_
  refine g_iload_n (n := 12) X 1 dJ_chr_11 rfl rfl rfl ?_
  refine g_callSi (n := 15) (As := [.ref (cA (200 + 18)), gJ 0]) (rest := []) (cs1 := 0) (ss1 := 0) X c_J_l1c_18 okJ_l1c kw_4_13 kw_4_14 ⟨rfl, rfl⟩ ⟨Nat.le_of_ble_eq_true rfl, Nat.le_of_ble_eq_true rfl⟩ rfl rfl (Nat.le_of_ble_eq_true rfl) ⟨Nat.le_of_ble_eq_true rfl, Nat.le_of_ble_eq_true rfl⟩ rfl rfl dJ_chr_12 rfl (fun z M1 hP => ?_)
  obtain ⟨rfl, hz0, hz1⟩ := hP
  exact g_nreturn X (by have h := (pk_charN (q := z.toNat) (by omega)).1; rw [show nI z.toNat = Int32.ofInt z by rw [← Int32.toInt_inj, nI_toInt (by omega), gi_toInt ⟨by omega, by omega⟩]; omega] at h; exact h) hr dJ_chr_15 ⟨rfl, hz0, hz1⟩
set_option maxHeartbeats 1000000 in
theorem c_J_chr_19 {l : Launch} {n0 : Nat} {D : va_G} {cA : Nat → ClassId} {M : gM} {sz : Nat}  : Met l yJ_chr (gWsOf yJ_chr cJ_chr 2 (Option.some Jvm.ClassFile.FieldType.char)) { frames := 3, cells := 0, slots := 0, locals := 64 } (gPc n0 D cA [.ref (cA (100 + 19)), gJ 0] M sz) (gQi n0 D cA sz (fun z M1 => M = M1 ∧ 0 ≤ z ∧ z ≤ 65535)) 0 0 (fun q => n0 ≤ q) := by
  refine gMet_of [.ref (cA (100 + 19)), gJ 0] (by decide) (Nat.le_of_ble_eq_true rfl) ?_
  intro p e s m args below meth cd X hr hm
  have X : gCx p s m args meth cd n0 D cA "java/lang/String" cJ_chr 2 := X
  refine g_aload_n (n := 1) X 0 dJ_chr_0 rfl rfl rfl ?_
  refine g_callSt (n := 4) (As := []) (rest := []) (cs1 := 0) (ss1 := 0) X 19 rfl (c_J_lat 19 rfl) okJ_lat kw_4_9 ⟨kw_4_10, kw_4_11⟩ ⟨rfl, rfl⟩ ⟨Nat.le_of_ble_eq_true rfl, Nat.le_of_ble_eq_true rfl⟩ rfl rfl (Nat.le_of_ble_eq_true rfl) ⟨Nat.le_of_ble_eq_true rfl, Nat.le_of_ble_eq_true rfl⟩ rfl rfl dJ_chr_1 rfl (fun z M1 hP => ?_)
  obtain ⟨rfl, rfl⟩ := hP
  refine g_if_eq (n := 7) (tgt := 16) X dJ_chr_4 (by decide) (by omega) rfl (fun h => by exfalso; omega) (fun h => ?_)
  refine g_aload_n (n := 8) X 0 dJ_chr_7 rfl rfl rfl ?_
  refine g_strVal (n := 11) X 19 rfl kw_8_54 rfl dJ_chr_8 rfl ?_
  refine g_iload_n (n := 12) X 1 dJ_chr_11 rfl rfl rfl ?_
  refine g_callSi (n := 15) (As := [.ref (cA (200 + 19)), gJ 0]) (rest := []) (cs1 := 0) (ss1 := 0) X c_J_l1c_19 okJ_l1c kw_4_13 kw_4_14 ⟨rfl, rfl⟩ ⟨Nat.le_of_ble_eq_true rfl, Nat.le_of_ble_eq_true rfl⟩ rfl rfl (Nat.le_of_ble_eq_true rfl) ⟨Nat.le_of_ble_eq_true rfl, Nat.le_of_ble_eq_true rfl⟩ rfl rfl dJ_chr_12 rfl (fun z M1 hP => ?_)
  obtain ⟨rfl, hz0, hz1⟩ := hP
  exact g_nreturn X (by have h := (pk_charN (q := z.toNat) (by omega)).1; rw [show nI z.toNat = Int32.ofInt z by rw [← Int32.toInt_inj, nI_toInt (by omega), gi_toInt ⟨by omega, by omega⟩]; omega] at h; exact h) hr dJ_chr_15 ⟨rfl, hz0, hz1⟩
set_option maxHeartbeats 1000000 in
theorem c_J_chr_20 {l : Launch} {n0 : Nat} {D : va_G} {cA : Nat → ClassId} {M : gM} {sz : Nat}  : Met l yJ_chr (gWsOf yJ_chr cJ_chr 2 (Option.some Jvm.ClassFile.FieldType.char)) { frames := 3, cells := 0, slots := 0, locals := 64 } (gPc n0 D cA [.ref (cA (100 + 20)), gJ 0] M sz) (gQi n0 D cA sz (fun z M1 => M = M1 ∧ 0 ≤ z ∧ z ≤ 65535)) 0 0 (fun q => n0 ≤ q) := by
  refine gMet_of [.ref (cA (100 + 20)), gJ 0] (by decide) (Nat.le_of_ble_eq_true rfl) ?_
  intro p e s m args below meth cd X hr hm
  have X : gCx p s m args meth cd n0 D cA "java/lang/String" cJ_chr 2 := X
  refine g_aload_n (n := 1) X 0 dJ_chr_0 rfl rfl rfl ?_
  refine g_callSt (n := 4) (As := []) (rest := []) (cs1 := 0) (ss1 := 0) X 20 rfl (c_J_lat 20 rfl) okJ_lat kw_4_9 ⟨kw_4_10, kw_4_11⟩ ⟨rfl, rfl⟩ ⟨Nat.le_of_ble_eq_true rfl, Nat.le_of_ble_eq_true rfl⟩ rfl rfl (Nat.le_of_ble_eq_true rfl) ⟨Nat.le_of_ble_eq_true rfl, Nat.le_of_ble_eq_true rfl⟩ rfl rfl dJ_chr_1 rfl (fun z M1 hP => ?_)
  obtain ⟨rfl, rfl⟩ := hP
  refine g_if_eq (n := 7) (tgt := 16) X dJ_chr_4 (by decide) (by omega) rfl (fun h => by exfalso; omega) (fun h => ?_)
  refine g_aload_n (n := 8) X 0 dJ_chr_7 rfl rfl rfl ?_
  refine g_strVal (n := 11) X 20 rfl kw_8_54 rfl dJ_chr_8 rfl ?_
  refine g_iload_n (n := 12) X 1 dJ_chr_11 rfl rfl rfl ?_
  refine g_callSi (n := 15) (As := [.ref (cA (200 + 20)), gJ 0]) (rest := []) (cs1 := 0) (ss1 := 0) X c_J_l1c_20 okJ_l1c kw_4_13 kw_4_14 ⟨rfl, rfl⟩ ⟨Nat.le_of_ble_eq_true rfl, Nat.le_of_ble_eq_true rfl⟩ rfl rfl (Nat.le_of_ble_eq_true rfl) ⟨Nat.le_of_ble_eq_true rfl, Nat.le_of_ble_eq_true rfl⟩ rfl rfl dJ_chr_12 rfl (fun z M1 hP => ?_)
  obtain ⟨rfl, hz0, hz1⟩ := hP
  exact g_nreturn X (by have h := (pk_charN (q := z.toNat) (by omega)).1; rw [show nI z.toNat = Int32.ofInt z by rw [← Int32.toInt_inj, nI_toInt (by omega), gi_toInt ⟨by omega, by omega⟩]; omega] at h; exact h) hr dJ_chr_15 ⟨rfl, hz0, hz1⟩
set_option maxHeartbeats 1000000 in
theorem c_J_chr_21 {l : Launch} {n0 : Nat} {D : va_G} {cA : Nat → ClassId} {M : gM} {sz : Nat}  : Met l yJ_chr (gWsOf yJ_chr cJ_chr 2 (Option.some Jvm.ClassFile.FieldType.char)) { frames := 3, cells := 0, slots := 0, locals := 64 } (gPc n0 D cA [.ref (cA (100 + 21)), gJ 0] M sz) (gQi n0 D cA sz (fun z M1 => M = M1 ∧ 0 ≤ z ∧ z ≤ 65535)) 0 0 (fun q => n0 ≤ q) := by
  refine gMet_of [.ref (cA (100 + 21)), gJ 0] (by decide) (Nat.le_of_ble_eq_true rfl) ?_
  intro p e s m args below meth cd X hr hm
  have X : gCx p s m args meth cd n0 D cA "java/lang/String" cJ_chr 2 := X
  refine g_aload_n (n := 1) X 0 dJ_chr_0 rfl rfl rfl ?_
  refine g_callSt (n := 4) (As := []) (rest := []) (cs1 := 0) (ss1 := 0) X 21 rfl (c_J_lat 21 rfl) okJ_lat kw_4_9 ⟨kw_4_10, kw_4_11⟩ ⟨rfl, rfl⟩ ⟨Nat.le_of_ble_eq_true rfl, Nat.le_of_ble_eq_true rfl⟩ rfl rfl (Nat.le_of_ble_eq_true rfl) ⟨Nat.le_of_ble_eq_true rfl, Nat.le_of_ble_eq_true rfl⟩ rfl rfl dJ_chr_1 rfl (fun z M1 hP => ?_)
  obtain ⟨rfl, rfl⟩ := hP
  refine g_if_eq (n := 7) (tgt := 16) X dJ_chr_4 (by decide) (by omega) rfl (fun h => by exfalso; omega) (fun h => ?_)
  refine g_aload_n (n := 8) X 0 dJ_chr_7 rfl rfl rfl ?_
  refine g_strVal (n := 11) X 21 rfl kw_8_54 rfl dJ_chr_8 rfl ?_
  refine g_iload_n (n := 12) X 1 dJ_chr_11 rfl rfl rfl ?_
  refine g_callSi (n := 15) (As := [.ref (cA (200 + 21)), gJ 0]) (rest := []) (cs1 := 0) (ss1 := 0) X c_J_l1c_21 okJ_l1c kw_4_13 kw_4_14 ⟨rfl, rfl⟩ ⟨Nat.le_of_ble_eq_true rfl, Nat.le_of_ble_eq_true rfl⟩ rfl rfl (Nat.le_of_ble_eq_true rfl) ⟨Nat.le_of_ble_eq_true rfl, Nat.le_of_ble_eq_true rfl⟩ rfl rfl dJ_chr_12 rfl (fun z M1 hP => ?_)
  obtain ⟨rfl, hz0, hz1⟩ := hP
  exact g_nreturn X (by have h := (pk_charN (q := z.toNat) (by omega)).1; rw [show nI z.toNat = Int32.ofInt z by rw [← Int32.toInt_inj, nI_toInt (by omega), gi_toInt ⟨by omega, by omega⟩]; omega] at h; exact h) hr dJ_chr_15 ⟨rfl, hz0, hz1⟩
set_option maxHeartbeats 1000000 in
theorem c_J_chr_22 {l : Launch} {n0 : Nat} {D : va_G} {cA : Nat → ClassId} {M : gM} {sz : Nat}  : Met l yJ_chr (gWsOf yJ_chr cJ_chr 2 (Option.some Jvm.ClassFile.FieldType.char)) { frames := 3, cells := 0, slots := 0, locals := 64 } (gPc n0 D cA [.ref (cA (100 + 22)), gJ 0] M sz) (gQi n0 D cA sz (fun z M1 => M = M1 ∧ 0 ≤ z ∧ z ≤ 65535)) 0 0 (fun q => n0 ≤ q) := by
  refine gMet_of [.ref (cA (100 + 22)), gJ 0] (by decide) (Nat.le_of_ble_eq_true rfl) ?_
  intro p e s m args below meth cd X hr hm
  have X : gCx p s m args meth cd n0 D cA "java/lang/String" cJ_chr 2 := X
  refine g_aload_n (n := 1) X 0 dJ_chr_0 rfl rfl rfl ?_
  refine g_callSt (n := 4) (As := []) (rest := []) (cs1 := 0) (ss1 := 0) X 22 rfl (c_J_lat 22 rfl) okJ_lat kw_4_9 ⟨kw_4_10, kw_4_11⟩ ⟨rfl, rfl⟩ ⟨Nat.le_of_ble_eq_true rfl, Nat.le_of_ble_eq_true rfl⟩ rfl rfl (Nat.le_of_ble_eq_true rfl) ⟨Nat.le_of_ble_eq_true rfl, Nat.le_of_ble_eq_true rfl⟩ rfl rfl dJ_chr_1 rfl (fun z M1 hP => ?_)
  obtain ⟨rfl, rfl⟩ := hP
  refine g_if_eq (n := 7) (tgt := 16) X dJ_chr_4 (by decide) (by omega) rfl (fun h => by exfalso; omega) (fun h => ?_)
  refine g_aload_n (n := 8) X 0 dJ_chr_7 rfl rfl rfl ?_
  refine g_strVal (n := 11) X 22 rfl kw_8_54 rfl dJ_chr_8 rfl ?_
  refine g_iload_n (n := 12) X 1 dJ_chr_11 rfl rfl rfl ?_
  refine g_callSi (n := 15) (As := [.ref (cA (200 + 22)), gJ 0]) (rest := []) (cs1 := 0) (ss1 := 0) X c_J_l1c_22 okJ_l1c kw_4_13 kw_4_14 ⟨rfl, rfl⟩ ⟨Nat.le_of_ble_eq_true rfl, Nat.le_of_ble_eq_true rfl⟩ rfl rfl (Nat.le_of_ble_eq_true rfl) ⟨Nat.le_of_ble_eq_true rfl, Nat.le_of_ble_eq_true rfl⟩ rfl rfl dJ_chr_12 rfl (fun z M1 hP => ?_)
  obtain ⟨rfl, hz0, hz1⟩ := hP
  exact g_nreturn X (by have h := (pk_charN (q := z.toNat) (by omega)).1; rw [show nI z.toNat = Int32.ofInt z by rw [← Int32.toInt_inj, nI_toInt (by omega), gi_toInt ⟨by omega, by omega⟩]; omega] at h; exact h) hr dJ_chr_15 ⟨rfl, hz0, hz1⟩
set_option maxHeartbeats 1000000 in
theorem c_J_chr_23 {l : Launch} {n0 : Nat} {D : va_G} {cA : Nat → ClassId} {M : gM} {sz : Nat}  : Met l yJ_chr (gWsOf yJ_chr cJ_chr 2 (Option.some Jvm.ClassFile.FieldType.char)) { frames := 3, cells := 0, slots := 0, locals := 64 } (gPc n0 D cA [.ref (cA (100 + 23)), gJ 0] M sz) (gQi n0 D cA sz (fun z M1 => M = M1 ∧ 0 ≤ z ∧ z ≤ 65535)) 0 0 (fun q => n0 ≤ q) := by
  refine gMet_of [.ref (cA (100 + 23)), gJ 0] (by decide) (Nat.le_of_ble_eq_true rfl) ?_
  intro p e s m args below meth cd X hr hm
  have X : gCx p s m args meth cd n0 D cA "java/lang/String" cJ_chr 2 := X
  refine g_aload_n (n := 1) X 0 dJ_chr_0 rfl rfl rfl ?_
  refine g_callSt (n := 4) (As := []) (rest := []) (cs1 := 0) (ss1 := 0) X 23 rfl (c_J_lat 23 rfl) okJ_lat kw_4_9 ⟨kw_4_10, kw_4_11⟩ ⟨rfl, rfl⟩ ⟨Nat.le_of_ble_eq_true rfl, Nat.le_of_ble_eq_true rfl⟩ rfl rfl (Nat.le_of_ble_eq_true rfl) ⟨Nat.le_of_ble_eq_true rfl, Nat.le_of_ble_eq_true rfl⟩ rfl rfl dJ_chr_1 rfl (fun z M1 hP => ?_)
  obtain ⟨rfl, rfl⟩ := hP
  refine g_if_eq (n := 7) (tgt := 16) X dJ_chr_4 (by decide) (by omega) rfl (fun h => by exfalso; omega) (fun h => ?_)
  refine g_aload_n (n := 8) X 0 dJ_chr_7 rfl rfl rfl ?_
  refine g_strVal (n := 11) X 23 rfl kw_8_54 rfl dJ_chr_8 rfl ?_
  refine g_iload_n (n := 12) X 1 dJ_chr_11 rfl rfl rfl ?_
  refine g_callSi (n := 15) (As := [.ref (cA (200 + 23)), gJ 0]) (rest := []) (cs1 := 0) (ss1 := 0) X c_J_l1c_23 okJ_l1c kw_4_13 kw_4_14 ⟨rfl, rfl⟩ ⟨Nat.le_of_ble_eq_true rfl, Nat.le_of_ble_eq_true rfl⟩ rfl rfl (Nat.le_of_ble_eq_true rfl) ⟨Nat.le_of_ble_eq_true rfl, Nat.le_of_ble_eq_true rfl⟩ rfl rfl dJ_chr_12 rfl (fun z M1 hP => ?_)
  obtain ⟨rfl, hz0, hz1⟩ := hP
  exact g_nreturn X (by have h := (pk_charN (q := z.toNat) (by omega)).1; rw [show nI z.toNat = Int32.ofInt z by rw [← Int32.toInt_inj, nI_toInt (by omega), gi_toInt ⟨by omega, by omega⟩]; omega] at h; exact h) hr dJ_chr_15 ⟨rfl, hz0, hz1⟩
set_option maxHeartbeats 1000000 in
theorem c_J_chr_24 {l : Launch} {n0 : Nat} {D : va_G} {cA : Nat → ClassId} {M : gM} {sz : Nat}  : Met l yJ_chr (gWsOf yJ_chr cJ_chr 2 (Option.some Jvm.ClassFile.FieldType.char)) { frames := 3, cells := 0, slots := 0, locals := 64 } (gPc n0 D cA [.ref (cA (100 + 24)), gJ 0] M sz) (gQi n0 D cA sz (fun z M1 => M = M1 ∧ 0 ≤ z ∧ z ≤ 65535)) 0 0 (fun q => n0 ≤ q) := by
  refine gMet_of [.ref (cA (100 + 24)), gJ 0] (by decide) (Nat.le_of_ble_eq_true rfl) ?_
  intro p e s m args below meth cd X hr hm
  have X : gCx p s m args meth cd n0 D cA "java/lang/String" cJ_chr 2 := X
  refine g_aload_n (n := 1) X 0 dJ_chr_0 rfl rfl rfl ?_
  refine g_callSt (n := 4) (As := []) (rest := []) (cs1 := 0) (ss1 := 0) X 24 rfl (c_J_lat 24 rfl) okJ_lat kw_4_9 ⟨kw_4_10, kw_4_11⟩ ⟨rfl, rfl⟩ ⟨Nat.le_of_ble_eq_true rfl, Nat.le_of_ble_eq_true rfl⟩ rfl rfl (Nat.le_of_ble_eq_true rfl) ⟨Nat.le_of_ble_eq_true rfl, Nat.le_of_ble_eq_true rfl⟩ rfl rfl dJ_chr_1 rfl (fun z M1 hP => ?_)
  obtain ⟨rfl, rfl⟩ := hP
  refine g_if_eq (n := 7) (tgt := 16) X dJ_chr_4 (by decide) (by omega) rfl (fun h => by exfalso; omega) (fun h => ?_)
  refine g_aload_n (n := 8) X 0 dJ_chr_7 rfl rfl rfl ?_
  refine g_strVal (n := 11) X 24 rfl kw_8_54 rfl dJ_chr_8 rfl ?_
  refine g_iload_n (n := 12) X 1 dJ_chr_11 rfl rfl rfl ?_
  refine g_callSi (n := 15) (As := [.ref (cA (200 + 24)), gJ 0]) (rest := []) (cs1 := 0) (ss1 := 0) X c_J_l1c_24 okJ_l1c kw_4_13 kw_4_14 ⟨rfl, rfl⟩ ⟨Nat.le_of_ble_eq_true rfl, Nat.le_of_ble_eq_true rfl⟩ rfl rfl (Nat.le_of_ble_eq_true rfl) ⟨Nat.le_of_ble_eq_true rfl, Nat.le_of_ble_eq_true rfl⟩ rfl rfl dJ_chr_12 rfl (fun z M1 hP => ?_)
  obtain ⟨rfl, hz0, hz1⟩ := hP
  exact g_nreturn X (by have h := (pk_charN (q := z.toNat) (by omega)).1; rw [show nI z.toNat = Int32.ofInt z by rw [← Int32.toInt_inj, nI_toInt (by omega), gi_toInt ⟨by omega, by omega⟩]; omega] at h; exact h) hr dJ_chr_15 ⟨rfl, hz0, hz1⟩
set_option maxHeartbeats 1000000 in
theorem c_J_chr_25 {l : Launch} {n0 : Nat} {D : va_G} {cA : Nat → ClassId} {M : gM} {sz : Nat}  : Met l yJ_chr (gWsOf yJ_chr cJ_chr 2 (Option.some Jvm.ClassFile.FieldType.char)) { frames := 3, cells := 0, slots := 0, locals := 64 } (gPc n0 D cA [.ref (cA (100 + 25)), gJ 0] M sz) (gQi n0 D cA sz (fun z M1 => M = M1 ∧ 0 ≤ z ∧ z ≤ 65535)) 0 0 (fun q => n0 ≤ q) := by
  refine gMet_of [.ref (cA (100 + 25)), gJ 0] (by decide) (Nat.le_of_ble_eq_true rfl) ?_
  intro p e s m args below meth cd X hr hm
  have X : gCx p s m args meth cd n0 D cA "java/lang/String" cJ_chr 2 := X
  refine g_aload_n (n := 1) X 0 dJ_chr_0 rfl rfl rfl ?_
  refine g_callSt (n := 4) (As := []) (rest := []) (cs1 := 0) (ss1 := 0) X 25 rfl (c_J_lat 25 rfl) okJ_lat kw_4_9 ⟨kw_4_10, kw_4_11⟩ ⟨rfl, rfl⟩ ⟨Nat.le_of_ble_eq_true rfl, Nat.le_of_ble_eq_true rfl⟩ rfl rfl (Nat.le_of_ble_eq_true rfl) ⟨Nat.le_of_ble_eq_true rfl, Nat.le_of_ble_eq_true rfl⟩ rfl rfl dJ_chr_1 rfl (fun z M1 hP => ?_)
  obtain ⟨rfl, rfl⟩ := hP
  refine g_if_eq (n := 7) (tgt := 16) X dJ_chr_4 (by decide) (by omega) rfl (fun h => by exfalso; omega) (fun h => ?_)
  refine g_aload_n (n := 8) X 0 dJ_chr_7 rfl rfl rfl ?_
  refine g_strVal (n := 11) X 25 rfl kw_8_54 rfl dJ_chr_8 rfl ?_
  refine g_iload_n (n := 12) X 1 dJ_chr_11 rfl rfl rfl ?_
  refine g_callSi (n := 15) (As := [.ref (cA (200 + 25)), gJ 0]) (rest := []) (cs1 := 0) (ss1 := 0) X c_J_l1c_25 okJ_l1c kw_4_13 kw_4_14 ⟨rfl, rfl⟩ ⟨Nat.le_of_ble_eq_true rfl, Nat.le_of_ble_eq_true rfl⟩ rfl rfl (Nat.le_of_ble_eq_true rfl) ⟨Nat.le_of_ble_eq_true rfl, Nat.le_of_ble_eq_true rfl⟩ rfl rfl dJ_chr_12 rfl (fun z M1 hP => ?_)
  obtain ⟨rfl, hz0, hz1⟩ := hP
  exact g_nreturn X (by have h := (pk_charN (q := z.toNat) (by omega)).1; rw [show nI z.toNat = Int32.ofInt z by rw [← Int32.toInt_inj, nI_toInt (by omega), gi_toInt ⟨by omega, by omega⟩]; omega] at h; exact h) hr dJ_chr_15 ⟨rfl, hz0, hz1⟩
theorem kw_4_8 : (Jvm.Cond.code ({ cls := "java/lang/String", name := "charAt", desc := "(I)C" } : Jvm.MethodName) prog_17_method_56_code (2 : Nat) (Option.some Jvm.ClassFile.FieldType.char)) ∈ gT := gT_of (tb_4 _ (List.mem_of_getElem? (i := 8) rfl)) rfl
theorem okJ_chr : gQok yJ_chr cJ_chr 2 (Option.some Jvm.ClassFile.FieldType.char) 1 := ⟨kw_4_8, kw_1_17, by decide +kernel, by decide +kernel, by decide +kernel⟩
