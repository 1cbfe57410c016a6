def yJ_bit : MethodName := ⟨"java/lang/Integer", "bitCount", "(I)I"⟩
abbrev cJ_bit : ByteArray := prog_15_method_49_code
def yJ_len : MethodName := ⟨"java/lang/String", "length", "()I"⟩
abbrev cJ_len : ByteArray := prog_17_method_54_code
def yJ_cod : MethodName := ⟨"java/lang/String", "coder", "()B"⟩
abbrev cJ_cod : ByteArray := prog_17_method_152_code
def yJ_lat : MethodName := ⟨"java/lang/String", "isLatin1", "()Z"⟩
abbrev cJ_lat : ByteArray := prog_17_method_154_code
def yJ_chr : MethodName := ⟨"java/lang/String", "charAt", "(I)C"⟩
abbrev cJ_chr : ByteArray := prog_17_method_56_code
def yJ_l1c : MethodName := ⟨"java/lang/StringLatin1", "charAt", "([BI)C"⟩
abbrev cJ_l1c : ByteArray := prog_18_method_2_code
def yJ_chk : MethodName := ⟨"java/lang/String", "checkIndex", "(II)V"⟩
abbrev cJ_chk : ByteArray := prog_17_method_155_code
def yJ_pre : MethodName := ⟨"jdk/internal/util/Preconditions", "checkIndex", "(IILjava/util/function/BiFunction;)I"⟩
abbrev cJ_pre : ByteArray := prog_21_method_11_code
theorem kw_4_3 : (Jvm.Cond.fieldLink "java/lang/String" (38 : Nat) "java/lang/String" "COMPACT_STRINGS" "Z") ∈ gT := gT_of (tb_4 _ (List.mem_of_getElem? (i := 3) rfl)) rfl
theorem kw_8_55 : (Jvm.Cond.fieldLink "java/lang/String" (15 : Nat) "java/lang/String" "coder" "B") ∈ gT := gT_of (tb_8 _ (List.mem_of_getElem? (i := 55) rfl)) rfl
theorem dJ_cod_0 : decode cJ_cod 0 = .ok (.getstatic 38, 3) := dc_178 0 38 (by decide +kernel)
theorem dJ_cod_3 : decode cJ_cod 3 = .ok (.ifCond .eq 10, 3) := dc_153 0 10 10 (by decide +kernel)
theorem dJ_cod_6 : decode cJ_cod 6 = .ok (.aload_n 0, 1) := dc_42 (by decide +kernel)
theorem dJ_cod_7 : decode cJ_cod 7 = .ok (.getfield 15, 3) := dc_180 0 15 (by decide +kernel)
theorem dJ_cod_10 : decode cJ_cod 10 = .ok (.goto 4, 3) := dc_167 0 4 4 (by decide +kernel)
theorem dJ_cod_14 : decode cJ_cod 14 = .ok (.ireturn, 1) := dc_172 (by decide +kernel)
set_option maxHeartbeats 1000000 in
theorem c_J_cod {l : Launch} {n0 : Nat} {D : va_G} {cA : Nat → ClassId} {M : gM} {sz : Nat} (i : Nat) {q : String × Nat × String × List Int32} (hq : gSO[i]? = some q) : Met l yJ_cod (gWsOf yJ_cod cJ_cod 1 (Option.some Jvm.ClassFile.FieldType.byte)) { frames := 0, cells := 0, slots := 0, locals := 0 } (gPc n0 D cA [.ref (cA (100 + i))] M sz) (gQi n0 D cA sz (fun z M1 => M = M1 ∧ z = 0)) 0 0 (fun q => n0 ≤ q) := by
  refine gMet_of [.ref (cA (100 + i))] (by decide) (Nat.le_of_ble_eq_true rfl) ?_
  intro p e s m args below meth cd X hr hm
  have X : gCx p s m args meth cd n0 D cA "java/lang/String" cJ_cod 1 := X
  refine g_getsCS (n := 3) X kw_4_3 rfl dJ_cod_0 rfl ?_
  refine g_if_eq (n := 6) (tgt := 13) X dJ_cod_3 (by decide) (by omega) rfl (fun h => by exfalso; omega) (fun h => ?_)
  refine g_aload_n (n := 7) X 0 dJ_cod_6 rfl rfl rfl ?_
  refine g_strCod (n := 10) X i hq kw_8_55 rfl dJ_cod_7 rfl ?_
  refine g_goto (tgt := 14) X dJ_cod_10 (by decide) ?_
  exact g_nreturn X (by decide +kernel) hr dJ_cod_14 ⟨rfl, rfl⟩
theorem kw_4_2 : (Jvm.Cond.code ({ cls := "java/lang/String", name := "coder", desc := "()B" } : Jvm.MethodName) prog_17_method_152_code (1 : Nat) (Option.some Jvm.ClassFile.FieldType.byte)) ∈ gT := gT_of (tb_4 _ (List.mem_of_getElem? (i := 2) rfl)) rfl
theorem kw_1_17 : (Jvm.Cond.initialized "java/lang/String") ∈ gT := gT_of (tb_1 _ (List.mem_of_getElem? (i := 17) rfl)) rfl
theorem okJ_cod : gQok yJ_cod cJ_cod 1 (Option.some Jvm.ClassFile.FieldType.byte) 0 := ⟨kw_4_2, kw_1_17, by decide +kernel, by decide +kernel, by decide +kernel⟩
theorem dJ_lat_0 : decode cJ_lat 0 = .ok (.getstatic 38, 3) := dc_178 0 38 (by decide +kernel)
theorem dJ_lat_3 : decode cJ_lat 3 = .ok (.ifCond .eq 14, 3) := dc_153 0 14 14 (by decide +kernel)
theorem dJ_lat_6 : decode cJ_lat 6 = .ok (.aload_n 0, 1) := dc_42 (by decide +kernel)
theorem dJ_lat_7 : decode cJ_lat 7 = .ok (.getfield 15, 3) := dc_180 0 15 (by decide +kernel)
theorem dJ_lat_10 : decode cJ_lat 10 = .ok (.ifCond .ne 7, 3) := dc_154 0 7 7 (by decide +kernel)
theorem dJ_lat_13 : decode cJ_lat 13 = .ok (.iconst 1, 1) := dc_4 (by decide +kernel)
theorem dJ_lat_14 : decode cJ_lat 14 = .ok (.goto 4, 3) := dc_167 0 4 4 (by decide +kernel)
theorem dJ_lat_18 : decode cJ_lat 18 = .ok (.ireturn, 1) := dc_172 (by decide +kernel)
set_option maxHeartbeats 1000000 in
theorem c_J_lat {l : Launch} {n0 : Nat} {D : va_G} {cA : Nat → ClassId} {M : gM} {sz : Nat} (i : Nat) {q : String × Nat × String × List Int32} (hq : gSO[i]? = some q) : Met l yJ_lat (gWsOf yJ_lat cJ_lat 1 (Option.some Jvm.ClassFile.FieldType.boolean)) { frames := 0, cells := 0, slots := 0, locals := 0 } (gPc n0 D cA [.ref (cA (100 + i))] M sz) (gQi n0 D cA sz (fun z M1 => M = M1 ∧ z = 1)) 0 0 (fun q => n0 ≤ q) := by
  refine gMet_of [.ref (cA (100 + i))] (by decide) (Nat.le_of_ble_eq_true rfl) ?_
  intro p e s m args below meth cd X hr hm
  have X : gCx p s m args meth cd n0 D cA "java/lang/String" cJ_lat 1 := X
  refine g_getsCS (n := 3) X kw_4_3 rfl dJ_lat_0 rfl ?_
  refine g_if_eq (n := 6) (tgt := 17) X dJ_lat_3 (by decide) (by omega) rfl (fun h => by exfalso; omega) (fun h => ?_)
  refine g_aload_n (n := 7) X 0 dJ_lat_6 rfl rfl rfl ?_
  refine g_strCod (n := 10) X i hq kw_8_55 rfl dJ_lat_7 rfl ?_
  refine g_if_ne (n := 13) (tgt := 17) X dJ_lat_10 (by decide) (by omega) rfl (fun h => by exfalso; omega) (fun h => ?_)
  refine g_iconst (n := 14) X dJ_lat_13 rfl ?_
  refine g_goto (tgt := 18) X dJ_lat_14 (by decide) ?_
  exact g_zreturn X (by omega) hr dJ_lat_18 ⟨rfl, rfl⟩
theorem kw_4_12 : (Jvm.Cond.code ({ cls := "java/lang/String", name := "isLatin1", desc := "()Z" } : Jvm.MethodName) prog_17_method_154_code (1 : Nat) (Option.some Jvm.ClassFile.FieldType.boolean)) ∈ gT := gT_of (tb_4 _ (List.mem_of_getElem? (i := 12) rfl)) rfl
theorem okJ_lat : gQok yJ_lat cJ_lat 1 (Option.some Jvm.ClassFile.FieldType.boolean) 0 := ⟨kw_4_12, kw_1_17, by decide +kernel, by decide +kernel, by decide +kernel⟩
theorem g_getsSG {p : Program} {l : Launch} {e : Env} {R : Room} {s : State} {m : MethodId} {args : Array Value} {below : List Frame} {meth : Method} {c : Code} {n0 : Nat} {D : va_G} {cA : Nat → ClassId} {nL : Nat} {Q : State → Prop} {cells slots : Nat} {M : gM} {sz pc n : Nat} {L : List (Nat × Value)} {st : List Value} {own : String} {cc : ByteArray} (X : gCx p s m args meth c n0 D cA own cc nL) {index : Nat} {ref : String} (hw : Cond.fieldLink own index ref "SIOOBE_FORMATTER" "Ljava/util/function/BiFunction;" ∈ gT) (href : ref = "jdk/internal/util/Preconditions") (hd : decode cc pc = .ok (.getstatic index, 3)) (hn : pc + 3 = n) (kk : ∀ v : Value, (v = .null ∨ ∃ a : Nat, v = .ref a) → G p l e R s m args below meth c n0 D cA nL Q cells slots M sz n L (v :: st)) : G p l e R s m args below meth c n0 D cA nL Q cells slots M sz pc L st := by
  subst hn; subst href
  intro H locs ls hl hW hS
  obtain ⟨v, hv, hZ⟩ := X.2.2.2.2.2.2.2.2.2.2
  exact va_gets X.1 X.2.1 hZ hS X.2.2.2.1 (X.2.2.2.2.1 _ hw) (fun x hx => hx) hd (kk v (hv.elim .inl (fun h => .inr h)) H locs ls hl hW hS)
theorem g_ldcw {p : Program} {l : Launch} {e : Env} {R : Room} {s : State} {m : MethodId} {args : Array Value} {below : List Frame} {meth : Method} {c : Code} {n0 : Nat} {D : va_G} {cA : Nat → ClassId} {nL : Nat} {Q : State → Prop} {cells slots : Nat} {M : gM} {sz pc n : Nat} {L : List (Nat × Value)} {st : List Value} {own : String} {cc : ByteArray} (X : gCx p s m args meth c n0 D cA own cc nL) {index : Nat} {v : Int32} {z : Int} (hd : decode cc pc = .ok (.ldc_w index, 3)) (hw : Cond.constant own index v ∈ gT) (hv : Int32.ofInt z = v) (hn : pc + 3 = n) (kk : G p l e R s m args below meth c n0 D cA nL Q cells slots M sz n L (gJ z :: st)) : G p l e R s m args below meth c n0 D cA nL Q cells slots M sz pc L st := by
  subst hn; subst hv
  exact fun H locs ls hl hW hS => lv_ldcw X.1 X.2.1 X.2.2.2.1 (X.2.2.2.2.1 _ hw) hd (kk H locs ls hl hW hS)
theorem dJ_pre_0 : decode cJ_pre 0 = .ok (.iload_n 0, 1) := dc_26 (by decide +kernel)
theorem dJ_pre_1 : decode cJ_pre 1 = .ok (.ifCond .lt 8, 3) := dc_155 0 8 8 (by decide +kernel)
theorem dJ_pre_4 : decode cJ_pre 4 = .ok (.iload_n 0, 1) := dc_26 (by decide +kernel)
theorem dJ_pre_5 : decode cJ_pre 5 = .ok (.iload_n 1, 1) := dc_27 (by decide +kernel)
theorem dJ_pre_6 : decode cJ_pre 6 = .ok (.if_icmp .lt 10, 3) := dc_161 0 10 10 (by decide +kernel)
theorem dJ_pre_16 : decode cJ_pre 16 = .ok (.iload_n 0, 1) := dc_26 (by decide +kernel)
theorem dJ_pre_17 : decode cJ_pre 17 = .ok (.ireturn, 1) := dc_172 (by decide +kernel)
set_option maxHeartbeats 1000000 in
theorem c_J_pre_r {l : Launch} {n0 : Nat} {D : va_G} {cA : Nat → ClassId} {M : gM} {sz : Nat} (a b : Int) (r : Nat) (h0 : 0 ≤ a) (h1 : a < b) (h2 : b ≤ 2147483647) : Met l yJ_pre (gWsOf yJ_pre cJ_pre 3 (Option.some Jvm.ClassFile.FieldType.int)) { frames := 0, cells := 0, slots := 0, locals := 0 } (gPc n0 D cA [gJ a, gJ b, .ref r] M sz) (gQi n0 D cA sz (fun z M1 => M = M1)) 0 0 (fun q => n0 ≤ q) := by
  refine gMet_of [gJ a, gJ b, .ref r] (by decide) (Nat.le_of_ble_eq_true rfl) ?_
  intro p e s m args below meth cd X hr hm
  have X : gCx p s m args meth cd n0 D cA "jdk/internal/util/Preconditions" cJ_pre 3 := X
  refine g_iload_n (n := 1) X 0 dJ_pre_0 rfl rfl rfl ?_
  refine g_if_lt (n := 4) (tgt := 9) X dJ_pre_1 (by decide) (by omega) rfl (fun h => by exfalso; omega) (fun h => ?_)
  refine g_iload_n (n := 5) X 0 dJ_pre_4 rfl rfl rfl ?_
  refine g_iload_n (n := 6) X 1 dJ_pre_5 rfl rfl rfl ?_
  refine g_icmp_lt (n := 9) (tgt := 16) X dJ_pre_6 (by decide) (by omega) (by omega) rfl (fun h => ?_) (fun h => by exfalso; omega)
  refine g_iload_n (n := 17) X 0 dJ_pre_16 rfl rfl rfl ?_
  exact g_ireturn X hr dJ_pre_17 rfl
set_option maxHeartbeats 1000000 in
theorem c_J_pre_n {l : Launch} {n0 : Nat} {D : va_G} {cA : Nat → ClassId} {M : gM} {sz : Nat} (a b : Int) (h0 : 0 ≤ a) (h1 : a < b) (h2 : b ≤ 2147483647) : Met l yJ_pre (gWsOf yJ_pre cJ_pre 3 (Option.some Jvm.ClassFile.FieldType.int)) { frames := 0, cells := 0, slots := 0, locals := 0 } (gPc n0 D cA [gJ a, gJ b, .null] M sz) (gQi n0 D cA sz (fun z M1 => M = M1)) 0 0 (fun q => n0 ≤ q) := by
  refine gMet_of [gJ a, gJ b, .null] (by decide) (Nat.le_of_ble_eq_true rfl) ?_
  intro p e s m args below meth cd X hr hm
  have X : gCx p s m args meth cd n0 D cA "jdk/internal/util/Preconditions" cJ_pre 3 := X
  refine g_iload_n (n := 1) X 0 dJ_pre_0 rfl rfl rfl ?_
  refine g_if_lt (n := 4) (tgt := 9) X dJ_pre_1 (by decide) (by omega) rfl (fun h => by exfalso; omega) (fun h => ?_)
  refine g_iload_n (n := 5) X 0 dJ_pre_4 rfl rfl rfl ?_
  refine g_iload_n (n := 6) X 1 dJ_pre_5 rfl rfl rfl ?_
  refine g_icmp_lt (n := 9) (tgt := 16) X dJ_pre_6 (by decide) (by omega) (by omega) rfl (fun h => ?_) (fun h => by exfalso; omega)
  refine g_iload_n (n := 17) X 0 dJ_pre_16 rfl rfl rfl ?_
  exact g_ireturn X hr dJ_pre_17 rfl
theorem kw_4_23 : (Jvm.Cond.code ({ cls := "jdk/internal/util/Preconditions", name := "checkIndex", desc := "(IILjava/util/function/BiFunction;)I" } : Jvm.MethodName) prog_21_method_11_code (3 : Nat) (Option.some Jvm.ClassFile.FieldType.int)) ∈ gT := gT_of (tb_4 _ (List.mem_of_getElem? (i := 23) rfl)) rfl
theorem kw_1_19 : (Jvm.Cond.initialized "jdk/internal/util/Preconditions") ∈ gT := gT_of (tb_1 _ (List.mem_of_getElem? (i := 19) rfl)) rfl
theorem okJ_pre : gQok yJ_pre cJ_pre 3 (Option.some Jvm.ClassFile.FieldType.int) 3 := ⟨kw_4_23, kw_1_19, by decide +kernel, by decide +kernel, by decide +kernel⟩
theorem kw_4_19 : (Jvm.Cond.fieldLink "java/lang/String" (1053 : Nat) "jdk/internal/util/Preconditions" "SIOOBE_FORMATTER" "Ljava/util/function/BiFunction;") ∈ gT := gT_of (tb_4 _ (List.mem_of_getElem? (i := 19) rfl)) rfl
theorem kw_4_21 : (Jvm.Cond.methodLink "java/lang/String" (1059 : Nat) ({ cls := "jdk/internal/util/Preconditions", name := "checkIndex", desc := "(IILjava/util/function/BiFunction;)I" } : Jvm.MethodName)) ∈ gT := gT_of (tb_4 _ (List.mem_of_getElem? (i := 21) rfl)) rfl
theorem kw_4_22 : (Jvm.Cond.static ({ cls := "jdk/internal/util/Preconditions", name := "checkIndex", desc := "(IILjava/util/function/BiFunction;)I" } : Jvm.MethodName)) ∈ gT := gT_of (tb_4 _ (List.mem_of_getElem? (i := 22) rfl)) rfl
theorem dJ_chk_8 : decode cJ_chk 8 = .ok (.pop, 1) := dc_87 (by decide +kernel)
theorem dJ_chk_9 : decode cJ_chk 9 = .ok (.return_, 1) := dc_177 (by decide +kernel)
theorem dJ_chk_0 : decode cJ_chk 0 = .ok (.iload_n 0, 1) := dc_26 (by decide +kernel)
theorem dJ_chk_1 : decode cJ_chk 1 = .ok (.iload_n 1, 1) := dc_27 (by decide +kernel)
theorem dJ_chk_2 : decode cJ_chk 2 = .ok (.getstatic 1053, 3) := dc_178 4 29 (by decide +kernel)
theorem dJ_chk_5 : decode cJ_chk 5 = .ok (.invokestatic 1059, 3) := dc_184 4 35 (by decide +kernel)
set_option maxHeartbeats 1000000 in
theorem c_J_chk {l : Launch} {n0 : Nat} {D : va_G} {cA : Nat → ClassId} {M : gM} {sz : Nat} (a b : Int) (h0 : 0 ≤ a) (h1 : a < b) (h2 : b ≤ 2147483647) : Met l yJ_chk (gWsOf yJ_chk cJ_chk 2 (Option.none : Option Jvm.ClassFile.FieldType)) { frames := 1, cells := 0, slots := 0, locals := 22 } (gPc n0 D cA [gJ a, gJ b] M sz) (gQv n0 D cA sz (fun M1 => M = M1)) 0 0 (fun q => n0 ≤ q) := by
  refine gMet_of [gJ a, gJ b] (by decide) (Nat.le_of_ble_eq_true rfl) ?_
  intro p e s m args below meth cd X hr hm
  have X : gCx p s m args meth cd n0 D cA "java/lang/String" cJ_chk 2 := X
  refine g_iload_n (n := 1) X 0 dJ_chk_0 rfl rfl rfl ?_
  refine g_iload_n (n := 2) X 1 dJ_chk_1 rfl rfl rfl ?_
  refine g_getsSG (n := 5) X kw_4_19 rfl dJ_chk_2 rfl (fun v hv => ?_)
  rcases hv with rfl | ⟨r, rfl⟩
  · refine g_callSi (n := 8) (As := [gJ a, gJ b, .null]) (rest := []) (cs1 := 0) (ss1 := 0) X (c_J_pre_n a b h0 h1 h2) okJ_pre kw_4_21 kw_4_22 ⟨rfl, rfl⟩ ⟨Nat.le_of_ble_eq_true rfl, Nat.le_of_ble_eq_true rfl⟩ rfl rfl (Nat.le_of_ble_eq_true rfl) ⟨Nat.le_of_ble_eq_true rfl, Nat.le_of_ble_eq_true rfl⟩ rfl rfl dJ_chk_5 rfl (fun z M1 hP => ?_)
    obtain rfl := hP
    refine g_pop (n := 9) X dJ_chk_8 rfl rfl ?_
    exact g_return X hr dJ_chk_9 rfl
  · refine g_callSi (n := 8) (As := [gJ a, gJ b, .ref r]) (rest := []) (cs1 := 0) (ss1 := 0) X (c_J_pre_r a b r h0 h1 h2) okJ_pre kw_4_21 kw_4_22 ⟨rfl, rfl⟩ ⟨Nat.le_of_ble_eq_true rfl, Nat.le_of_ble_eq_true rfl⟩ rfl rfl (Nat.le_of_ble_eq_true rfl) ⟨Nat.le_of_ble_eq_true rfl, Nat.le_of_ble_eq_true rfl⟩ rfl rfl dJ_chk_5 rfl (fun z M1 hP => ?_)
    obtain rfl := hP
    refine g_pop (n := 9) X dJ_chk_8 rfl rfl ?_
    exact g_return X hr dJ_chk_9 rfl
theorem kw_4_18 : (Jvm.Cond.code ({ cls := "java/lang/String", name := "checkIndex", desc := "(II)V" } : Jvm.MethodName) prog_17_method_155_code (2 : Nat) (Option.none : Option Jvm.ClassFile.FieldType)) ∈ gT := gT_of (tb_4 _ (List.mem_of_getElem? (i := 18) rfl)) rfl
theorem okJ_chk : gQok yJ_chk cJ_chk 2 (Option.none : Option Jvm.ClassFile.FieldType) 2 := ⟨kw_4_18, kw_1_17, by decide +kernel, by decide +kernel, by decide +kernel⟩
def gStr (z : Int) : List Int32 := (gSO.getD z.toNat ("", 0, "", [])).2.2.2
def gSL (z : Int) : Int := ((gStr z).length : Int)
def gSC (z k : Int) : Int := ((gStr z).getD k.toNat 0).toInt
theorem gSO_len {i : Nat} {q : String × Nat × String × List Int32} (hq : gSO[i]? = some q) : q.2.2.2.length ≤ 10 := (by decide +kernel : ∀ q ∈ gSO, q.2.2.2.length ≤ 10) q (List.mem_of_getElem? hq)
theorem gSO_chr {i : Nat} {q : String × Nat × String × List Int32} (hq : gSO[i]? = some q) (k : Nat) : 0 ≤ (q.2.2.2.getD k 0).toInt ∧ (q.2.2.2.getD k 0).toInt ≤ 127 := by
  have h : ∀ c ∈ q.2.2.2, 0 ≤ c.toInt ∧ c.toInt ≤ 127 := (by decide +kernel : ∀ q ∈ gSO, ∀ c ∈ q.2.2.2, 0 ≤ c.toInt ∧ c.toInt ≤ 127) q (List.mem_of_getElem? hq)
  rw [List.getD_eq_getElem?_getD]
  cases hk : q.2.2.2[k]? with
  | none => exact (by decide +kernel : 0 ≤ ((none : Option Int32).getD 0).toInt ∧ ((none : Option Int32).getD 0).toInt ≤ 127)
  | some c => exact h c (List.mem_of_getElem? hk)
theorem gStr_of {i : Nat} {q : String × Nat × String × List Int32} (hq : gSO[i]? = some q) : gStr (i : Int) = q.2.2.2 := by
  unfold gStr
  rw [List.getD_eq_getElem?_getD, Int.toNat_natCast, hq]
  rfl
theorem gi_255 {z : Int} (h : 0 ≤ z ∧ z ≤ 127) : Int32.ofInt z &&& Int32.ofInt 255 = Int32.ofInt z := by
  have h1 := gi_bv (b := z) (by omega)
  have h2 := gi_bv (b := 255) (by omega)
  apply Int32.toBitVec_inj.mp
  apply BitVec.eq_of_toNat_eq
  show ((Int32.ofInt z).toBitVec &&& (Int32.ofInt 255).toBitVec).toNat = _
  rw [BitVec.toNat_and, h1, h2]
  have h3 := Nat.and_two_pow_sub_one_eq_mod z.toNat 8
  have h4 : (255 : Int).toNat = 2 ^ 8 - 1 := by decide
  rw [h4, h3]
  omega
theorem kw_8_54 : (Jvm.Cond.fieldLink "java/lang/String" (9 : Nat) "java/lang/String" "value" "[B") ∈ gT := gT_of (tb_8 _ (List.mem_of_getElem? (i := 54) rfl)) rfl
theorem kw_3_239 : (Jvm.Cond.methodLink "java/lang/String" (335 : Nat) ({ cls := "java/lang/String", name := "coder", desc := "()B" } : Jvm.MethodName)) ∈ gT := gT_of (tb_3 _ (List.mem_of_getElem? (i := 239) rfl)) rfl
theorem kw_4_0 : (Jvm.Cond.instanceMethod ({ cls := "java/lang/String", name := "coder", desc := "()B" } : Jvm.MethodName)) ∈ gT := gT_of (tb_4 _ (List.mem_of_getElem? (i := 0) rfl)) rfl
theorem kw_4_1 : (Jvm.Cond.selects "java/lang/String" ({ cls := "java/lang/String", name := "coder", desc := "()B" } : Jvm.MethodName) ({ cls := "java/lang/String", name := "coder", desc := "()B" } : Jvm.MethodName)) ∈ gT := gT_of (tb_4 _ (List.mem_of_getElem? (i := 1) rfl)) rfl
theorem dJ_len_0 : decode cJ_len 0 = .ok (.aload_n 0, 1) := dc_42 (by decide +kernel)
theorem dJ_len_1 : decode cJ_len 1 = .ok (.getfield 9, 3) := dc_180 0 9 (by decide +kernel)
theorem dJ_len_4 : decode cJ_len 4 = .ok (.arraylength, 1) := dc_190 (by decide +kernel)
theorem dJ_len_5 : decode cJ_len 5 = .ok (.aload_n 0, 1) := dc_42 (by decide +kernel)
theorem dJ_len_6 : decode cJ_len 6 = .ok (.invokevirtual 335, 3) := dc_182 1 79 (by decide +kernel)
theorem dJ_len_9 : decode cJ_len 9 = .ok (.ishr, 1) := dc_122 (by decide +kernel)
theorem dJ_len_10 : decode cJ_len 10 = .ok (.ireturn, 1) := dc_172 (by decide +kernel)
theorem g_ofNat {n : Nat} (h : n ≤ 2147483647) : Int32.ofNat n = Int32.ofInt (n : Int) := Int32.ofInt_eq_ofNat.symm
set_option maxHeartbeats 1000000 in
theorem c_J_len {l : Launch} {n0 : Nat} {D : va_G} {cA : Nat → ClassId} {M : gM} {sz : Nat} (i : Nat) {q : String × Nat × String × List Int32} (hq : gSO[i]? = some q) : Met l yJ_len (gWsOf yJ_len cJ_len 1 (Option.some Jvm.ClassFile.FieldType.int)) { frames := 1, cells := 0, slots := 0, locals := 20 } (gPc n0 D cA [.ref (cA (100 + i))] M sz) (gQi n0 D cA sz (fun z M1 => M = M1 ∧ (0 ≤ z ∧ z ≤ 10) ∧ z = gSL (i : Int))) 0 0 (fun q => n0 ≤ q) := by
  refine gMet_of [.ref (cA (100 + i))] (by decide) (Nat.le_of_ble_eq_true rfl) ?_
  intro p e s m args below meth cd X hr hm
  have X : gCx p s m args meth cd n0 D cA "java/lang/String" cJ_len 1 := X
  have hL := gSO_len hq
  refine g_aload_n (n := 1) X 0 dJ_len_0 rfl rfl rfl ?_
  refine g_strVal (n := 4) X i hq kw_8_54 rfl dJ_len_1 rfl ?_
  refine g_strLen (n := 5) (z := (q.2.2.2.length : Int)) X i hq (g_ofNat (by omega)) dJ_len_4 rfl ?_
  refine g_aload_n (n := 6) X 0 dJ_len_5 rfl rfl rfl ?_
  refine g_callSt (n := 9) (As := []) (rest := [gJ (q.2.2.2.length : Int)]) (cs1 := 0) (ss1 := 0) X i hq (c_J_cod i hq) okJ_cod kw_3_239 ⟨kw_4_0, kw_4_1⟩ ⟨rfl, rfl⟩ ⟨Nat.le_of_ble_eq_true rfl, Nat.le_of_ble_eq_true rfl⟩ rfl rfl (Nat.le_of_ble_eq_true rfl) ⟨Nat.le_of_ble_eq_true rfl, Nat.le_of_ble_eq_true rfl⟩ rfl rfl dJ_len_6 rfl (fun z M1 hP => ?_)
  obtain ⟨rfl, rfl⟩ := hP
  refine g_ishrE (n := 10) (z := (q.2.2.2.length : Int)) X dJ_len_9 (gi_shr0 _) rfl ?_
  exact g_ireturn X hr dJ_len_10 ⟨rfl, ⟨by omega, by omega⟩, by rw [gSL, gStr_of hq]⟩
theorem kw_3_238 : (Jvm.Cond.code ({ cls := "java/lang/String", name := "length", desc := "()I" } : Jvm.MethodName) prog_17_method_54_code (1 : Nat) (Option.some Jvm.ClassFile.FieldType.int)) ∈ gT := gT_of (tb_3 _ (List.mem_of_getElem? (i := 238) rfl)) rfl
theorem okJ_len : gQok yJ_len cJ_len 1 (Option.some Jvm.ClassFile.FieldType.int) 0 := ⟨kw_3_238, kw_1_17, by decide +kernel, by decide +kernel, by decide +kernel⟩
theorem kw_4_16 : (Jvm.Cond.methodLink "java/lang/StringLatin1" (9 : Nat) ({ cls := "java/lang/String", name := "checkIndex", desc := "(II)V" } : Jvm.MethodName)) ∈ gT := gT_of (tb_4 _ (List.mem_of_getElem? (i := 16) rfl)) rfl
theorem kw_4_17 : (Jvm.Cond.static ({ cls := "java/lang/String", name := "checkIndex", desc := "(II)V" } : Jvm.MethodName)) ∈ gT := gT_of (tb_4 _ (List.mem_of_getElem? (i := 17) rfl)) rfl
theorem dJ_l1c_0 : decode cJ_l1c 0 = .ok (.iload_n 1, 1) := dc_27 (by decide +kernel)
theorem dJ_l1c_1 : decode cJ_l1c 1 = .ok (.aload_n 0, 1) := dc_42 (by decide +kernel)
theorem dJ_l1c_2 : decode cJ_l1c 2 = .ok (.arraylength, 1) := dc_190 (by decide +kernel)
theorem dJ_l1c_3 : decode cJ_l1c 3 = .ok (.invokestatic 9, 3) := dc_184 0 9 (by decide +kernel)
theorem dJ_l1c_6 : decode cJ_l1c 6 = .ok (.aload_n 0, 1) := dc_42 (by decide +kernel)
theorem dJ_l1c_7 : decode cJ_l1c 7 = .ok (.iload_n 1, 1) := dc_27 (by decide +kernel)
theorem dJ_l1c_8 : decode cJ_l1c 8 = .ok (.baload, 1) := dc_51 (by decide +kernel)
theorem dJ_l1c_9 : decode cJ_l1c 9 = .ok (.sipush 255, 3) := dc_17 0 255 255 (by decide +kernel)
theorem dJ_l1c_12 : decode cJ_l1c 12 = .ok (.iand, 1) := dc_126 (by decide +kernel)
theorem dJ_l1c_13 : decode cJ_l1c 13 = .ok (.i2c, 1) := dc_146 (by decide +kernel)
theorem dJ_l1c_14 : decode cJ_l1c 14 = .ok (.ireturn, 1) := dc_172 (by decide +kernel)
theorem g_i2cV {p : Program} {l : Launch} {e : Env} {R : Room} {s : State} {m : MethodId} {args : Array Value} {below : List Frame} {meth : Method} {c : Code} {n0 : Nat} {D : va_G} {cA : Nat → ClassId} {nL : Nat} {Q : State → Prop} {cells slots : Nat} {M : gM} {sz pc n : Nat} {L : List (Nat × Value)} {st : List Value} {own : String} {cc : ByteArray} (X : gCx p s m args meth c n0 D cA own cc nL) {a : Int} (hd : decode cc pc = .ok (.i2c, 1)) (ha : 0 ≤ a ∧ a ≤ 65535) (hn : pc + 1 = n) (kk : narrow .char (.int (Int32.ofInt a)) = .int (Int32.ofInt a) → G p l e R s m args below meth c n0 D cA nL Q cells slots M sz n L (gJ a :: st)) : G p l e R s m args below meth c n0 D cA nL Q cells slots M sz pc L (gJ a :: st) := by
  subst hn
  intro H locs ls hl hW hS
  refine lv_i2c X.1 X.2.1 hd rfl ?_
  have h1 := pk_char (Int32.ofInt a)
  have hv := gi_bv (b := a) (by omega)
  have hlt : (Int32.ofInt a).toBitVec.toNat % 65536 < 65536 := Nat.mod_lt _ (by omega)
  have h2 : nI ((Int32.ofInt a).toBitVec.toNat % 65536) = Int32.ofInt a := by rw [← Int32.toInt_inj, nI_toInt (by omega), gi_toInt ⟨by omega, by omega⟩]; omega
  have h3 := (pk_charN hlt).1
  rw [h2] at h1 h3
  first
    | (rw [h1]; exact kk h3 H locs ls hl hW hS)
    | exact h1 ▸ kk h3 H locs ls hl hW hS
set_option maxHeartbeats 1000000 in
theorem c_J_l1c {l : Launch} {n0 : Nat} {D : va_G} {cA : Nat → ClassId} {M : gM} {sz : Nat} (i : Nat) {q : String × Nat × String × List Int32} (hq : gSO[i]? = some q) (k : Int) (h0 : 0 ≤ k) (h1 : k < (q.2.2.2.length : Int)) : Met l yJ_l1c (gWsOf yJ_l1c cJ_l1c 2 (Option.some Jvm.ClassFile.FieldType.char)) { frames := 2, cells := 0, slots := 0, locals := 43 } (gPc n0 D cA [.ref (cA (200 + i)), gJ k] M sz) (gQi n0 D cA sz (fun z M1 => M = M1 ∧ (0 ≤ z ∧ z ≤ 127) ∧ z = gSC (i : Int) k)) 0 0 (fun q => n0 ≤ q) := by
  refine gMet_of [.ref (cA (200 + i)), gJ k] (by decide) (Nat.le_of_ble_eq_true rfl) ?_
  intro p e s m args below meth cd X hr hm
  have X : gCx p s m args meth cd n0 D cA "java/lang/StringLatin1" cJ_l1c 2 := X
  have hL := gSO_len hq
  have hC := gSO_chr hq k.toNat
  refine g_iload_n (n := 1) X 1 dJ_l1c_0 rfl rfl rfl ?_
  refine g_aload_n (n := 2) X 0 dJ_l1c_1 rfl rfl rfl ?_
  refine g_strLen (n := 3) (z := (q.2.2.2.length : Int)) X i hq (g_ofNat (by omega)) dJ_l1c_2 rfl ?_
  refine g_callSv (n := 6) (As := [gJ k, gJ (q.2.2.2.length : Int)]) (rest := []) (cs1 := 0) (ss1 := 0) X (c_J_chk k (q.2.2.2.length : Int) h0 h1 (by omega)) okJ_chk kw_4_16 kw_4_17 ⟨rfl, rfl⟩ ⟨Nat.le_of_ble_eq_true rfl, Nat.le_of_ble_eq_true rfl⟩ rfl rfl (Nat.le_of_ble_eq_true rfl) ⟨Nat.le_of_ble_eq_true rfl, Nat.le_of_ble_eq_true rfl⟩ rfl rfl dJ_l1c_3 rfl (fun M1 hP => ?_)
  obtain rfl := hP
  refine g_aload_n (n := 7) X 0 dJ_l1c_6 rfl rfl rfl ?_
  refine g_iload_n (n := 8) X 1 dJ_l1c_7 rfl rfl rfl ?_
  refine g_strByt (n := 9) (z := (q.2.2.2.getD k.toNat 0).toInt) X i hq h0 h1 (by omega) (gi_of _) dJ_l1c_8 rfl ?_
  refine g_sipush (n := 12) X dJ_l1c_9 (by decide +kernel) rfl ?_
  refine g_iandE (n := 13) (z := (q.2.2.2.getD k.toNat 0).toInt) X dJ_l1c_12 (gi_255 hC) rfl ?_
  refine g_i2cV (n := 14) X dJ_l1c_13 ⟨hC.1, by omega⟩ rfl (fun nz => ?_)
  exact g_nreturn X nz hr dJ_l1c_14 ⟨rfl, ⟨hC.1, hC.2⟩, by rw [gSC, gStr_of hq]⟩
theorem kw_4_15 : (Jvm.Cond.code ({ cls := "java/lang/StringLatin1", name := "charAt", desc := "([BI)C" } : Jvm.MethodName) prog_18_method_2_code (2 : Nat) (Option.some Jvm.ClassFile.FieldType.char)) ∈ gT := gT_of (tb_4 _ (List.mem_of_getElem? (i := 15) rfl)) rfl
theorem kw_1_18 : (Jvm.Cond.initialized "java/lang/StringLatin1") ∈ gT := gT_of (tb_1 _ (List.mem_of_getElem? (i := 18) rfl)) rfl
theorem okJ_l1c : gQok yJ_l1c cJ_l1c 2 (Option.some Jvm.ClassFile.FieldType.char) 2 := ⟨kw_4_15, kw_1_18, by decide +kernel, by decide +kernel, by decide +kernel⟩
theorem kw_4_9 : (Jvm.Cond.methodLink "java/lang/String" (492 : Nat) ({ cls := "java/lang/String", name := "isLatin1", desc := "()Z" } : Jvm.MethodName)) ∈ gT := gT_of (tb_4 _ (List.mem_of_getElem? (i := 9) rfl)) rfl
theorem kw_4_10 : (Jvm.Cond.instanceMethod ({ cls := "java/lang/String", name := "isLatin1", desc := "()Z" } : Jvm.MethodName)) ∈ gT := gT_of (tb_4 _ (List.mem_of_getElem? (i := 10) rfl)) rfl
theorem kw_4_11 : (Jvm.Cond.selects "java/lang/String" ({ cls := "java/lang/String", name := "isLatin1", desc := "()Z" } : Jvm.MethodName) ({ cls := "java/lang/String", name := "isLatin1", desc := "()Z" } : Jvm.MethodName)) ∈ gT := gT_of (tb_4 _ (List.mem_of_getElem? (i := 11) rfl)) rfl
theorem kw_4_13 : (Jvm.Cond.methodLink "java/lang/String" (495 : Nat) ({ cls := "java/lang/StringLatin1", name := "charAt", desc := "([BI)C" } : Jvm.MethodName)) ∈ gT := gT_of (tb_4 _ (List.mem_of_getElem? (i := 13) rfl)) rfl
theorem kw_4_14 : (Jvm.Cond.static ({ cls := "java/lang/StringLatin1", name := "charAt", desc := "([BI)C" } : Jvm.MethodName)) ∈ gT := gT_of (tb_4 _ (List.mem_of_getElem? (i := 14) rfl)) rfl
theorem dJ_chr_0 : decode cJ_chr 0 = .ok (.aload_n 0, 1) := dc_42 (by decide +kernel)
theorem dJ_chr_1 : decode cJ_chr 1 = .ok (.invokevirtual 492, 3) := dc_182 1 236 (by decide +kernel)
theorem dJ_chr_4 : decode cJ_chr 4 = .ok (.ifCond .eq 12, 3) := dc_153 0 12 12 (by decide +kernel)
theorem dJ_chr_7 : decode cJ_chr 7 = .ok (.aload_n 0, 1) := dc_42 (by decide +kernel)
theorem dJ_chr_8 : decode cJ_chr 8 = .ok (.getfield 9, 3) := dc_180 0 9 (by decide +kernel)
theorem dJ_chr_11 : decode cJ_chr 11 = .ok (.iload_n 1, 1) := dc_27 (by decide +kernel)
theorem dJ_chr_12 : decode cJ_chr 12 = .ok (.invokestatic 495, 3) := dc_184 1 239 (by decide +kernel)
theorem dJ_chr_15 : decode cJ_chr 15 = .ok (.ireturn, 1) := dc_172 (by decide +kernel)
theorem g_nchar {z : Int} (hz : 0 ≤ z ∧ z ≤ 65535) : narrow .char (.int (Int32.ofInt z)) = .int (Int32.ofInt z) := by have h := (pk_charN (q := z.toNat) (by omega)).1; rw [show nI z.toNat = Int32.ofInt z by rw [← Int32.toInt_inj, nI_toInt (by omega), gi_toInt ⟨by omega, by omega⟩]; omega] at h; exact h
set_option maxHeartbeats 1000000 in
theorem c_J_chr {l : Launch} {n0 : Nat} {D : va_G} {cA : Nat → ClassId} {M : gM} {sz : Nat} (i : Nat) {q : String × Nat × String × List Int32} (hq : gSO[i]? = some q) (k : Int) (h0 : 0 ≤ k) (h1 : k < (q.2.2.2.length : Int)) : Met l yJ_chr (gWsOf yJ_chr cJ_chr 2 (Option.some Jvm.ClassFile.FieldType.char)) { frames := 3, cells := 0, slots := 0, locals := 64 } (gPc n0 D cA [.ref (cA (100 + i)), gJ k] M sz) (gQi n0 D cA sz (fun z M1 => M = M1 ∧ (0 ≤ z ∧ z ≤ 127) ∧ z = gSC (i : Int) k)) 0 0 (fun q => n0 ≤ q) := by
  refine gMet_of [.ref (cA (100 + i)), gJ k] (by decide) (Nat.le_of_ble_eq_true rfl) ?_
  intro p e s m args below meth cd X hr hm
  have X : gCx p s m args meth cd n0 D cA "java/lang/String" cJ_chr 2 := X
  refine g_aload_n (n := 1) X 0 dJ_chr_0 rfl rfl rfl ?_
  refine g_callSt (n := 4) (As := []) (rest := []) (cs1 := 0) (ss1 := 0) X i hq (c_J_lat i hq) okJ_lat kw_4_9 ⟨kw_4_10, kw_4_11⟩ ⟨rfl, rfl⟩ ⟨Nat.le_of_ble_eq_true rfl, Nat.le_of_ble_eq_true rfl⟩ rfl rfl (Nat.le_of_ble_eq_true rfl) ⟨Nat.le_of_ble_eq_true rfl, Nat.le_of_ble_eq_true rfl⟩ rfl rfl dJ_chr_1 rfl (fun z M1 hP => ?_)
  obtain ⟨rfl, rfl⟩ := hP
  refine g_if_eq (n := 7) (tgt := 16) X dJ_chr_4 (by decide) (by omega) rfl (fun h => by exfalso; omega) (fun h => ?_)
  refine g_aload_n (n := 8) X 0 dJ_chr_7 rfl rfl rfl ?_
  refine g_strVal (n := 11) X i hq kw_8_54 rfl dJ_chr_8 rfl ?_
  refine g_iload_n (n := 12) X 1 dJ_chr_11 rfl rfl rfl ?_
  refine g_callSi (n := 15) (As := [.ref (cA (200 + i)), gJ k]) (rest := []) (cs1 := 0) (ss1 := 0) X (c_J_l1c i hq k h0 h1) okJ_l1c kw_4_13 kw_4_14 ⟨rfl, rfl⟩ ⟨Nat.le_of_ble_eq_true rfl, Nat.le_of_ble_eq_true rfl⟩ rfl rfl (Nat.le_of_ble_eq_true rfl) ⟨Nat.le_of_ble_eq_true rfl, Nat.le_of_ble_eq_true rfl⟩ rfl rfl dJ_chr_12 rfl (fun z M1 hP => ?_)
  obtain ⟨rfl, hz, hz1⟩ := hP
  exact g_nreturn X (g_nchar (by omega)) hr dJ_chr_15 ⟨rfl, hz, hz1⟩
theorem kw_4_8 : (Jvm.Cond.code ({ cls := "java/lang/String", name := "charAt", desc := "(I)C" } : Jvm.MethodName) prog_17_method_56_code (2 : Nat) (Option.some Jvm.ClassFile.FieldType.char)) ∈ gT := gT_of (tb_4 _ (List.mem_of_getElem? (i := 8) rfl)) rfl
theorem okJ_chr : gQok yJ_chr cJ_chr 2 (Option.some Jvm.ClassFile.FieldType.char) 1 := ⟨kw_4_8, kw_1_17, by decide +kernel, by decide +kernel, by decide +kernel⟩
theorem gSO_at {z : Int} (h : 0 ≤ z ∧ z < 26) : ∃ q : String × Nat × String × List Int32, gSO[z.toNat]? = some q := by
  have h2 : gSO.length = 26 := by decide +kernel
  have h1 : z.toNat < gSO.length := by omega
  exact ⟨_, List.getElem?_eq_getElem h1⟩
theorem gSL_m {z : Int} (h : 16 ≤ z ∧ z ≤ 25) : gSL z ≤ 6 := by
  rcases (by omega : z = 16 ∨ z = 17 ∨ z = 18 ∨ z = 19 ∨ z = 20 ∨ z = 21 ∨ z = 22 ∨ z = 23 ∨ z = 24 ∨ z = 25) with rfl | rfl | rfl | rfl | rfl | rfl | rfl | rfl | rfl | rfl <;> decide +kernel
theorem s_J_len {l : Launch} {n0 : Nat} {D : va_G} {cA : Nat → ClassId} {M : gM} {sz : Nat} (z : Int) (r : 0 ≤ z ∧ z < 26) : Met l yJ_len (gWsOf yJ_len cJ_len 1 (Option.some Jvm.ClassFile.FieldType.int)) { frames := 1, cells := 0, slots := 0, locals := 20 } (gPc n0 D cA [.ref (cA (100 + z.toNat))] M sz) (gQi n0 D cA sz (fun v M1 => M = M1 ∧ (0 ≤ v ∧ v ≤ 10) ∧ v = gSL z)) 0 0 (fun q => n0 ≤ q) := by
  obtain ⟨q, hq⟩ := gSO_at r
  have hz : ((z.toNat : Nat) : Int) = z := by omega
  have h := c_J_len (l := l) (n0 := n0) (D := D) (cA := cA) (M := M) (sz := sz) z.toNat hq
  rw [hz] at h
  exact h
theorem s_J_chr {l : Launch} {n0 : Nat} {D : va_G} {cA : Nat → ClassId} {M : gM} {sz : Nat} (z : Int) (r : 0 ≤ z ∧ z < 26) (k : Int) (h0 : 0 ≤ k) (h1 : k < gSL z) : Met l yJ_chr (gWsOf yJ_chr cJ_chr 2 (Option.some Jvm.ClassFile.FieldType.char)) { frames := 3, cells := 0, slots := 0, locals := 64 } (gPc n0 D cA [.ref (cA (100 + z.toNat)), gJ k] M sz) (gQi n0 D cA sz (fun v M1 => M = M1 ∧ (0 ≤ v ∧ v ≤ 127) ∧ v = gSC z k)) 0 0 (fun q => n0 ≤ q) := by
  obtain ⟨q, hq⟩ := gSO_at r
  have hz : ((z.toNat : Nat) : Int) = z := by omega
  have h := c_J_chr (l := l) (n0 := n0) (D := D) (cA := cA) (M := M) (sz := sz) z.toNat hq k h0 (by rw [← gStr_of hq, hz]; exact h1)
  rw [hz] at h
  exact h
theorem dX7_nameOf_0 : decode cX7_nameOf 0 = .ok (.iload_n 0, 1) := dc_26 (by decide +kernel)
theorem dX7_nameOf_52 : decode cX7_nameOf 52 = .ok (.ldc 69, 2) := dc_18 69 (by decide +kernel)
theorem dX7_nameOf_54 : decode cX7_nameOf 54 = .ok (.areturn, 1) := dc_176 (by decide +kernel)
theorem dX7_nameOf_1 : decode cX7_nameOf 1 = .ok (.tableswitch 78 0 8 #[51, 54, 57, 60, 63, 66, 69, 72, 75], 51) := by decide +kernel
theorem dX7_nameOf_55 : decode cX7_nameOf 55 = .ok (.ldc 71, 2) := dc_18 71 (by decide +kernel)
theorem dX7_nameOf_57 : decode cX7_nameOf 57 = .ok (.areturn, 1) := dc_176 (by decide +kernel)
theorem dX7_nameOf_58 : decode cX7_nameOf 58 = .ok (.ldc 73, 2) := dc_18 73 (by decide +kernel)
theorem dX7_nameOf_60 : decode cX7_nameOf 60 = .ok (.areturn, 1) := dc_176 (by decide +kernel)
theorem dX7_nameOf_61 : decode cX7_nameOf 61 = .ok (.ldc 75, 2) := dc_18 75 (by decide +kernel)
theorem dX7_nameOf_63 : decode cX7_nameOf 63 = .ok (.areturn, 1) := dc_176 (by decide +kernel)
theorem dX7_nameOf_64 : decode cX7_nameOf 64 = .ok (.ldc 77, 2) := dc_18 77 (by decide +kernel)
theorem dX7_nameOf_66 : decode cX7_nameOf 66 = .ok (.areturn, 1) := dc_176 (by decide +kernel)
theorem dX7_nameOf_67 : decode cX7_nameOf 67 = .ok (.ldc 79, 2) := dc_18 79 (by decide +kernel)
theorem dX7_nameOf_69 : decode cX7_nameOf 69 = .ok (.areturn, 1) := dc_176 (by decide +kernel)
theorem dX7_nameOf_70 : decode cX7_nameOf 70 = .ok (.ldc 81, 2) := dc_18 81 (by decide +kernel)
theorem dX7_nameOf_72 : decode cX7_nameOf 72 = .ok (.areturn, 1) := dc_176 (by decide +kernel)
theorem dX7_nameOf_73 : decode cX7_nameOf 73 = .ok (.ldc 83, 2) := dc_18 83 (by decide +kernel)
theorem dX7_nameOf_75 : decode cX7_nameOf 75 = .ok (.areturn, 1) := dc_176 (by decide +kernel)
theorem dX7_nameOf_76 : decode cX7_nameOf 76 = .ok (.ldc 85, 2) := dc_18 85 (by decide +kernel)
theorem dX7_nameOf_78 : decode cX7_nameOf 78 = .ok (.areturn, 1) := dc_176 (by decide +kernel)
theorem dX7_nameOf_79 : decode cX7_nameOf 79 = .ok (.ldc 87, 2) := dc_18 87 (by decide +kernel)
theorem dX7_nameOf_81 : decode cX7_nameOf 81 = .ok (.areturn, 1) := dc_176 (by decide +kernel)
set_option maxHeartbeats 1000000 in
theorem c_X7_nameOf {l : Launch} {n0 : Nat} {D : va_G} {cA : Nat → ClassId} {M : gM} {sz : Nat} (a : Int) (h0a : 0 ≤ a) (h1a : a ≤ 9) : Met l yX7_nameOf (gWsOf yX7_nameOf cX7_nameOf 1 (Option.some (Jvm.ClassFile.FieldType.object "java/lang/String"))) { frames := 0, cells := 0, slots := 0, locals := 0 } (gPc n0 D cA [gJ a] M sz) (gQs n0 D cA sz (fun z M1 => M = M1 ∧ z = a + 0)) 0 0 (fun q => n0 ≤ q) := by
  refine gMet_of [gJ a] (by decide) (Nat.le_of_ble_eq_true rfl) ?_
  intro p e s m args below meth cd X hr hm
  have X : gCx p s m args meth cd n0 D cA "ParishUnion$Reader" cX7_nameOf 1 := X
  refine g_iload_n (n := 1) X 0 dX7_nameOf_0 rfl rfl rfl ?_
  by_cases h0 : a = 0
  · refine g_tableIn (tgt := 52) X 0 dX7_nameOf_1 (by omega) (by omega) (by omega) (by omega) rfl (by decide) ?_
    refine g_ldcS (n := 54) X 0 rfl dX7_nameOf_52 rfl ?_
    exact g_areturnS X 0 hr dX7_nameOf_54 ⟨rfl, by omega⟩
  by_cases h1 : a = 1
  · refine g_tableIn (tgt := 55) X 1 dX7_nameOf_1 (by omega) (by omega) (by omega) (by omega) rfl (by decide) ?_
    refine g_ldcS (n := 57) X 1 rfl dX7_nameOf_55 rfl ?_
    exact g_areturnS X 1 hr dX7_nameOf_57 ⟨rfl, by omega⟩
  by_cases h2 : a = 2
  · refine g_tableIn (tgt := 58) X 2 dX7_nameOf_1 (by omega) (by omega) (by omega) (by omega) rfl (by decide) ?_
    refine g_ldcS (n := 60) X 2 rfl dX7_nameOf_58 rfl ?_
    exact g_areturnS X 2 hr dX7_nameOf_60 ⟨rfl, by omega⟩
  by_cases h3 : a = 3
  · refine g_tableIn (tgt := 61) X 3 dX7_nameOf_1 (by omega) (by omega) (by omega) (by omega) rfl (by decide) ?_
    refine g_ldcS (n := 63) X 3 rfl dX7_nameOf_61 rfl ?_
    exact g_areturnS X 3 hr dX7_nameOf_63 ⟨rfl, by omega⟩
  by_cases h4 : a = 4
  · refine g_tableIn (tgt := 64) X 4 dX7_nameOf_1 (by omega) (by omega) (by omega) (by omega) rfl (by decide) ?_
    refine g_ldcS (n := 66) X 4 rfl dX7_nameOf_64 rfl ?_
    exact g_areturnS X 4 hr dX7_nameOf_66 ⟨rfl, by omega⟩
  by_cases h5 : a = 5
  · refine g_tableIn (tgt := 67) X 5 dX7_nameOf_1 (by omega) (by omega) (by omega) (by omega) rfl (by decide) ?_
    refine g_ldcS (n := 69) X 5 rfl dX7_nameOf_67 rfl ?_
    exact g_areturnS X 5 hr dX7_nameOf_69 ⟨rfl, by omega⟩
  by_cases h6 : a = 6
  · refine g_tableIn (tgt := 70) X 6 dX7_nameOf_1 (by omega) (by omega) (by omega) (by omega) rfl (by decide) ?_
    refine g_ldcS (n := 72) X 6 rfl dX7_nameOf_70 rfl ?_
    exact g_areturnS X 6 hr dX7_nameOf_72 ⟨rfl, by omega⟩
  by_cases h7 : a = 7
  · refine g_tableIn (tgt := 73) X 7 dX7_nameOf_1 (by omega) (by omega) (by omega) (by omega) rfl (by decide) ?_
    refine g_ldcS (n := 75) X 7 rfl dX7_nameOf_73 rfl ?_
    exact g_areturnS X 7 hr dX7_nameOf_75 ⟨rfl, by omega⟩
  by_cases h8 : a = 8
  · refine g_tableIn (tgt := 76) X 8 dX7_nameOf_1 (by omega) (by omega) (by omega) (by omega) rfl (by decide) ?_
    refine g_ldcS (n := 78) X 8 rfl dX7_nameOf_76 rfl ?_
    exact g_areturnS X 8 hr dX7_nameOf_78 ⟨rfl, by omega⟩
  refine g_tableOut (tgt := 79) X dX7_nameOf_1 (by omega) (by omega) (by decide) ?_
  refine g_ldcS (n := 81) X 9 rfl dX7_nameOf_79 rfl ?_
  exact g_areturnS X 9 hr dX7_nameOf_81 ⟨rfl, by omega⟩
theorem dX12_word_0 : decode cX12_word 0 = .ok (.iload_n 0, 1) := dc_26 (by decide +kernel)
theorem dX12_word_52 : decode cX12_word 52 = .ok (.ldc 143, 2) := dc_18 143 (by decide +kernel)
theorem dX12_word_54 : decode cX12_word 54 = .ok (.areturn, 1) := dc_176 (by decide +kernel)
theorem dX12_word_1 : decode cX12_word 1 = .ok (.tableswitch 78 0 8 #[51, 54, 57, 60, 63, 66, 69, 72, 75], 51) := by decide +kernel
theorem dX12_word_55 : decode cX12_word 55 = .ok (.ldc 145, 2) := dc_18 145 (by decide +kernel)
theorem dX12_word_57 : decode cX12_word 57 = .ok (.areturn, 1) := dc_176 (by decide +kernel)
theorem dX12_word_58 : decode cX12_word 58 = .ok (.ldc 147, 2) := dc_18 147 (by decide +kernel)
theorem dX12_word_60 : decode cX12_word 60 = .ok (.areturn, 1) := dc_176 (by decide +kernel)
theorem dX12_word_61 : decode cX12_word 61 = .ok (.ldc 149, 2) := dc_18 149 (by decide +kernel)
theorem dX12_word_63 : decode cX12_word 63 = .ok (.areturn, 1) := dc_176 (by decide +kernel)
theorem dX12_word_64 : decode cX12_word 64 = .ok (.ldc 151, 2) := dc_18 151 (by decide +kernel)
theorem dX12_word_66 : decode cX12_word 66 = .ok (.areturn, 1) := dc_176 (by decide +kernel)
theorem dX12_word_67 : decode cX12_word 67 = .ok (.ldc 153, 2) := dc_18 153 (by decide +kernel)
theorem dX12_word_69 : decode cX12_word 69 = .ok (.areturn, 1) := dc_176 (by decide +kernel)
theorem dX12_word_70 : decode cX12_word 70 = .ok (.ldc 155, 2) := dc_18 155 (by decide +kernel)
theorem dX12_word_72 : decode cX12_word 72 = .ok (.areturn, 1) := dc_176 (by decide +kernel)
theorem dX12_word_73 : decode cX12_word 73 = .ok (.ldc 157, 2) := dc_18 157 (by decide +kernel)
theorem dX12_word_75 : decode cX12_word 75 = .ok (.areturn, 1) := dc_176 (by decide +kernel)
theorem dX12_word_76 : decode cX12_word 76 = .ok (.ldc 159, 2) := dc_18 159 (by decide +kernel)
theorem dX12_word_78 : decode cX12_word 78 = .ok (.areturn, 1) := dc_176 (by decide +kernel)
theorem dX12_word_79 : decode cX12_word 79 = .ok (.ldc 161, 2) := dc_18 161 (by decide +kernel)
theorem dX12_word_81 : decode cX12_word 81 = .ok (.areturn, 1) := dc_176 (by decide +kernel)
set_option maxHeartbeats 1000000 in
theorem c_X12_word {l : Launch} {n0 : Nat} {D : va_G} {cA : Nat → ClassId} {M : gM} {sz : Nat} (a : Int) (h0a : 0 ≤ a) (h1a : a ≤ 9) : Met l yX12_word (gWsOf yX12_word cX12_word 1 (Option.some (Jvm.ClassFile.FieldType.object "java/lang/String"))) { frames := 0, cells := 0, slots := 0, locals := 0 } (gPc n0 D cA [gJ a] M sz) (gQs n0 D cA sz (fun z M1 => M = M1 ∧ z = a + 16)) 0 0 (fun q => n0 ≤ q) := by
  refine gMet_of [gJ a] (by decide) (Nat.le_of_ble_eq_true rfl) ?_
  intro p e s m args below meth cd X hr hm
  have X : gCx p s m args meth cd n0 D cA "ParishUnionModel" cX12_word 1 := X
  refine g_iload_n (n := 1) X 0 dX12_word_0 rfl rfl rfl ?_
  by_cases h0 : a = 0
  · refine g_tableIn (tgt := 52) X 0 dX12_word_1 (by omega) (by omega) (by omega) (by omega) rfl (by decide) ?_
    refine g_ldcS (n := 54) X 16 rfl dX12_word_52 rfl ?_
    exact g_areturnS X 16 hr dX12_word_54 ⟨rfl, by omega⟩
  by_cases h1 : a = 1
  · refine g_tableIn (tgt := 55) X 1 dX12_word_1 (by omega) (by omega) (by omega) (by omega) rfl (by decide) ?_
    refine g_ldcS (n := 57) X 17 rfl dX12_word_55 rfl ?_
    exact g_areturnS X 17 hr dX12_word_57 ⟨rfl, by omega⟩
  by_cases h2 : a = 2
  · refine g_tableIn (tgt := 58) X 2 dX12_word_1 (by omega) (by omega) (by omega) (by omega) rfl (by decide) ?_
    refine g_ldcS (n := 60) X 18 rfl dX12_word_58 rfl ?_
    exact g_areturnS X 18 hr dX12_word_60 ⟨rfl, by omega⟩
  by_cases h3 : a = 3
  · refine g_tableIn (tgt := 61) X 3 dX12_word_1 (by omega) (by omega) (by omega) (by omega) rfl (by decide) ?_
    refine g_ldcS (n := 63) X 19 rfl dX12_word_61 rfl ?_
    exact g_areturnS X 19 hr dX12_word_63 ⟨rfl, by omega⟩
  by_cases h4 : a = 4
  · refine g_tableIn (tgt := 64) X 4 dX12_word_1 (by omega) (by omega) (by omega) (by omega) rfl (by decide) ?_
    refine g_ldcS (n := 66) X 20 rfl dX12_word_64 rfl ?_
    exact g_areturnS X 20 hr dX12_word_66 ⟨rfl, by omega⟩
  by_cases h5 : a = 5
  · refine g_tableIn (tgt := 67) X 5 dX12_word_1 (by omega) (by omega) (by omega) (by omega) rfl (by decide) ?_
    refine g_ldcS (n := 69) X 21 rfl dX12_word_67 rfl ?_
    exact g_areturnS X 21 hr dX12_word_69 ⟨rfl, by omega⟩
  by_cases h6 : a = 6
  · refine g_tableIn (tgt := 70) X 6 dX12_word_1 (by omega) (by omega) (by omega) (by omega) rfl (by decide) ?_
    refine g_ldcS (n := 72) X 22 rfl dX12_word_70 rfl ?_
    exact g_areturnS X 22 hr dX12_word_72 ⟨rfl, by omega⟩
  by_cases h7 : a = 7
  · refine g_tableIn (tgt := 73) X 7 dX12_word_1 (by omega) (by omega) (by omega) (by omega) rfl (by decide) ?_
    refine g_ldcS (n := 75) X 23 rfl dX12_word_73 rfl ?_
    exact g_areturnS X 23 hr dX12_word_75 ⟨rfl, by omega⟩
  by_cases h8 : a = 8
  · refine g_tableIn (tgt := 76) X 8 dX12_word_1 (by omega) (by omega) (by omega) (by omega) rfl (by decide) ?_
    refine g_ldcS (n := 78) X 24 rfl dX12_word_76 rfl ?_
    exact g_areturnS X 24 hr dX12_word_78 ⟨rfl, by omega⟩
  refine g_tableOut (tgt := 79) X dX12_word_1 (by omega) (by omega) (by decide) ?_
  refine g_ldcS (n := 81) X 25 rfl dX12_word_79 rfl ?_
  exact g_areturnS X 25 hr dX12_word_81 ⟨rfl, by omega⟩
theorem dJ_bit_0 : decode cJ_bit 0 = .ok (.iload_n 0, 1) := dc_26 (by decide +kernel)
theorem dJ_bit_1 : decode cJ_bit 1 = .ok (.iload_n 0, 1) := dc_26 (by decide +kernel)
theorem dJ_bit_2 : decode cJ_bit 2 = .ok (.iconst 1, 1) := dc_4 (by decide +kernel)
theorem dJ_bit_3 : decode cJ_bit 3 = .ok (.iushr, 1) := dc_124 (by decide +kernel)
theorem dJ_bit_4 : decode cJ_bit 4 = .ok (.ldc_w 265, 3) := dc_19 1 9 (by decide +kernel)
theorem kw_3_188 : (Jvm.Cond.constant "java/lang/Integer" (265 : Nat) (1431655765 : Int32)) ∈ gT := gT_of (tb_3 _ (List.mem_of_getElem? (i := 188) rfl)) rfl
theorem dJ_bit_7 : decode cJ_bit 7 = .ok (.iand, 1) := dc_126 (by decide +kernel)
theorem dJ_bit_8 : decode cJ_bit 8 = .ok (.isub, 1) := dc_100 (by decide +kernel)
theorem dJ_bit_9 : decode cJ_bit 9 = .ok (.istore_n 0, 1) := dc_59 (by decide +kernel)
theorem dJ_bit_10 : decode cJ_bit 10 = .ok (.iload_n 0, 1) := dc_26 (by decide +kernel)
theorem dJ_bit_11 : decode cJ_bit 11 = .ok (.ldc_w 266, 3) := dc_19 1 10 (by decide +kernel)
theorem kw_3_189 : (Jvm.Cond.constant "java/lang/Integer" (266 : Nat) (858993459 : Int32)) ∈ gT := gT_of (tb_3 _ (List.mem_of_getElem? (i := 189) rfl)) rfl
theorem dJ_bit_14 : decode cJ_bit 14 = .ok (.iand, 1) := dc_126 (by decide +kernel)
theorem dJ_bit_15 : decode cJ_bit 15 = .ok (.iload_n 0, 1) := dc_26 (by decide +kernel)
theorem dJ_bit_16 : decode cJ_bit 16 = .ok (.iconst 2, 1) := dc_5 (by decide +kernel)
theorem dJ_bit_17 : decode cJ_bit 17 = .ok (.iushr, 1) := dc_124 (by decide +kernel)
theorem dJ_bit_18 : decode cJ_bit 18 = .ok (.ldc_w 266, 3) := dc_19 1 10 (by decide +kernel)
theorem dJ_bit_21 : decode cJ_bit 21 = .ok (.iand, 1) := dc_126 (by decide +kernel)
theorem dJ_bit_22 : decode cJ_bit 22 = .ok (.iadd, 1) := dc_96 (by decide +kernel)
theorem dJ_bit_23 : decode cJ_bit 23 = .ok (.istore_n 0, 1) := dc_59 (by decide +kernel)
theorem dJ_bit_24 : decode cJ_bit 24 = .ok (.iload_n 0, 1) := dc_26 (by decide +kernel)
theorem dJ_bit_25 : decode cJ_bit 25 = .ok (.iload_n 0, 1) := dc_26 (by decide +kernel)
theorem dJ_bit_26 : decode cJ_bit 26 = .ok (.iconst 4, 1) := dc_7 (by decide +kernel)
theorem dJ_bit_27 : decode cJ_bit 27 = .ok (.iushr, 1) := dc_124 (by decide +kernel)
theorem dJ_bit_28 : decode cJ_bit 28 = .ok (.iadd, 1) := dc_96 (by decide +kernel)
theorem dJ_bit_29 : decode cJ_bit 29 = .ok (.ldc_w 267, 3) := dc_19 1 11 (by decide +kernel)
theorem kw_3_190 : (Jvm.Cond.constant "java/lang/Integer" (267 : Nat) (252645135 : Int32)) ∈ gT := gT_of (tb_3 _ (List.mem_of_getElem? (i := 190) rfl)) rfl
theorem dJ_bit_32 : decode cJ_bit 32 = .ok (.iand, 1) := dc_126 (by decide +kernel)
theorem dJ_bit_33 : decode cJ_bit 33 = .ok (.istore_n 0, 1) := dc_59 (by decide +kernel)
theorem dJ_bit_34 : decode cJ_bit 34 = .ok (.iload_n 0, 1) := dc_26 (by decide +kernel)
theorem dJ_bit_35 : decode cJ_bit 35 = .ok (.iload_n 0, 1) := dc_26 (by decide +kernel)
theorem dJ_bit_36 : decode cJ_bit 36 = .ok (.bipush 8, 2) := dc_16 8 8 (by decide +kernel)
theorem dJ_bit_38 : decode cJ_bit 38 = .ok (.iushr, 1) := dc_124 (by decide +kernel)
theorem dJ_bit_39 : decode cJ_bit 39 = .ok (.iadd, 1) := dc_96 (by decide +kernel)
theorem dJ_bit_40 : decode cJ_bit 40 = .ok (.istore_n 0, 1) := dc_59 (by decide +kernel)
theorem dJ_bit_41 : decode cJ_bit 41 = .ok (.iload_n 0, 1) := dc_26 (by decide +kernel)
theorem dJ_bit_42 : decode cJ_bit 42 = .ok (.iload_n 0, 1) := dc_26 (by decide +kernel)
theorem dJ_bit_43 : decode cJ_bit 43 = .ok (.bipush 16, 2) := dc_16 16 16 (by decide +kernel)
theorem dJ_bit_45 : decode cJ_bit 45 = .ok (.iushr, 1) := dc_124 (by decide +kernel)
theorem dJ_bit_46 : decode cJ_bit 46 = .ok (.iadd, 1) := dc_96 (by decide +kernel)
theorem dJ_bit_47 : decode cJ_bit 47 = .ok (.istore_n 0, 1) := dc_59 (by decide +kernel)
theorem dJ_bit_48 : decode cJ_bit 48 = .ok (.iload_n 0, 1) := dc_26 (by decide +kernel)
theorem dJ_bit_49 : decode cJ_bit 49 = .ok (.bipush 63, 2) := dc_16 63 63 (by decide +kernel)
theorem dJ_bit_51 : decode cJ_bit 51 = .ok (.iand, 1) := dc_126 (by decide +kernel)
theorem dJ_bit_52 : decode cJ_bit 52 = .ok (.ireturn, 1) := dc_172 (by decide +kernel)
abbrev R_J_bit : Room := { frames := 0, cells := 0, slots := 0, locals := 0 }
set_option maxRecDepth 100000 in
set_option maxHeartbeats 4000000 in
theorem s_J_bit {l : Launch} {n0 : Nat} {D : va_G} {cA : Nat → ClassId} {M : gM} (a : Int) (r_a : -2147483648 ≤ a ∧ a ≤ 2147483647) {sz : Nat} (hsz : 206 ≤ sz) (I : gI sz M) (C : gC sz M)   : Met l yJ_bit (gWsOf yJ_bit cJ_bit 1 (Option.some Jvm.ClassFile.FieldType.int)) R_J_bit (gPc n0 D cA [gJ a] M sz) (gQi n0 D cA sz (fun z M1 => M = M1 ∧ (0 ≤ z ∧ z ≤ 63))) 0 0 (fun q => n0 ≤ q) := by
  refine gMetI [gJ a] (by decide) (Nat.le_of_ble_eq_true rfl) ⟨rfl, rfl⟩ ?_
  intro p e s m args below meth cd Q X hq
  have X : gCx p s m args meth cd n0 D cA "java/lang/Integer" cJ_bit 1 := X
  show G p l e R_J_bit s m args below meth cd n0 D cA 1 Q 0 0 M sz 0 [(0, gJ a)] []
  refine g_iload_n (n := 1) X 0 dJ_bit_0 rfl rfl rfl ?_
  refine g_iload_n (n := 2) X 0 dJ_bit_1 rfl rfl rfl ?_
  refine g_iconst (n := 3) X dJ_bit_2 rfl ?_
  refine g_iushrA (n := 4) X dJ_bit_3 rfl (fun v1 rv1 xv1 => ?_)
  clear xv1
  refine g_ldcw (n := 7) (z := 1431655765) X dJ_bit_4 kw_3_188 (by decide +kernel) rfl ?_
  refine g_iandC (n := 8) X dJ_bit_7 (by decide) rfl (fun v2 rv2 xv2 => ?_)
  clear xv2
  refine g_isubA (n := 9) X dJ_bit_8 rfl (fun v3 rv3 xv3 => ?_)
  clear xv3
  refine g_istore_n (n := 10) (L' := [(0, gJ v3)]) X dJ_bit_9 rfl (by decide) rfl rfl ?_
  refine g_iload_n (n := 11) X 0 dJ_bit_10 rfl rfl rfl ?_
  refine g_ldcw (n := 14) (z := 858993459) X dJ_bit_11 kw_3_189 (by decide +kernel) rfl ?_
  refine g_iandC (n := 15) X dJ_bit_14 (by decide) rfl (fun v4 rv4 xv4 => ?_)
  clear xv4
  refine g_iload_n (n := 16) X 0 dJ_bit_15 rfl rfl rfl ?_
  refine g_iconst (n := 17) X dJ_bit_16 rfl ?_
  refine g_iushrA (n := 18) X dJ_bit_17 rfl (fun v5 rv5 xv5 => ?_)
  clear xv5
  refine g_ldcw (n := 21) (z := 858993459) X dJ_bit_18 kw_3_189 (by decide +kernel) rfl ?_
  refine g_iandC (n := 22) X dJ_bit_21 (by decide) rfl (fun v6 rv6 xv6 => ?_)
  clear xv6
  refine g_iadd (n := 23) (z := v4 + v6) X dJ_bit_22 rfl rfl ?_
  refine g_istore_n (n := 24) (L' := [(0, gJ (v4 + v6))]) X dJ_bit_23 rfl (by decide) rfl rfl ?_
  refine g_iload_n (n := 25) X 0 dJ_bit_24 rfl rfl rfl ?_
  refine g_iload_n (n := 26) X 0 dJ_bit_25 rfl rfl rfl ?_
  refine g_iconst (n := 27) X dJ_bit_26 rfl ?_
  refine g_iushrA (n := 28) X dJ_bit_27 rfl (fun v7 rv7 xv7 => ?_)
  clear xv7
  refine g_iaddA (n := 29) X dJ_bit_28 rfl (fun v8 rv8 xv8 => ?_)
  clear xv8
  refine g_ldcw (n := 32) (z := 252645135) X dJ_bit_29 kw_3_190 (by decide +kernel) rfl ?_
  refine g_iandC (n := 33) X dJ_bit_32 (by decide) rfl (fun v9 rv9 xv9 => ?_)
  clear xv9
  refine g_istore_n (n := 34) (L' := [(0, gJ v9)]) X dJ_bit_33 rfl (by decide) rfl rfl ?_
  refine g_iload_n (n := 35) X 0 dJ_bit_34 rfl rfl rfl ?_
  refine g_iload_n (n := 36) X 0 dJ_bit_35 rfl rfl rfl ?_
  refine g_bipush (n := 38) X dJ_bit_36 (by decide +kernel) rfl ?_
  refine g_iushrA (n := 39) X dJ_bit_38 rfl (fun v10 rv10 xv10 => ?_)
  clear xv10
  refine g_iaddA (n := 40) X dJ_bit_39 rfl (fun v11 rv11 xv11 => ?_)
  clear xv11
  refine g_istore_n (n := 41) (L' := [(0, gJ v11)]) X dJ_bit_40 rfl (by decide) rfl rfl ?_
  refine g_iload_n (n := 42) X 0 dJ_bit_41 rfl rfl rfl ?_
  refine g_iload_n (n := 43) X 0 dJ_bit_42 rfl rfl rfl ?_
  refine g_bipush (n := 45) X dJ_bit_43 (by decide +kernel) rfl ?_
  refine g_iushrA (n := 46) X dJ_bit_45 rfl (fun v12 rv12 xv12 => ?_)
  clear xv12
  refine g_iaddA (n := 47) X dJ_bit_46 rfl (fun v13 rv13 xv13 => ?_)
  clear xv13
  refine g_istore_n (n := 48) (L' := [(0, gJ v13)]) X dJ_bit_47 rfl (by decide) rfl rfl ?_
  refine g_iload_n (n := 49) X 0 dJ_bit_48 rfl rfl rfl ?_
  refine g_bipush (n := 51) X dJ_bit_49 (by decide +kernel) rfl ?_
  refine g_iandC (n := 52) X dJ_bit_51 (by decide) rfl (fun v14 rv14 xv14 => ?_)
  clear xv14
  exact hq _ _ _ _ dJ_bit_52 ⟨rfl, by omega⟩
