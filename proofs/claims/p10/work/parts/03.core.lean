/-! ===== CORE: the whole heap above n0 as one memory of whole numbers, M offset slot; offsets, slots and values are Int ===== -/
abbrev gM : Type := Int → Int → Int
def gset (M : gM) (o k z : Int) : gM := fun a b => if a = o ∧ b = k then z else M a b
def gnew (M : gM) (o : Int) : gM := fun a b => if a = o then 0 else M a b
theorem gset_eq (M : gM) (o k z : Int) : gset M o k z o k = z := by simp [gset]
theorem gset_ne {M : gM} {o k z a b : Int} (h : ¬ (a = o ∧ b = k)) : gset M o k z a b = M a b := by simp only [gset, if_neg h]
theorem gset_at (M : gM) (o k z a b : Int) : gset M o k z a b = if a = o ∧ b = k then z else M a b := rfl
theorem gnew_eq (M : gM) (o b : Int) : gnew M o o b = 0 := by simp [gnew]
theorem gnew_ne {M : gM} {o a b : Int} (h : ¬ a = o) : gnew M o a b = M a b := by simp only [gnew, if_neg h]
abbrev gJ (z : Int) : Value := .int (Int32.ofInt z)
abbrev gV (z : Int) : Value := .long (Int64.ofInt z)
abbrev gA (n0 : Nat) (o : Int) : Value := .ref (n0 + o.toNat)
def gRf (n0 : Nat) (z : Int) : Option Nat := if z = 0 then none else some (n0 + (z - 1).toNat)
/-- a field of each type, as a value -/
def gfv (n0 : Nat) (ty : FieldType) (z : Int) : Value := match ty with
  | .long => .long (Int64.ofInt z)
  | .object _ => va_rf (gRf n0 z)
  | .array _ => va_rf (gRf n0 z)
  | _ => .int (Int32.ofInt z)
/-- what lies at an offset: (0, class) an object; (1, n) int[n], (2, n) long[n], (3, n) byte[n], (4, n) boolean[n], (5.., n) arrays of references -/
def gent (n0 : Nat) (cA : Nat → ClassId) (k : Nat × Nat) (f : Int → Int) : va_E := match k.1 with
  | 0 => .inr (k.2, (List.range (gNF k.2)).map (fun j => gfv n0 (gTY k.2 j) (f (j : Int))))
  | 1 => .inl (cA 1, k.2, .inl (fun j => Int32.ofInt (f (j : Int))))
  | 2 => .inl (cA 2, k.2, .inr (.inl (fun j => Int64.ofInt (f (j : Int)))))
  | 3 => .inl (cA 3, k.2, .inl (fun j => Int32.ofInt (f (j : Int))))
  | 4 => .inl (cA 4, k.2, .inl (fun j => Int32.ofInt (f (j : Int))))
  | i + 5 => .inl (cA (i + 5), k.2, .inr (.inr (.inr (.inr (fun j => gRf n0 (f (j : Int)))))))
def gws (n0 : Nat) (cA : Nat → ClassId) (M : gM) (sz : Nat) : va_W := (List.range sz).map (fun (o : Nat) => (n0 + o, gent n0 cA (glay (o : Int)) (M (o : Int))))
abbrev gtys (cA : Nat → ClassId) : List (ClassId × FieldType) := [(cA 1, .int), (cA 2, .long), (cA 3, .byte), (cA 4, .boolean), (cA 5, .object RX0), (cA 6, .object RX6), (cA 7, .object RX8)]
def gWd (n0 : Nat) (D : va_G) (cA : Nat → ClassId) (M : gM) (sz : Nat) (H : Heap) : Prop := H.size = n0 + sz ∧ va_P D vwCl (gws n0 cA M sz) H
theorem gws_get (n0 : Nat) (cA : Nat → ClassId) (M : gM) {sz : Nat} {o : Int} (h0 : 0 ≤ o) (h1 : o < (sz : Int)) : (gws n0 cA M sz)[o.toNat]? = some (n0 + o.toNat, gent n0 cA (glay o) (M o)) := by
  have h2 : o.toNat < sz := by omega
  have h3 : ((o.toNat : Nat) : Int) = o := by omega
  simp only [gws, List.getElem?_map, List.getElem?_range h2, Option.map_some, h3]
theorem gws_D (n0 : Nat) (cA : Nat → ClassId) (M : gM) (sz : Nat) : va_D (fun q => n0 ≤ q) (gws n0 cA M sz) := by
  have key : ∀ (i : Nat) (p : Nat × va_E), (gws n0 cA M sz)[i]? = some p → p.1 = n0 + i := by
    intro i p h
    simp only [gws, List.getElem?_map] at h
    cases hi : (List.range sz)[i]? with
    | none => rw [hi] at h; cases h
    | some x =>
      rw [hi] at h
      have hx := (List.getElem?_eq_some_iff.mp hi).2
      rw [List.getElem_range] at hx
      subst hx
      have h2 := Option.some.inj h
      rw [← h2]
  refine ⟨fun i j p q hi hj hpq => ?_, fun k q hk => ?_⟩
  · have a := key i p hi
    have b := key j q hj
    omega
  · have a := key k q hk
    show n0 ≤ q.1
    omega
/-- one place of the world is written -/
theorem gws_set (n0 : Nat) (cA : Nat → ClassId) (M M' : gM) {sz : Nat} {o : Int} (h0 : 0 ≤ o) (h1 : o < (sz : Int)) (e : va_E) (he : e = gent n0 cA (glay o) (M' o)) (ho : ∀ a : Int, a ≠ o → M' a = M a) : (gws n0 cA M sz).set o.toNat (n0 + o.toNat, e) = gws n0 cA M' sz := by
  subst he
  have h2 : o.toNat < sz := by omega
  have h3 : ((o.toNat : Nat) : Int) = o := by omega
  refine List.ext_getElem? fun i => ?_
  by_cases hi : i = o.toNat
  · subst hi
    rw [List.getElem?_set_self (by simpa [gws] using h2), gws_get n0 cA M' h0 h1]
  · rw [List.getElem?_set_ne (Ne.symm hi)]
    simp only [gws, List.getElem?_map]
    cases hr : (List.range sz)[i]? with
    | none => rfl
    | some x =>
      have hx := (List.getElem?_eq_some_iff.mp hr).2
      rw [List.getElem_range] at hx
      subst hx
      have hne : (i : Int) ≠ o := by omega
      simp only [Option.map_some, ho _ hne]
theorem gws_push (n0 : Nat) (cA : Nat → ClassId) (M M' : gM) (sz : Nat) (e : va_E) (he : e = gent n0 cA (glay (sz : Int)) (M' (sz : Int))) (ho : ∀ a : Int, a ≠ (sz : Int) → M' a = M a) : gws n0 cA M sz ++ [(n0 + sz, e)] = gws n0 cA M' (sz + 1) := by
  subst he
  simp only [gws, List.range_succ, List.map_append, List.map_cons, List.map_nil]
  congr 1
  refine List.map_congr_left fun i hi => ?_
  have : i < sz := List.mem_range.mp hi
  rw [ho (i : Int) (by omega)]
theorem gset_off {M : gM} {o k z : Int} : ∀ a : Int, a ≠ o → gset M o k z a = M a := fun a h => by funext b; exact gset_ne (fun q => h q.1)
theorem gset_on {M : gM} {o k z : Int} : gset M o k z o = fun b => if b = k then z else M o b := by funext b; simp [gset]
theorem gnew_off {M : gM} {o : Int} : ∀ a : Int, a ≠ o → gnew M o a = M a := fun a h => by funext b; exact gnew_ne h
theorem gnew_on {M : gM} {o : Int} : gnew M o o = fun _ => 0 := by funext b; simp [gnew]
/-! numbers -/
theorem gi_toInt {z : Int} (h : -2147483648 ≤ z ∧ z ≤ 2147483647) : (Int32.ofInt z).toInt = z := by
  rw [Int32.toInt_ofInt]
  exact Int.bmod_eq_of_le (by show -(Int.ofNat (Int32.size / 2)) ≤ z; simp [Int32.size]; omega) (by simp [Int32.size]; omega)
theorem gi_of (x : Int32) : x = Int32.ofInt x.toInt := (Int32.ofInt_toInt x).symm
theorem gi_rg (x : Int32) : -2147483648 ≤ x.toInt ∧ x.toInt ≤ 2147483647 := ⟨Int32.le_toInt x, by have := Int32.toInt_lt x; omega⟩
theorem gi_lt {a b : Int} (ha : -2147483648 ≤ a ∧ a ≤ 2147483647) (hb : -2147483648 ≤ b ∧ b ≤ 2147483647) : Int32.ofInt a < Int32.ofInt b ↔ a < b := by rw [Int32.lt_iff_toInt_lt, gi_toInt ha, gi_toInt hb]
theorem gi_le {a b : Int} (ha : -2147483648 ≤ a ∧ a ≤ 2147483647) (hb : -2147483648 ≤ b ∧ b ≤ 2147483647) : Int32.ofInt a ≤ Int32.ofInt b ↔ a ≤ b := by rw [Int32.le_iff_toInt_le, gi_toInt ha, gi_toInt hb]
theorem gi_eq {a b : Int} (ha : -2147483648 ≤ a ∧ a ≤ 2147483647) (hb : -2147483648 ≤ b ∧ b ≤ 2147483647) : Int32.ofInt a = Int32.ofInt b ↔ a = b := by rw [← Int32.toInt_inj, gi_toInt ha, gi_toInt hb]
theorem gi_0 : (0 : Int32) = Int32.ofInt 0 := by decide +kernel
theorem gi_in {i : Int} {n : Nat} (h0 : 0 ≤ i) (h1 : i < (n : Int)) (hn : (n : Int) ≤ 2147483647) : vp_in (Int32.ofInt i) n := by
  rw [vp_in_iff, gi_toInt ⟨by omega, by omega⟩]
  exact ⟨h0, h1⟩
theorem gi_cl {i : Int} (h0 : 0 ≤ i) (h1 : i ≤ 2147483647) : (((Int32.ofInt i).toNatClampNeg : Nat) : Int) = i := by
  show (((Int32.ofInt i).toInt.toNat : Nat) : Int) = i
  rw [gi_toInt ⟨by omega, h1⟩]
  omega
theorem gl_of (x : Int64) : x = Int64.ofInt x.toInt := (Int64.ofInt_toInt x).symm
theorem gl_rg (x : Int64) : -9223372036854775808 ≤ x.toInt ∧ x.toInt ≤ 9223372036854775807 := ⟨Int64.le_toInt x, by have := Int64.toInt_lt x; omega⟩
theorem gl_toInt {z : Int} (h : -9223372036854775808 ≤ z ∧ z ≤ 9223372036854775807) : (Int64.ofInt z).toInt = z := by
  rw [Int64.toInt_ofInt]
  exact Int.bmod_eq_of_le (by simp [Int64.size]; omega) (by simp [Int64.size]; omega)
theorem gl_lt {a b : Int} (ha : -9223372036854775808 ≤ a ∧ a ≤ 9223372036854775807) (hb : -9223372036854775808 ≤ b ∧ b ≤ 9223372036854775807) : Int64.ofInt a < Int64.ofInt b ↔ a < b := by rw [Int64.lt_iff_toInt_lt, gl_toInt ha, gl_toInt hb]
theorem gl_eq {a b : Int} (ha : -9223372036854775808 ≤ a ∧ a ≤ 9223372036854775807) (hb : -9223372036854775808 ≤ b ∧ b ≤ 9223372036854775807) : Int64.ofInt a = Int64.ofInt b ↔ a = b := by rw [← Int64.toInt_inj, gl_toInt ha, gl_toInt hb]
theorem gi_and_m1 (a : Int) : Int32.ofInt a &&& Int32.ofInt (-1) = Int32.ofInt a := by
  have h : (Int32.ofInt (-1)) = -1 := by decide +kernel
  rw [h]
  exact Int32.and_neg_one
def gP10 (i : Int) : Int := if i = 0 then 1 else if i = 1 then 10 else if i = 2 then 100 else if i = 3 then 1000 else if i = 4 then 10000 else if i = 5 then 100000 else if i = 6 then 1000000 else if i = 7 then 10000000 else if i = 8 then 100000000 else if i = 9 then 1000000000 else 10000000000
theorem gP10_s {i : Int} (h0 : 0 ≤ i) (h1 : i < 10) : gP10 (i + 1) = gP10 i * 10 := by
  have h : i = 0 ∨ i = 1 ∨ i = 2 ∨ i = 3 ∨ i = 4 ∨ i = 5 ∨ i = 6 ∨ i = 7 ∨ i = 8 ∨ i = 9 := by omega
  rcases h with rfl | rfl | rfl | rfl | rfl | rfl | rfl | rfl | rfl | rfl <;> decide
theorem gP10_b {i : Int} : 1 ≤ gP10 i ∧ gP10 i ≤ 10000000000 := by
  unfold gP10
  repeat' split
  all_goals omega
def gcpy (M : gM) (o1 o0 z : Int) : gM := fun a b => if a = o1 ∧ 0 ≤ b ∧ b < z then M o0 b else M a b
theorem gcpy_off {M : gM} {o1 o0 z : Int} : ∀ a : Int, a ≠ o1 → gcpy M o1 o0 z a = M a := fun a h => by funext b; simp only [gcpy]; rw [if_neg (fun q => h q.1)]
theorem gcpy_ne {M : gM} {o1 o0 z a b : Int} (h : ¬ (a = o1)) : gcpy M o1 o0 z a b = M a b := by simp only [gcpy]; rw [if_neg (fun q => h q.1)]
/-! what every method may use -/
def gNM (U : State) : Prop := ∀ q ∈ gNestM, va_Nw (.methodLinkNest q.1 q.2.1 q.2.2.1 q.2.2.2) U
def gNFs (U : State) : Prop := ∀ q ∈ gNestF, va_Nw (.fieldLinkNest q.1 q.2.1 q.2.2.1 q.2.2.2.1 q.2.2.2.2.1 q.2.2.2.2.2) U
def gK (D : va_G) (cA : Nat → ClassId) (U : State) : Prop := va_K D vwCl (gtys cA) U ∧ gNM U ∧ gNFs U ∧ va_AO RX0 U ∧ va_AO RX6 U ∧ va_AO RX8 U ∧ ∀ (i : Nat) (q : String × Nat × String × List Int32), gSO[i]? = some q → vk_R q.1 q.2.1 q.2.2.1 (cA (100 + i)) U
theorem gK.same {D : va_G} {cA : Nat → ClassId} {u U : State} (h : u.vm = U.vm) (k : gK D cA u) : gK D cA U := by
  obtain ⟨k1, k2, k3, k4, k5, k6, k7⟩ := k
  have ha : u.vm.Alike U.vm := by rw [h]; exact Vm.Alike.refl _
  exact ⟨va_K.moved ha k1, fun q hq => va_Nw.same rfl h (k2 q hq), fun q hq => va_Nw.same rfl h (k3 q hq), va_AO.moved ha k4, va_AO.moved ha k5, va_AO.moved ha k6, fun i q hq => vk_R.same h.symm (k7 i q hq)⟩
theorem gK.warm {D : va_G} {cA : Nat → ClassId} {s U : State} (h : s.WarmedH U.vm) (k : gK D cA s) : gK D cA U := by
  obtain ⟨k1, k2, k3, k4, k5, k6, k7⟩ := k
  exact ⟨va_K.moved h.alike k1, fun q hq => va_Nw.warmM h (k2 q hq), fun q hq => va_Nw.warmF h (k3 q hq), va_AO.moved h.alike k4, va_AO.moved h.alike k5, va_AO.moved h.alike k6, fun i q hq => vk_R.warm h (k7 i q hq)⟩
/-- the two arrays that statics hold, below n0; the String constants -/
def gArr (n0 : Nat) (U : State) (H : Heap) : Prop := n0 ≤ H.size ∧ ∃ b1 b2 : Nat, va_Z "ParishUnion" "KIND_ABOVE" "[I" (.ref b1) (fun q => n0 ≤ q) U H ∧ va_T .int b1 5 (fun j => .int (gKA j)) (fun q => n0 ≤ q) U H ∧ va_Z "ParishUnion" "WITHOUT_ACTS" "[I" (.ref b2) (fun q => n0 ≤ q) U H ∧ va_T .int b2 10 (fun j => .int (gWA j)) (fun q => n0 ≤ q) U H
def gStrs (n0 : Nat) (cA : Nat → ClassId) (U : State) (H : Heap) : Prop := (∀ (i : Nat) (q : String × Nat × String × List Int32), gSO[i]? = some q → va_O "java/lang/String" (cA (100 + i)) (fun q => n0 ≤ q) U H ∧ va_OF "java/lang/String" "coder" "B" (.int 0) (cA (100 + i)) (fun q => n0 ≤ q) U H ∧ va_OF "java/lang/String" "value" "[B" (.ref (cA (200 + i))) (cA (100 + i)) (fun q => n0 ≤ q) U H ∧ va_T .byte (cA (200 + i)) q.2.2.2.length (fun j => .int (q.2.2.2.getD j 0)) (fun q => n0 ≤ q) U H) ∧ va_Z "java/lang/String" "COMPACT_STRINGS" "Z" (.int 1) (fun q => n0 ≤ q) U H ∧ ∃ v : Value, (v = .null ∨ ∃ a : Nat, v = .ref a) ∧ va_Z "jdk/internal/util/Preconditions" "SIOOBE_FORMATTER" "Ljava/util/function/BiFunction;" v (fun q => n0 ≤ q) U H
def gOld (n0 : Nat) (cA : Nat → ClassId) (U : State) (H : Heap) : Prop := gArr n0 U H ∧ gStrs n0 cA U H
theorem gOld.moved {n0 : Nat} {cA : Nat → ClassId} {u U : State} {H : Heap} (h : u.vm.Alike U.vm) (k : gOld n0 cA u H) : gOld n0 cA U H := by
  obtain ⟨⟨k0, b1, b2, k3, k4, k5, k6⟩, kS, kC, kv, kv1, kv2⟩ := k
  exact ⟨⟨k0, b1, b2, va_Z.moved h k3, va_T.moved h k4, va_Z.moved h k5, va_T.moved h k6⟩, fun i q hq => ⟨va_O.moved h (kS i q hq).1, va_OF.moved h (kS i q hq).2.1, va_OF.moved h (kS i q hq).2.2.1, va_T.moved h (kS i q hq).2.2.2⟩, va_Z.moved h kC, kv, kv1, va_Z.moved h kv2⟩
theorem gOld.kept {n0 : Nat} {cA : Nat → ClassId} {U : State} {H H1 : Heap} (k : gOld n0 cA U H) (hz : H.size ≤ H1.size) (hq : ∀ q : Nat, q < H.size → ¬ n0 ≤ q → H1[q]? = H[q]?) : gOld n0 cA U H1 := by
  obtain ⟨⟨k0, b1, b2, k3, k4, k5, k6⟩, kS, kC, kv, kv1, kv2⟩ := k
  exact ⟨⟨Nat.le_trans k0 hz, b1, b2, va_Z.kept k3 hq, va_T.kept k4 hq, va_Z.kept k5 hq, va_T.kept k6 hq⟩, fun i q h => ⟨(kS i q h).1.kept hq, (kS i q h).2.1.kept hq, (kS i q h).2.2.1.kept hq, (kS i q h).2.2.2.kept hq⟩, va_Z.kept kC hq, kv, kv1, va_Z.kept kv2 hq⟩
/-! contracts -/
def gQs (n0 : Nat) (D : va_G) (cA : Nat → ClassId) (sz : Nat) (Po : Int → gM → Prop) : Array Value → State → Outcome → State → Prop := va_Qr (S := Int × gM) (fun u => Po u.1 u.2) (fun u a t => a = cA (100 + u.1.toNat) ∧ gWd n0 D cA u.2 sz t.heap) (fun q => n0 ≤ q)
def gPc (n0 : Nat) (D : va_G) (cA : Nat → ClassId) (av : List Value) (M : gM) (sz : Nat) : Array Value → State → Prop := va_Pc av (fun U => gWd n0 D cA M sz U.heap ∧ gK D cA U ∧ gOld n0 cA U U.heap)
def gQi (n0 : Nat) (D : va_G) (cA : Nat → ClassId) (sz : Nat) (Po : Int → gM → Prop) : Array Value → State → Outcome → State → Prop := va_Qi (S := Int × gM) (fun r u => r = Int32.ofInt u.1 ∧ Po u.1 u.2) (fun u t => gWd n0 D cA u.2 sz t.heap) (fun q => n0 ≤ q)
def gQl (n0 : Nat) (D : va_G) (cA : Nat → ClassId) (sz : Nat) (Po : Int → gM → Prop) : Array Value → State → Outcome → State → Prop := va_Ql (S := Int × gM) (fun r u => r = Int64.ofInt u.1 ∧ Po u.1 u.2) (fun u t => gWd n0 D cA u.2 sz t.heap) (fun q => n0 ≤ q)
def gQv (n0 : Nat) (D : va_G) (cA : Nat → ClassId) (sz : Nat) (Po : gM → Prop) : Array Value → State → Outcome → State → Prop := va_Qv (S := gM) (fun u => Po u) (fun u t => gWd n0 D cA u sz t.heap) (fun q => n0 ≤ q)
theorem gPc_blind {n0 : Nat} {D : va_G} {cA : Nat → ClassId} {av : List Value} {M : gM} {sz : Nat} : FrameBlind (gPc n0 D cA av M sz) := fun a U g mk q => ⟨q.1, q.2.1, gK.same (u := U) (U := U.calling g mk a) rfl q.2.2.1, gOld.moved (u := U) (U := U.calling g mk a) (Vm.Alike.refl U.vm) q.2.2.2⟩
abbrev gWsOf (y : MethodName) (bytes : ByteArray) (maxL : Nat) (ret : Option FieldType) : List Cond := .code y bytes maxL ret :: gT
theorem gT_good : GoodIn gT gT := fun w hw => ⟨hw, good_of_word (List.mem_filter.mp hw).2⟩
theorem gT_ok {y : MethodName} {bytes : ByteArray} {maxL : Nat} {ret : Option FieldType} (h : Cond.code y bytes maxL ret ∈ gT) : GoodIn gT (gWsOf y bytes maxL ret) := fun w hw => (List.mem_cons.mp hw).elim (fun e => e ▸ gT_good _ h) (fun e => gT_good _ e)
theorem gT_in {i : Nat} {w : Cond} (h : lw_tbl[i]? = some w) (hg : goodWord w = true) : w ∈ gT := List.mem_filter.mpr ⟨List.mem_of_getElem? h, hg⟩
def gCx (p : Program) (s : State) (m : MethodId) (args : Array Value) (meth : Method) (c : Code) (n0 : Nat) (D : va_G) (cA : Nat → ClassId) (own : String) (cc : ByteArray) (nL : Nat) : Prop :=
  p.tables.exec = Jvm.exec ∧ c.code = cc ∧ c.maxLocals = nL ∧ s.vm.findClass own = some m.cls ∧ (∀ w ∈ gT, w.before args s = true) ∧ meth.locks = false ∧ gK D cA s ∧ gOld n0 cA s s.heap
def G (p : Program) (l : Launch) (e : Env) (R : Room) (s : State) (m : MethodId) (args : Array Value) (below : List Frame) (meth : Method) (c : Code) (n0 : Nat) (D : va_G) (cA : Nat → ClassId) (nL : Nat) (Q : State → Prop) (cells slots : Nat) (M : gM) (sz : Nat) (pc : Nat) (L : List (Nat × Value)) (st : List Value) : Prop :=
  ∀ (H : Heap) (locs : List Loc) (ls : Array Slot), lv_has ls nL L → gWd n0 D cA M sz H → va_S (fun q => n0 ≤ q) s.heap H locs → W p l e R s m args below meth c H locs cells slots Q (F0 m pc ls st)
section GROWS
variable {p : Program} {l : Launch} {e : Env} {R : Room} {s : State} {m : MethodId} {args : Array Value} {below : List Frame} {meth : Method} {c : Code} {n0 : Nat} {D : va_G} {cA : Nat → ClassId} {nL : Nat} {Q : State → Prop} {cells slots : Nat} {M : gM} {sz pc n : Nat} {L : List (Nat × Value)} {st : List Value} {own : String} {cc : ByteArray}
theorem G.widen {k j : Nat} (h1 : cells ≤ k) (h2 : slots ≤ j) (kk : G p l e R s m args below meth c n0 D cA nL Q k j M sz pc L st) : G p l e R s m args below meth c n0 D cA nL Q cells slots M sz pc L st := fun H locs ls hl hW hS => W.widen h1 h2 (kk H locs ls hl hW hS)
theorem G.sub {L' : List (Nat × Value)} (ks : List Nat) (hl : lv_pick L ks = L') (kk : G p l e R s m args below meth c n0 D cA nL Q cells slots M sz pc L' st) : G p l e R s m args below meth c n0 D cA nL Q cells slots M sz pc L st := fun H locs ls h hW hS => kk H locs ls (lv_sub h ks hl) hW hS
theorem G.cong {M' : gM} (h : M = M') (kk : G p l e R s m args below meth c n0 D cA nL Q cells slots M' sz pc L st) : G p l e R s m args below meth c n0 D cA nL Q cells slots M sz pc L st := h ▸ kk
theorem g_iload (X : gCx p s m args meth c n0 D cA own cc nL) (k : Nat) {i : Nat} {z : Int} (hd : decode cc pc = .ok (.iload i, 2)) (hk : L[k]? = some (i, gJ z)) (hn : pc + 2 = n) (kk : G p l e R s m args below meth c n0 D cA nL Q cells slots M sz n L (gJ z :: st)) : G p l e R s m args below meth c n0 D cA nL Q cells slots M sz pc L st := by
  subst hn
  exact fun H locs ls hl hW hS => lv_iload X.1 X.2.1 hd (lv_at hl k hk) (kk H locs ls hl hW hS)
theorem g_iload_n (X : gCx p s m args meth c n0 D cA own cc nL) (k : Nat) {j : Fin 4} {i : Nat} {z : Int} (hd : decode cc pc = .ok (.iload_n j, 1)) (hi : (j : Nat) = i) (hk : L[k]? = some (i, gJ z)) (hn : pc + 1 = n) (kk : G p l e R s m args below meth c n0 D cA nL Q cells slots M sz n L (gJ z :: st)) : G p l e R s m args below meth c n0 D cA nL Q cells slots M sz pc L st := by
  subst hn
  exact fun H locs ls hl hW hS => lv_iload_n X.1 X.2.1 hd hi (lv_at hl k hk) (kk H locs ls hl hW hS)
theorem g_aload (X : gCx p s m args meth c n0 D cA own cc nL) (k : Nat) {i : Nat} {o : Nat} (hd : decode cc pc = .ok (.aload i, 2)) (hk : L[k]? = some (i, .ref o)) (hn : pc + 2 = n) (kk : G p l e R s m args below meth c n0 D cA nL Q cells slots M sz n L (.ref o :: st)) : G p l e R s m args below meth c n0 D cA nL Q cells slots M sz pc L st := by
  subst hn
  exact fun H locs ls hl hW hS => lv_aload X.1 X.2.1 hd (lv_at hl k hk) (kk H locs ls hl hW hS)
theorem g_aload_n (X : gCx p s m args meth c n0 D cA own cc nL) (k : Nat) {j : Fin 4} {i : Nat} {o : Nat} (hd : decode cc pc = .ok (.aload_n j, 1)) (hi : (j : Nat) = i) (hk : L[k]? = some (i, .ref o)) (hn : pc + 1 = n) (kk : G p l e R s m args below meth c n0 D cA nL Q cells slots M sz n L (.ref o :: st)) : G p l e R s m args below meth c n0 D cA nL Q cells slots M sz pc L st := by
  subst hn
  exact fun H locs ls hl hW hS => lv_aload_n X.1 X.2.1 hd hi (lv_at hl k hk) (kk H locs ls hl hW hS)
theorem g_lload (X : gCx p s m args meth c n0 D cA own cc nL) (k : Nat) {i : Nat} {z : Int} (hd : decode cc pc = .ok (.lload i, 2)) (hk : L[k]? = some (i, gV z)) (hn : pc + 2 = n) (kk : G p l e R s m args below meth c n0 D cA nL Q cells slots M sz n L (gV z :: st)) : G p l e R s m args below meth c n0 D cA nL Q cells slots M sz pc L st := by
  subst hn
  exact fun H locs ls hl hW hS => lv_lload X.1 X.2.1 hd (lv_at hl k hk) (kk H locs ls hl hW hS)
theorem g_lload_n (X : gCx p s m args meth c n0 D cA own cc nL) (k : Nat) {j : Fin 4} {i : Nat} {z : Int} (hd : decode cc pc = .ok (.lload_n j, 1)) (hi : (j : Nat) = i) (hk : L[k]? = some (i, gV z)) (hn : pc + 1 = n) (kk : G p l e R s m args below meth c n0 D cA nL Q cells slots M sz n L (gV z :: st)) : G p l e R s m args below meth c n0 D cA nL Q cells slots M sz pc L st := by
  subst hn
  exact fun H locs ls hl hW hS => lv_lload_n X.1 X.2.1 hd hi (lv_at hl k hk) (kk H locs ls hl hW hS)
theorem g_istore (X : gCx p s m args meth c n0 D cA own cc nL) {i : Nat} {z : Int} {L' : List (Nat × Value)} (hd : decode cc pc = .ok (.istore i, 2)) (hn' : i < nL) (hL : (i, gJ z) :: L.filter (fun q => !(q.1 == i) && !(q.1 + 1 == i && q.2.category == 2)) = L') (hn : pc + 2 = n) (kk : G p l e R s m args below meth c n0 D cA nL Q cells slots M sz n L' st) : G p l e R s m args below meth c n0 D cA nL Q cells slots M sz pc L (gJ z :: st) := by
  subst hn
  exact fun H locs ls hl hW hS => lv_istore X.1 X.2.1 hd hl hn' hL (fun ls hl => kk H locs ls hl hW hS)
theorem g_istore_n (X : gCx p s m args meth c n0 D cA own cc nL) {j : Fin 4} {i : Nat} {z : Int} {L' : List (Nat × Value)} (hd : decode cc pc = .ok (.istore_n j, 1)) (hi : (j : Nat) = i) (hn' : i < nL) (hL : (i, gJ z) :: L.filter (fun q => !(q.1 == i) && !(q.1 + 1 == i && q.2.category == 2)) = L') (hn : pc + 1 = n) (kk : G p l e R s m args below meth c n0 D cA nL Q cells slots M sz n L' st) : G p l e R s m args below meth c n0 D cA nL Q cells slots M sz pc L (gJ z :: st) := by
  subst hn
  exact fun H locs ls hl hW hS => lv_istore_n X.1 X.2.1 hd hi hl hn' hL (fun ls hl => kk H locs ls hl hW hS)
theorem g_astore (X : gCx p s m args meth c n0 D cA own cc nL) {i : Nat} {o : Nat} {L' : List (Nat × Value)} (hd : decode cc pc = .ok (.astore i, 2)) (hn' : i < nL) (hL : (i, .ref o) :: L.filter (fun q => !(q.1 == i) && !(q.1 + 1 == i && q.2.category == 2)) = L') (hn : pc + 2 = n) (kk : G p l e R s m args below meth c n0 D cA nL Q cells slots M sz n L' st) : G p l e R s m args below meth c n0 D cA nL Q cells slots M sz pc L (.ref o :: st) := by
  subst hn
  exact fun H locs ls hl hW hS => lv_astore X.1 X.2.1 hd hl hn' hL (fun ls hl => kk H locs ls hl hW hS)
theorem g_astore_n (X : gCx p s m args meth c n0 D cA own cc nL) {j : Fin 4} {i : Nat} {o : Nat} {L' : List (Nat × Value)} (hd : decode cc pc = .ok (.astore_n j, 1)) (hi : (j : Nat) = i) (hn' : i < nL) (hL : (i, .ref o) :: L.filter (fun q => !(q.1 == i) && !(q.1 + 1 == i && q.2.category == 2)) = L') (hn : pc + 1 = n) (kk : G p l e R s m args below meth c n0 D cA nL Q cells slots M sz n L' st) : G p l e R s m args below meth c n0 D cA nL Q cells slots M sz pc L (.ref o :: st) := by
  subst hn
  exact fun H locs ls hl hW hS => lv_astore_n X.1 X.2.1 hd hi hl hn' hL (fun ls hl => kk H locs ls hl hW hS)
theorem g_lstore (X : gCx p s m args meth c n0 D cA own cc nL) {i : Nat} {z : Int} {L' : List (Nat × Value)} (hd : decode cc pc = .ok (.lstore i, 2)) (hn' : i + 1 < nL) (hL : (i, gV z) :: L.filter (fun q => !(q.1 == i) && (!(q.1 == i + 1) && !(q.1 + 1 == i && q.2.category == 2))) = L') (hn : pc + 2 = n) (kk : G p l e R s m args below meth c n0 D cA nL Q cells slots M sz n L' st) : G p l e R s m args below meth c n0 D cA nL Q cells slots M sz pc L (gV z :: st) := by
  subst hn
  exact fun H locs ls hl hW hS => lv_lstore X.1 X.2.1 hd hl hn' hL (fun ls hl => kk H locs ls hl hW hS)
theorem g_lstore_n (X : gCx p s m args meth c n0 D cA own cc nL) {j : Fin 4} {i : Nat} {z : Int} {L' : List (Nat × Value)} (hd : decode cc pc = .ok (.lstore_n j, 1)) (hi : (j : Nat) = i) (hn' : i + 1 < nL) (hL : (i, gV z) :: L.filter (fun q => !(q.1 == i) && (!(q.1 == i + 1) && !(q.1 + 1 == i && q.2.category == 2))) = L') (hn : pc + 1 = n) (kk : G p l e R s m args below meth c n0 D cA nL Q cells slots M sz n L' st) : G p l e R s m args below meth c n0 D cA nL Q cells slots M sz pc L (gV z :: st) := by
  subst hn
  exact fun H locs ls hl hW hS => lv_lstore_n X.1 X.2.1 hd hi hl hn' hL (fun ls hl => kk H locs ls hl hW hS)
theorem g_iinc (X : gCx p s m args meth c n0 D cA own cc nL) (k : Nat) {i : Nat} {d z w : Int} {L' : List (Nat × Value)} (hd : decode cc pc = .ok (.iinc i d, 3)) (hk : L[k]? = some (i, gJ z)) (hv : z + d = w) (hn' : i < nL) (hL : (i, gJ w) :: L.filter (fun q => !(q.1 == i) && !(q.1 + 1 == i && q.2.category == 2)) = L') (hn : pc + 3 = n) (kk : G p l e R s m args below meth c n0 D cA nL Q cells slots M sz n L' st) : G p l e R s m args below meth c n0 D cA nL Q cells slots M sz pc L st := by
  subst hn
  exact fun H locs ls hl hW hS => lv_iinc (v := Int32.ofInt w) X.1 X.2.1 hd hl hk (by rw [← Int32.ofInt_add, hv]) hn' hL (fun ls hl => kk H locs ls hl hW hS)
theorem g_iconst (X : gCx p s m args meth c n0 D cA own cc nL) {z : Int} (hd : decode cc pc = .ok (.iconst z, 1))  (hn : pc + 1 = n) (kk : G p l e R s m args below meth c n0 D cA nL Q cells slots M sz n L (gJ z :: st)) : G p l e R s m args below meth c n0 D cA nL Q cells slots M sz pc L st := by
  subst hn
  exact fun H locs ls hl hW hS => lv_iconst X.1 X.2.1 hd rfl (kk H locs ls hl hW hS)
theorem g_bipush (X : gCx p s m args meth c n0 D cA own cc nL) {z : Int} (hd : decode cc pc = .ok (.bipush z, 2)) (hv : (Int8.ofInt z).toInt32 = Int32.ofInt z) (hn : pc + 2 = n) (kk : G p l e R s m args below meth c n0 D cA nL Q cells slots M sz n L (gJ z :: st)) : G p l e R s m args below meth c n0 D cA nL Q cells slots M sz pc L st := by
  subst hn
  exact fun H locs ls hl hW hS => lv_bipush X.1 X.2.1 hd hv (kk H locs ls hl hW hS)
theorem g_sipush (X : gCx p s m args meth c n0 D cA own cc nL) {z : Int} (hd : decode cc pc = .ok (.sipush z, 3)) (hv : (Int16.ofInt z).toInt32 = Int32.ofInt z) (hn : pc + 3 = n) (kk : G p l e R s m args below meth c n0 D cA nL Q cells slots M sz n L (gJ z :: st)) : G p l e R s m args below meth c n0 D cA nL Q cells slots M sz pc L st := by
  subst hn
  exact fun H locs ls hl hW hS => lv_sipush X.1 X.2.1 hd hv (kk H locs ls hl hW hS)
theorem g_lconst (X : gCx p s m args meth c n0 D cA own cc nL) {j : Fin 2} {z : Int} (hd : decode cc pc = .ok (.lconst j, 1)) (hv : Int64.ofNat (j : Nat) = Int64.ofInt z) (hn : pc + 1 = n) (kk : G p l e R s m args below meth c n0 D cA nL Q cells slots M sz n L (gV z :: st)) : G p l e R s m args below meth c n0 D cA nL Q cells slots M sz pc L st := by
  subst hn
  exact fun H locs ls hl hW hS => lv_lconst X.1 X.2.1 hd hv (kk H locs ls hl hW hS)
theorem g_ldc (X : gCx p s m args meth c n0 D cA own cc nL) {index : Nat} {v : Int32} {z : Int} (hd : decode cc pc = .ok (.ldc index, 2)) (hw : Cond.constant own index v ∈ gT) (hv : Int32.ofInt z = v) (hn : pc + 2 = n) (kk : G p l e R s m args below meth c n0 D cA nL Q cells slots M sz n L (gJ z :: st)) : G p l e R s m args below meth c n0 D cA nL Q cells slots M sz pc L st := by
  subst hn
  exact fun H locs ls hl hW hS => lv_ldc X.1 X.2.1 X.2.2.2.1 (X.2.2.2.2.1 _ hw) hd (hv ▸ (kk H locs ls hl hW hS))
theorem g_ldc2 (X : gCx p s m args meth c n0 D cA own cc nL) {index : Nat} {v : Int64} {z : Int} (hd : decode cc pc = .ok (.ldc2_w index, 3)) (hw : Cond.constantLong own index v ∈ gT) (hv : Int64.ofInt z = v) (hn : pc + 3 = n) (kk : G p l e R s m args below meth c n0 D cA nL Q cells slots M sz n L (gV z :: st)) : G p l e R s m args below meth c n0 D cA nL Q cells slots M sz pc L st := by
  subst hn
  exact fun H locs ls hl hW hS => lv_ldc2 X.1 X.2.1 X.2.2.2.1 (X.2.2.2.2.1 _ hw) hd (hv ▸ (kk H locs ls hl hW hS))
theorem g_iadd (X : gCx p s m args meth c n0 D cA own cc nL) {a b z : Int} (hd : decode cc pc = .ok (.iadd, 1)) (hv : a + b = z) (hn : pc + 1 = n) (kk : G p l e R s m args below meth c n0 D cA nL Q cells slots M sz n L (gJ z :: st)) : G p l e R s m args below meth c n0 D cA nL Q cells slots M sz pc L (gJ b :: gJ a :: st) := by
  subst hn
  exact fun H locs ls hl hW hS => lv_iadd X.1 X.2.1 hd (by rw [← Int32.ofInt_add, hv]; exact (kk H locs ls hl hW hS))
theorem g_isub (X : gCx p s m args meth c n0 D cA own cc nL) {a b z : Int} (hd : decode cc pc = .ok (.isub, 1)) (hv : a - b = z) (hn : pc + 1 = n) (kk : G p l e R s m args below meth c n0 D cA nL Q cells slots M sz n L (gJ z :: st)) : G p l e R s m args below meth c n0 D cA nL Q cells slots M sz pc L (gJ b :: gJ a :: st) := by
  subst hn
  exact fun H locs ls hl hW hS => lv_isub X.1 X.2.1 hd (by rw [← Int32.ofInt_sub, hv]; exact (kk H locs ls hl hW hS))
theorem g_imul (X : gCx p s m args meth c n0 D cA own cc nL) {a b z : Int} (hd : decode cc pc = .ok (.imul, 1)) (hv : a * b = z) (hn : pc + 1 = n) (kk : G p l e R s m args below meth c n0 D cA nL Q cells slots M sz n L (gJ z :: st)) : G p l e R s m args below meth c n0 D cA nL Q cells slots M sz pc L (gJ b :: gJ a :: st) := by
  subst hn
  exact fun H locs ls hl hW hS => lv_imul X.1 X.2.1 hd (by rw [← Int32.ofInt_mul, hv]; exact (kk H locs ls hl hW hS))
theorem g_ladd (X : gCx p s m args meth c n0 D cA own cc nL) {a b z : Int} (hd : decode cc pc = .ok (.ladd, 1)) (hv : a + b = z) (hn : pc + 1 = n) (kk : G p l e R s m args below meth c n0 D cA nL Q cells slots M sz n L (gV z :: st)) : G p l e R s m args below meth c n0 D cA nL Q cells slots M sz pc L (gV b :: gV a :: st) := by
  subst hn
  exact fun H locs ls hl hW hS => lv_ladd X.1 X.2.1 hd (by rw [← Int64.ofInt_add, hv]; exact (kk H locs ls hl hW hS))
theorem g_lsub (X : gCx p s m args meth c n0 D cA own cc nL) {a b z : Int} (hd : decode cc pc = .ok (.lsub, 1)) (hv : a - b = z) (hn : pc + 1 = n) (kk : G p l e R s m args below meth c n0 D cA nL Q cells slots M sz n L (gV z :: st)) : G p l e R s m args below meth c n0 D cA nL Q cells slots M sz pc L (gV b :: gV a :: st) := by
  subst hn
  exact fun H locs ls hl hW hS => lv_lsub X.1 X.2.1 hd (by rw [← Int64.ofInt_sub, hv]; exact (kk H locs ls hl hW hS))
theorem g_lmul (X : gCx p s m args meth c n0 D cA own cc nL) {a b z : Int} (hd : decode cc pc = .ok (.lmul, 1)) (hv : a * b = z) (hn : pc + 1 = n) (kk : G p l e R s m args below meth c n0 D cA nL Q cells slots M sz n L (gV z :: st)) : G p l e R s m args below meth c n0 D cA nL Q cells slots M sz pc L (gV b :: gV a :: st) := by
  subst hn
  exact fun H locs ls hl hW hS => lv_lmul X.1 X.2.1 hd (by rw [← Int64.ofInt_mul, hv]; exact (kk H locs ls hl hW hS))
theorem g_ishlE (X : gCx p s m args meth c n0 D cA own cc nL) {a b z : Int} (hd : decode cc pc = .ok (.ishl, 1)) (hv : Int32.ofInt a <<< (Int32.ofInt b &&& 31) = Int32.ofInt z) (hn : pc + 1 = n) (kk : G p l e R s m args below meth c n0 D cA nL Q cells slots M sz n L (gJ z :: st)) : G p l e R s m args below meth c n0 D cA nL Q cells slots M sz pc L (gJ b :: gJ a :: st) := by
  subst hn
  exact fun H locs ls hl hW hS => lv_ishl X.1 X.2.1 hd (by rw [hv]; exact (kk H locs ls hl hW hS))
theorem g_ishrE (X : gCx p s m args meth c n0 D cA own cc nL) {a b z : Int} (hd : decode cc pc = .ok (.ishr, 1)) (hv : Int32.ofInt a >>> (Int32.ofInt b &&& 31) = Int32.ofInt z) (hn : pc + 1 = n) (kk : G p l e R s m args below meth c n0 D cA nL Q cells slots M sz n L (gJ z :: st)) : G p l e R s m args below meth c n0 D cA nL Q cells slots M sz pc L (gJ b :: gJ a :: st) := by
  subst hn
  exact fun H locs ls hl hW hS => lv_ishr X.1 X.2.1 hd (by rw [hv]; exact (kk H locs ls hl hW hS))
theorem g_iandE (X : gCx p s m args meth c n0 D cA own cc nL) {a b z : Int} (hd : decode cc pc = .ok (.iand, 1)) (hv : Int32.ofInt a &&& Int32.ofInt b = Int32.ofInt z) (hn : pc + 1 = n) (kk : G p l e R s m args below meth c n0 D cA nL Q cells slots M sz n L (gJ z :: st)) : G p l e R s m args below meth c n0 D cA nL Q cells slots M sz pc L (gJ b :: gJ a :: st) := by
  subst hn
  exact fun H locs ls hl hW hS => lv_iand X.1 X.2.1 hd (by rw [hv]; exact (kk H locs ls hl hW hS))
theorem g_iorE (X : gCx p s m args meth c n0 D cA own cc nL) {a b z : Int} (hd : decode cc pc = .ok (.ior, 1)) (hv : Int32.ofInt a ||| Int32.ofInt b = Int32.ofInt z) (hn : pc + 1 = n) (kk : G p l e R s m args below meth c n0 D cA nL Q cells slots M sz n L (gJ z :: st)) : G p l e R s m args below meth c n0 D cA nL Q cells slots M sz pc L (gJ b :: gJ a :: st) := by
  subst hn
  exact fun H locs ls hl hW hS => lv_ior X.1 X.2.1 hd (by rw [hv]; exact (kk H locs ls hl hW hS))
theorem g_ixorE (X : gCx p s m args meth c n0 D cA own cc nL) {a b z : Int} (hd : decode cc pc = .ok (.ixor, 1)) (hv : Int32.ofInt a ^^^ Int32.ofInt b = Int32.ofInt z) (hn : pc + 1 = n) (kk : G p l e R s m args below meth c n0 D cA nL Q cells slots M sz n L (gJ z :: st)) : G p l e R s m args below meth c n0 D cA nL Q cells slots M sz pc L (gJ b :: gJ a :: st) := by
  subst hn
  exact fun H locs ls hl hW hS => lv_ixor X.1 X.2.1 hd (by rw [hv]; exact (kk H locs ls hl hW hS))
theorem g_landE (X : gCx p s m args meth c n0 D cA own cc nL) {a b z : Int} (hd : decode cc pc = .ok (.land, 1)) (hv : Int64.ofInt a &&& Int64.ofInt b = Int64.ofInt z) (hn : pc + 1 = n) (kk : G p l e R s m args below meth c n0 D cA nL Q cells slots M sz n L (gV z :: st)) : G p l e R s m args below meth c n0 D cA nL Q cells slots M sz pc L (gV b :: gV a :: st) := by
  subst hn
  exact fun H locs ls hl hW hS => lv_land X.1 X.2.1 hd (by rw [hv]; exact (kk H locs ls hl hW hS))
theorem g_lorE (X : gCx p s m args meth c n0 D cA own cc nL) {a b z : Int} (hd : decode cc pc = .ok (.lor, 1)) (hv : Int64.ofInt a ||| Int64.ofInt b = Int64.ofInt z) (hn : pc + 1 = n) (kk : G p l e R s m args below meth c n0 D cA nL Q cells slots M sz n L (gV z :: st)) : G p l e R s m args below meth c n0 D cA nL Q cells slots M sz pc L (gV b :: gV a :: st) := by
  subst hn
  exact fun H locs ls hl hW hS => lv_lor X.1 X.2.1 hd (by rw [hv]; exact (kk H locs ls hl hW hS))
theorem g_idivE (X : gCx p s m args meth c n0 D cA own cc nL) {a b z : Int} (hd : decode cc pc = .ok (.idiv, 1)) (hne : ¬ Int32.ofInt b = 0) (hv : Int32.ofInt a / Int32.ofInt b = Int32.ofInt z) (hn : pc + 1 = n) (kk : G p l e R s m args below meth c n0 D cA nL Q cells slots M sz n L (gJ z :: st)) : G p l e R s m args below meth c n0 D cA nL Q cells slots M sz pc L (gJ b :: gJ a :: st) := by
  subst hn
  exact fun H locs ls hl hW hS => lv_idiv X.1 X.2.1 hd hne (by rw [hv]; exact (kk H locs ls hl hW hS))
theorem g_iremE (X : gCx p s m args meth c n0 D cA own cc nL) {a b z : Int} (hd : decode cc pc = .ok (.irem, 1)) (hne : ¬ Int32.ofInt b = 0) (hv : Int32.ofInt a - Int32.ofInt a / Int32.ofInt b * Int32.ofInt b = Int32.ofInt z) (hn : pc + 1 = n) (kk : G p l e R s m args below meth c n0 D cA nL Q cells slots M sz n L (gJ z :: st)) : G p l e R s m args below meth c n0 D cA nL Q cells slots M sz pc L (gJ b :: gJ a :: st) := by
  subst hn
  exact fun H locs ls hl hW hS => lv_irem X.1 X.2.1 hd hne (by rw [hv]; exact (kk H locs ls hl hW hS))
theorem g_ldivE (X : gCx p s m args meth c n0 D cA own cc nL) {a b z : Int} (hd : decode cc pc = .ok (.ldiv, 1)) (hne : ¬ Int64.ofInt b = 0) (hv : Int64.ofInt a / Int64.ofInt b = Int64.ofInt z) (hn : pc + 1 = n) (kk : G p l e R s m args below meth c n0 D cA nL Q cells slots M sz n L (gV z :: st)) : G p l e R s m args below meth c n0 D cA nL Q cells slots M sz pc L (gV b :: gV a :: st) := by
  subst hn
  exact fun H locs ls hl hW hS => lv_ldiv X.1 X.2.1 hd hne (by rw [hv]; exact (kk H locs ls hl hW hS))
theorem g_lremE (X : gCx p s m args meth c n0 D cA own cc nL) {a b z : Int} (hd : decode cc pc = .ok (.lrem, 1)) (hne : ¬ Int64.ofInt b = 0) (hv : Int64.ofInt a - Int64.ofInt a / Int64.ofInt b * Int64.ofInt b = Int64.ofInt z) (hn : pc + 1 = n) (kk : G p l e R s m args below meth c n0 D cA nL Q cells slots M sz n L (gV z :: st)) : G p l e R s m args below meth c n0 D cA nL Q cells slots M sz pc L (gV b :: gV a :: st) := by
  subst hn
  exact fun H locs ls hl hW hS => lv_lrem X.1 X.2.1 hd hne (by rw [hv]; exact (kk H locs ls hl hW hS))
theorem g_lshlE (X : gCx p s m args meth c n0 D cA own cc nL) {a b z : Int} (hd : decode cc pc = .ok (.lshl, 1)) (hv : Int64.ofInt a <<< ((Int32.ofInt b).toInt64 &&& 63) = Int64.ofInt z) (hn : pc + 1 = n) (kk : G p l e R s m args below meth c n0 D cA nL Q cells slots M sz n L (gV z :: st)) : G p l e R s m args below meth c n0 D cA nL Q cells slots M sz pc L (gJ b :: gV a :: st) := by
  subst hn
  exact fun H locs ls hl hW hS => lv_lshl X.1 X.2.1 hd hv (kk H locs ls hl hW hS)
theorem g_lshrE (X : gCx p s m args meth c n0 D cA own cc nL) {a b z : Int} (hd : decode cc pc = .ok (.lshr, 1)) (hv : Int64.ofInt a >>> ((Int32.ofInt b).toInt64 &&& 63) = Int64.ofInt z) (hn : pc + 1 = n) (kk : G p l e R s m args below meth c n0 D cA nL Q cells slots M sz n L (gV z :: st)) : G p l e R s m args below meth c n0 D cA nL Q cells slots M sz pc L (gJ b :: gV a :: st) := by
  subst hn
  exact fun H locs ls hl hW hS => lv_lshr X.1 X.2.1 hd hv (kk H locs ls hl hW hS)
theorem g_lushrE (X : gCx p s m args meth c n0 D cA own cc nL) {a b z : Int} (hd : decode cc pc = .ok (.lushr, 1)) (hv : ((Int64.ofInt a).toUInt64 >>> ((Int32.ofInt b).toInt64.toUInt64 &&& Int64.toUInt64 63)).toInt64 = Int64.ofInt z) (hn : pc + 1 = n) (kk : G p l e R s m args below meth c n0 D cA nL Q cells slots M sz n L (gV z :: st)) : G p l e R s m args below meth c n0 D cA nL Q cells slots M sz pc L (gJ b :: gV a :: st) := by
  subst hn
  exact fun H locs ls hl hW hS => lv_lushr X.1 X.2.1 hd hv (kk H locs ls hl hW hS)
theorem g_i2lE (X : gCx p s m args meth c n0 D cA own cc nL) {a z : Int} (hd : decode cc pc = .ok (.i2l, 1)) (hv : (Int32.ofInt a).toInt64 = Int64.ofInt z) (hn : pc + 1 = n) (kk : G p l e R s m args below meth c n0 D cA nL Q cells slots M sz n L (gV z :: st)) : G p l e R s m args below meth c n0 D cA nL Q cells slots M sz pc L (gJ a :: st) := by
  subst hn
  exact fun H locs ls hl hW hS => lv_i2l X.1 X.2.1 hd hv (kk H locs ls hl hW hS)
theorem g_l2iE (X : gCx p s m args meth c n0 D cA own cc nL) {a z : Int} (hd : decode cc pc = .ok (.l2i, 1)) (hv : (Int64.ofInt a).toInt32 = Int32.ofInt z) (hn : pc + 1 = n) (kk : G p l e R s m args below meth c n0 D cA nL Q cells slots M sz n L (gJ z :: st)) : G p l e R s m args below meth c n0 D cA nL Q cells slots M sz pc L (gV a :: st) := by
  subst hn
  exact fun H locs ls hl hW hS => lv_l2i X.1 X.2.1 hd hv (kk H locs ls hl hW hS)
theorem g_i2bE (X : gCx p s m args meth c n0 D cA own cc nL) {a z : Int} (hd : decode cc pc = .ok (.i2b, 1)) (hv : (Int32.ofInt a).toInt8.toInt32 = Int32.ofInt z) (hn : pc + 1 = n) (kk : G p l e R s m args below meth c n0 D cA nL Q cells slots M sz n L (gJ z :: st)) : G p l e R s m args below meth c n0 D cA nL Q cells slots M sz pc L (gJ a :: st) := by
  subst hn
  exact fun H locs ls hl hW hS => lv_i2b X.1 X.2.1 hd hv (kk H locs ls hl hW hS)
theorem g_ishlA (X : gCx p s m args meth c n0 D cA own cc nL) {a b : Int} (hd : decode cc pc = .ok (.ishl, 1)) (hn : pc + 1 = n) (kk : ∀ z : Int, -2147483648 ≤ z ∧ z ≤ 2147483647 → Int32.ofInt a <<< (Int32.ofInt b &&& 31) = Int32.ofInt z → G p l e R s m args below meth c n0 D cA nL Q cells slots M sz n L (gJ z :: st)) : G p l e R s m args below meth c n0 D cA nL Q cells slots M sz pc L (gJ b :: gJ a :: st) := g_ishlE X hd (gi_of _) hn (kk _ (gi_rg _) (gi_of _))
theorem g_ishrA (X : gCx p s m args meth c n0 D cA own cc nL) {a b : Int} (hd : decode cc pc = .ok (.ishr, 1)) (hn : pc + 1 = n) (kk : ∀ z : Int, -2147483648 ≤ z ∧ z ≤ 2147483647 → Int32.ofInt a >>> (Int32.ofInt b &&& 31) = Int32.ofInt z → G p l e R s m args below meth c n0 D cA nL Q cells slots M sz n L (gJ z :: st)) : G p l e R s m args below meth c n0 D cA nL Q cells slots M sz pc L (gJ b :: gJ a :: st) := g_ishrE X hd (gi_of _) hn (kk _ (gi_rg _) (gi_of _))
theorem g_iandA (X : gCx p s m args meth c n0 D cA own cc nL) {a b : Int} (hd : decode cc pc = .ok (.iand, 1)) (hn : pc + 1 = n) (kk : ∀ z : Int, -2147483648 ≤ z ∧ z ≤ 2147483647 → Int32.ofInt a &&& Int32.ofInt b = Int32.ofInt z → G p l e R s m args below meth c n0 D cA nL Q cells slots M sz n L (gJ z :: st)) : G p l e R s m args below meth c n0 D cA nL Q cells slots M sz pc L (gJ b :: gJ a :: st) := g_iandE X hd (gi_of _) hn (kk _ (gi_rg _) (gi_of _))
theorem g_iorA (X : gCx p s m args meth c n0 D cA own cc nL) {a b : Int} (hd : decode cc pc = .ok (.ior, 1)) (hn : pc + 1 = n) (kk : ∀ z : Int, -2147483648 ≤ z ∧ z ≤ 2147483647 → Int32.ofInt a ||| Int32.ofInt b = Int32.ofInt z → G p l e R s m args below meth c n0 D cA nL Q cells slots M sz n L (gJ z :: st)) : G p l e R s m args below meth c n0 D cA nL Q cells slots M sz pc L (gJ b :: gJ a :: st) := g_iorE X hd (gi_of _) hn (kk _ (gi_rg _) (gi_of _))
theorem g_ixorA (X : gCx p s m args meth c n0 D cA own cc nL) {a b : Int} (hd : decode cc pc = .ok (.ixor, 1)) (hn : pc + 1 = n) (kk : ∀ z : Int, -2147483648 ≤ z ∧ z ≤ 2147483647 → Int32.ofInt a ^^^ Int32.ofInt b = Int32.ofInt z → G p l e R s m args below meth c n0 D cA nL Q cells slots M sz n L (gJ z :: st)) : G p l e R s m args below meth c n0 D cA nL Q cells slots M sz pc L (gJ b :: gJ a :: st) := g_ixorE X hd (gi_of _) hn (kk _ (gi_rg _) (gi_of _))
theorem g_idivA (X : gCx p s m args meth c n0 D cA own cc nL) {a b : Int} (hd : decode cc pc = .ok (.idiv, 1)) (hne : ¬ Int32.ofInt b = 0) (hn : pc + 1 = n) (kk : ∀ z : Int, -2147483648 ≤ z ∧ z ≤ 2147483647 → Int32.ofInt a / Int32.ofInt b = Int32.ofInt z → G p l e R s m args below meth c n0 D cA nL Q cells slots M sz n L (gJ z :: st)) : G p l e R s m args below meth c n0 D cA nL Q cells slots M sz pc L (gJ b :: gJ a :: st) := g_idivE X hd hne (gi_of _) hn (kk _ (gi_rg _) (gi_of _))
theorem g_iremA (X : gCx p s m args meth c n0 D cA own cc nL) {a b : Int} (hd : decode cc pc = .ok (.irem, 1)) (hne : ¬ Int32.ofInt b = 0) (hn : pc + 1 = n) (kk : ∀ z : Int, -2147483648 ≤ z ∧ z ≤ 2147483647 → Int32.ofInt a - Int32.ofInt a / Int32.ofInt b * Int32.ofInt b = Int32.ofInt z → G p l e R s m args below meth c n0 D cA nL Q cells slots M sz n L (gJ z :: st)) : G p l e R s m args below meth c n0 D cA nL Q cells slots M sz pc L (gJ b :: gJ a :: st) := g_iremE X hd hne (gi_of _) hn (kk _ (gi_rg _) (gi_of _))
theorem g_ldivA (X : gCx p s m args meth c n0 D cA own cc nL) {a b : Int} (hd : decode cc pc = .ok (.ldiv, 1)) (hne : ¬ Int64.ofInt b = 0) (hn : pc + 1 = n) (kk : ∀ z : Int, -9223372036854775808 ≤ z ∧ z ≤ 9223372036854775807 → Int64.ofInt a / Int64.ofInt b = Int64.ofInt z → G p l e R s m args below meth c n0 D cA nL Q cells slots M sz n L (gV z :: st)) : G p l e R s m args below meth c n0 D cA nL Q cells slots M sz pc L (gV b :: gV a :: st) := g_ldivE X hd hne (gl_of _) hn (kk _ (gl_rg _) (gl_of _))
theorem g_lremA (X : gCx p s m args meth c n0 D cA own cc nL) {a b : Int} (hd : decode cc pc = .ok (.lrem, 1)) (hne : ¬ Int64.ofInt b = 0) (hn : pc + 1 = n) (kk : ∀ z : Int, -9223372036854775808 ≤ z ∧ z ≤ 9223372036854775807 → Int64.ofInt a - Int64.ofInt a / Int64.ofInt b * Int64.ofInt b = Int64.ofInt z → G p l e R s m args below meth c n0 D cA nL Q cells slots M sz n L (gV z :: st)) : G p l e R s m args below meth c n0 D cA nL Q cells slots M sz pc L (gV b :: gV a :: st) := g_lremE X hd hne (gl_of _) hn (kk _ (gl_rg _) (gl_of _))
theorem g_landA (X : gCx p s m args meth c n0 D cA own cc nL) {a b : Int} (hd : decode cc pc = .ok (.land, 1)) (hn : pc + 1 = n) (kk : ∀ z : Int, -9223372036854775808 ≤ z ∧ z ≤ 9223372036854775807 → Int64.ofInt a &&& Int64.ofInt b = Int64.ofInt z → G p l e R s m args below meth c n0 D cA nL Q cells slots M sz n L (gV z :: st)) : G p l e R s m args below meth c n0 D cA nL Q cells slots M sz pc L (gV b :: gV a :: st) := g_landE X hd (gl_of _) hn (kk _ (gl_rg _) (gl_of _))
theorem g_lorA (X : gCx p s m args meth c n0 D cA own cc nL) {a b : Int} (hd : decode cc pc = .ok (.lor, 1)) (hn : pc + 1 = n) (kk : ∀ z : Int, -9223372036854775808 ≤ z ∧ z ≤ 9223372036854775807 → Int64.ofInt a ||| Int64.ofInt b = Int64.ofInt z → G p l e R s m args below meth c n0 D cA nL Q cells slots M sz n L (gV z :: st)) : G p l e R s m args below meth c n0 D cA nL Q cells slots M sz pc L (gV b :: gV a :: st) := g_lorE X hd (gl_of _) hn (kk _ (gl_rg _) (gl_of _))
theorem g_lshlA (X : gCx p s m args meth c n0 D cA own cc nL) {a b : Int} (hd : decode cc pc = .ok (.lshl, 1)) (hn : pc + 1 = n) (kk : ∀ z : Int, -9223372036854775808 ≤ z ∧ z ≤ 9223372036854775807 → Int64.ofInt a <<< ((Int32.ofInt b).toInt64 &&& 63) = Int64.ofInt z → G p l e R s m args below meth c n0 D cA nL Q cells slots M sz n L (gV z :: st)) : G p l e R s m args below meth c n0 D cA nL Q cells slots M sz pc L (gJ b :: gV a :: st) := g_lshlE X hd (gl_of _) hn (kk _ (gl_rg _) (gl_of _))
theorem g_lshrA (X : gCx p s m args meth c n0 D cA own cc nL) {a b : Int} (hd : decode cc pc = .ok (.lshr, 1)) (hn : pc + 1 = n) (kk : ∀ z : Int, -9223372036854775808 ≤ z ∧ z ≤ 9223372036854775807 → Int64.ofInt a >>> ((Int32.ofInt b).toInt64 &&& 63) = Int64.ofInt z → G p l e R s m args below meth c n0 D cA nL Q cells slots M sz n L (gV z :: st)) : G p l e R s m args below meth c n0 D cA nL Q cells slots M sz pc L (gJ b :: gV a :: st) := g_lshrE X hd (gl_of _) hn (kk _ (gl_rg _) (gl_of _))
theorem g_lushrA (X : gCx p s m args meth c n0 D cA own cc nL) {a b : Int} (hd : decode cc pc = .ok (.lushr, 1)) (hn : pc + 1 = n) (kk : ∀ z : Int, -9223372036854775808 ≤ z ∧ z ≤ 9223372036854775807 → ((Int64.ofInt a).toUInt64 >>> ((Int32.ofInt b).toInt64.toUInt64 &&& Int64.toUInt64 63)).toInt64 = Int64.ofInt z → G p l e R s m args below meth c n0 D cA nL Q cells slots M sz n L (gV z :: st)) : G p l e R s m args below meth c n0 D cA nL Q cells slots M sz pc L (gJ b :: gV a :: st) := g_lushrE X hd (gl_of _) hn (kk _ (gl_rg _) (gl_of _))
theorem g_i2lA (X : gCx p s m args meth c n0 D cA own cc nL) {a : Int} (hd : decode cc pc = .ok (.i2l, 1)) (hn : pc + 1 = n) (kk : ∀ z : Int, -9223372036854775808 ≤ z ∧ z ≤ 9223372036854775807 → (Int32.ofInt a).toInt64 = Int64.ofInt z → G p l e R s m args below meth c n0 D cA nL Q cells slots M sz n L (gV z :: st)) : G p l e R s m args below meth c n0 D cA nL Q cells slots M sz pc L (gJ a :: st) := g_i2lE X hd (gl_of _) hn (kk _ (gl_rg _) (gl_of _))
theorem g_l2iA (X : gCx p s m args meth c n0 D cA own cc nL) {a : Int} (hd : decode cc pc = .ok (.l2i, 1)) (hn : pc + 1 = n) (kk : ∀ z : Int, -2147483648 ≤ z ∧ z ≤ 2147483647 → (Int64.ofInt a).toInt32 = Int32.ofInt z → G p l e R s m args below meth c n0 D cA nL Q cells slots M sz n L (gJ z :: st)) : G p l e R s m args below meth c n0 D cA nL Q cells slots M sz pc L (gV a :: st) := g_l2iE X hd (gi_of _) hn (kk _ (gi_rg _) (gi_of _))
theorem g_i2bA (X : gCx p s m args meth c n0 D cA own cc nL) {a : Int} (hd : decode cc pc = .ok (.i2b, 1)) (hn : pc + 1 = n) (kk : ∀ z : Int, -2147483648 ≤ z ∧ z ≤ 2147483647 → (Int32.ofInt a).toInt8.toInt32 = Int32.ofInt z → G p l e R s m args below meth c n0 D cA nL Q cells slots M sz n L (gJ z :: st)) : G p l e R s m args below meth c n0 D cA nL Q cells slots M sz pc L (gJ a :: st) := g_i2bE X hd (gi_of _) hn (kk _ (gi_rg _) (gi_of _))
theorem g_dup (X : gCx p s m args meth c n0 D cA own cc nL) {v : Value} (hd : decode cc pc = .ok (.dup, 1)) (hv : v.category = 1) (hn : pc + 1 = n) (kk : G p l e R s m args below meth c n0 D cA nL Q cells slots M sz n L (v :: v :: st)) : G p l e R s m args below meth c n0 D cA nL Q cells slots M sz pc L (v :: st) := by
  subst hn
  exact fun H locs ls hl hW hS => lv_dup X.1 X.2.1 hd hv (kk H locs ls hl hW hS)
theorem g_dup2 (X : gCx p s m args meth c n0 D cA own cc nL) {v w : Value} (hd : decode cc pc = .ok (.dup2, 1)) (hv : v.category = 1) (hw : w.category = 1) (hn : pc + 1 = n) (kk : G p l e R s m args below meth c n0 D cA nL Q cells slots M sz n L (v :: w :: v :: w :: st)) : G p l e R s m args below meth c n0 D cA nL Q cells slots M sz pc L (v :: w :: st) := by
  subst hn
  exact fun H locs ls hl hW hS => lv_dup2_11 X.1 X.2.1 hd hv hw (kk H locs ls hl hW hS)
theorem g_dup_x1 (X : gCx p s m args meth c n0 D cA own cc nL) {v w : Value} (hd : decode cc pc = .ok (.dup_x1, 1)) (hv : v.category = 1) (hw : w.category = 1) (hn : pc + 1 = n) (kk : G p l e R s m args below meth c n0 D cA nL Q cells slots M sz n L (v :: w :: v :: st)) : G p l e R s m args below meth c n0 D cA nL Q cells slots M sz pc L (v :: w :: st) := by
  subst hn
  exact fun H locs ls hl hW hS => lv_dup_x1 X.1 X.2.1 hd hv hw (kk H locs ls hl hW hS)
theorem g_pop (X : gCx p s m args meth c n0 D cA own cc nL) {v : Value} (hd : decode cc pc = .ok (.pop, 1)) (hv : v.category = 1) (hn : pc + 1 = n) (kk : G p l e R s m args below meth c n0 D cA nL Q cells slots M sz n L st) : G p l e R s m args below meth c n0 D cA nL Q cells slots M sz pc L (v :: st) := by
  subst hn
  exact fun H locs ls hl hW hS => lv_pop X.1 X.2.1 hd hv (kk H locs ls hl hW hS)
theorem g_null (X : gCx p s m args meth c n0 D cA own cc nL)  (hd : decode cc pc = .ok (.aconst_null, 1))  (hn : pc + 1 = n) (kk : G p l e R s m args below meth c n0 D cA nL Q cells slots M sz n L (.null :: st)) : G p l e R s m args below meth c n0 D cA nL Q cells slots M sz pc L st := by
  subst hn
  exact fun H locs ls hl hW hS => lv_null X.1 X.2.1 hd (kk H locs ls hl hW hS)
theorem g_icmp_lt (X : gCx p s m args meth c n0 D cA own cc nL) {off : Int} {tgt : Nat} {a b : Int} (hd : decode cc pc = .ok (.if_icmp .lt off, 3)) (ht : (pc : Int) + off = (tgt : Int)) (ha : -2147483648 ≤ a ∧ a ≤ 2147483647) (hb : -2147483648 ≤ b ∧ b ≤ 2147483647) (hn : pc + 3 = n) (kt : a < b → G p l e R s m args below meth c n0 D cA nL Q cells slots M sz tgt L st) (kf : ¬ a < b → G p l e R s m args below meth c n0 D cA nL Q cells slots M sz n L st) : G p l e R s m args below meth c n0 D cA nL Q cells slots M sz pc L (gJ b :: gJ a :: st) := by
  subst hn
  exact fun H locs ls hl hW hS => lv_icmp_lt X.1 X.2.1 hd ht (fun q => kt ((gi_lt ha hb).mp q) H locs ls hl hW hS) (fun q => kf (fun z => q ((gi_lt ha hb).mpr z)) H locs ls hl hW hS)
theorem g_if_lt (X : gCx p s m args meth c n0 D cA own cc nL) {off : Int} {tgt : Nat} {a : Int} (hd : decode cc pc = .ok (.ifCond .lt off, 3)) (ht : (pc : Int) + off = (tgt : Int)) (ha : -2147483648 ≤ a ∧ a ≤ 2147483647) (hn : pc + 3 = n) (kt : a < 0 → G p l e R s m args below meth c n0 D cA nL Q cells slots M sz tgt L st) (kf : ¬ a < 0 → G p l e R s m args below meth c n0 D cA nL Q cells slots M sz n L st) : G p l e R s m args below meth c n0 D cA nL Q cells slots M sz pc L (gJ a :: st) := by
  subst hn
  have h0 : -2147483648 ≤ (0 : Int) ∧ (0 : Int) ≤ 2147483647 := by omega
  exact fun H locs ls hl hW hS => lv_if_lt X.1 X.2.1 hd ht (fun q => kt ((gi_lt ha h0).mp (by rw [← gi_0]; exact q)) H locs ls hl hW hS) (fun q => kf (fun z => q (by rw [gi_0]; exact (gi_lt ha h0).mpr z)) H locs ls hl hW hS)
theorem g_icmp_ge (X : gCx p s m args meth c n0 D cA own cc nL) {off : Int} {tgt : Nat} {a b : Int} (hd : decode cc pc = .ok (.if_icmp .ge off, 3)) (ht : (pc : Int) + off = (tgt : Int)) (ha : -2147483648 ≤ a ∧ a ≤ 2147483647) (hb : -2147483648 ≤ b ∧ b ≤ 2147483647) (hn : pc + 3 = n) (kt : b ≤ a → G p l e R s m args below meth c n0 D cA nL Q cells slots M sz tgt L st) (kf : ¬ b ≤ a → G p l e R s m args below meth c n0 D cA nL Q cells slots M sz n L st) : G p l e R s m args below meth c n0 D cA nL Q cells slots M sz pc L (gJ b :: gJ a :: st) := by
  subst hn
  exact fun H locs ls hl hW hS => lv_icmp_ge X.1 X.2.1 hd ht (fun q => kt ((gi_le hb ha).mp q) H locs ls hl hW hS) (fun q => kf (fun z => q ((gi_le hb ha).mpr z)) H locs ls hl hW hS)
theorem g_if_ge (X : gCx p s m args meth c n0 D cA own cc nL) {off : Int} {tgt : Nat} {a : Int} (hd : decode cc pc = .ok (.ifCond .ge off, 3)) (ht : (pc : Int) + off = (tgt : Int)) (ha : -2147483648 ≤ a ∧ a ≤ 2147483647) (hn : pc + 3 = n) (kt : 0 ≤ a → G p l e R s m args below meth c n0 D cA nL Q cells slots M sz tgt L st) (kf : ¬ 0 ≤ a → G p l e R s m args below meth c n0 D cA nL Q cells slots M sz n L st) : G p l e R s m args below meth c n0 D cA nL Q cells slots M sz pc L (gJ a :: st) := by
  subst hn
  have h0 : -2147483648 ≤ (0 : Int) ∧ (0 : Int) ≤ 2147483647 := by omega
  exact fun H locs ls hl hW hS => lv_if_ge X.1 X.2.1 hd ht (fun q => kt ((gi_le h0 ha).mp (by rw [← gi_0]; exact q)) H locs ls hl hW hS) (fun q => kf (fun z => q (by rw [gi_0]; exact (gi_le h0 ha).mpr z)) H locs ls hl hW hS)
theorem g_icmp_gt (X : gCx p s m args meth c n0 D cA own cc nL) {off : Int} {tgt : Nat} {a b : Int} (hd : decode cc pc = .ok (.if_icmp .gt off, 3)) (ht : (pc : Int) + off = (tgt : Int)) (ha : -2147483648 ≤ a ∧ a ≤ 2147483647) (hb : -2147483648 ≤ b ∧ b ≤ 2147483647) (hn : pc + 3 = n) (kt : b < a → G p l e R s m args below meth c n0 D cA nL Q cells slots M sz tgt L st) (kf : ¬ b < a → G p l e R s m args below meth c n0 D cA nL Q cells slots M sz n L st) : G p l e R s m args below meth c n0 D cA nL Q cells slots M sz pc L (gJ b :: gJ a :: st) := by
  subst hn
  exact fun H locs ls hl hW hS => lv_icmp_gt X.1 X.2.1 hd ht (fun q => kt ((gi_lt hb ha).mp q) H locs ls hl hW hS) (fun q => kf (fun z => q ((gi_lt hb ha).mpr z)) H locs ls hl hW hS)
theorem g_if_gt (X : gCx p s m args meth c n0 D cA own cc nL) {off : Int} {tgt : Nat} {a : Int} (hd : decode cc pc = .ok (.ifCond .gt off, 3)) (ht : (pc : Int) + off = (tgt : Int)) (ha : -2147483648 ≤ a ∧ a ≤ 2147483647) (hn : pc + 3 = n) (kt : 0 < a → G p l e R s m args below meth c n0 D cA nL Q cells slots M sz tgt L st) (kf : ¬ 0 < a → G p l e R s m args below meth c n0 D cA nL Q cells slots M sz n L st) : G p l e R s m args below meth c n0 D cA nL Q cells slots M sz pc L (gJ a :: st) := by
  subst hn
  have h0 : -2147483648 ≤ (0 : Int) ∧ (0 : Int) ≤ 2147483647 := by omega
  exact fun H locs ls hl hW hS => lv_if_gt X.1 X.2.1 hd ht (fun q => kt ((gi_lt h0 ha).mp (by rw [← gi_0]; exact q)) H locs ls hl hW hS) (fun q => kf (fun z => q (by rw [gi_0]; exact (gi_lt h0 ha).mpr z)) H locs ls hl hW hS)
theorem g_icmp_le (X : gCx p s m args meth c n0 D cA own cc nL) {off : Int} {tgt : Nat} {a b : Int} (hd : decode cc pc = .ok (.if_icmp .le off, 3)) (ht : (pc : Int) + off = (tgt : Int)) (ha : -2147483648 ≤ a ∧ a ≤ 2147483647) (hb : -2147483648 ≤ b ∧ b ≤ 2147483647) (hn : pc + 3 = n) (kt : a ≤ b → G p l e R s m args below meth c n0 D cA nL Q cells slots M sz tgt L st) (kf : ¬ a ≤ b → G p l e R s m args below meth c n0 D cA nL Q cells slots M sz n L st) : G p l e R s m args below meth c n0 D cA nL Q cells slots M sz pc L (gJ b :: gJ a :: st) := by
  subst hn
  exact fun H locs ls hl hW hS => lv_icmp_le X.1 X.2.1 hd ht (fun q => kt ((gi_le ha hb).mp q) H locs ls hl hW hS) (fun q => kf (fun z => q ((gi_le ha hb).mpr z)) H locs ls hl hW hS)
theorem g_if_le (X : gCx p s m args meth c n0 D cA own cc nL) {off : Int} {tgt : Nat} {a : Int} (hd : decode cc pc = .ok (.ifCond .le off, 3)) (ht : (pc : Int) + off = (tgt : Int)) (ha : -2147483648 ≤ a ∧ a ≤ 2147483647) (hn : pc + 3 = n) (kt : a ≤ 0 → G p l e R s m args below meth c n0 D cA nL Q cells slots M sz tgt L st) (kf : ¬ a ≤ 0 → G p l e R s m args below meth c n0 D cA nL Q cells slots M sz n L st) : G p l e R s m args below meth c n0 D cA nL Q cells slots M sz pc L (gJ a :: st) := by
  subst hn
  have h0 : -2147483648 ≤ (0 : Int) ∧ (0 : Int) ≤ 2147483647 := by omega
  exact fun H locs ls hl hW hS => lv_if_le X.1 X.2.1 hd ht (fun q => kt ((gi_le ha h0).mp (by rw [← gi_0]; exact q)) H locs ls hl hW hS) (fun q => kf (fun z => q (by rw [gi_0]; exact (gi_le ha h0).mpr z)) H locs ls hl hW hS)
theorem g_icmp_eq (X : gCx p s m args meth c n0 D cA own cc nL) {off : Int} {tgt : Nat} {a b : Int} (hd : decode cc pc = .ok (.if_icmp .eq off, 3)) (ht : (pc : Int) + off = (tgt : Int)) (ha : -2147483648 ≤ a ∧ a ≤ 2147483647) (hb : -2147483648 ≤ b ∧ b ≤ 2147483647) (hn : pc + 3 = n) (kt : a = b → G p l e R s m args below meth c n0 D cA nL Q cells slots M sz tgt L st) (kf : ¬ a = b → G p l e R s m args below meth c n0 D cA nL Q cells slots M sz n L st) : G p l e R s m args below meth c n0 D cA nL Q cells slots M sz pc L (gJ b :: gJ a :: st) := by
  subst hn
  exact fun H locs ls hl hW hS => lv_icmp_eq X.1 X.2.1 hd ht (fun q => kt ((gi_eq ha hb).mp q) H locs ls hl hW hS) (fun q => kf (fun z => q ((gi_eq ha hb).mpr z)) H locs ls hl hW hS)
theorem g_if_eq (X : gCx p s m args meth c n0 D cA own cc nL) {off : Int} {tgt : Nat} {a : Int} (hd : decode cc pc = .ok (.ifCond .eq off, 3)) (ht : (pc : Int) + off = (tgt : Int)) (ha : -2147483648 ≤ a ∧ a ≤ 2147483647) (hn : pc + 3 = n) (kt : a = 0 → G p l e R s m args below meth c n0 D cA nL Q cells slots M sz tgt L st) (kf : ¬ a = 0 → G p l e R s m args below meth c n0 D cA nL Q cells slots M sz n L st) : G p l e R s m args below meth c n0 D cA nL Q cells slots M sz pc L (gJ a :: st) := by
  subst hn
  have h0 : -2147483648 ≤ (0 : Int) ∧ (0 : Int) ≤ 2147483647 := by omega
  exact fun H locs ls hl hW hS => lv_if_eq X.1 X.2.1 hd ht (fun q => kt ((gi_eq ha h0).mp (by rw [← gi_0]; exact q)) H locs ls hl hW hS) (fun q => kf (fun z => q (by rw [gi_0]; exact (gi_eq ha h0).mpr z)) H locs ls hl hW hS)
theorem g_icmp_ne (X : gCx p s m args meth c n0 D cA own cc nL) {off : Int} {tgt : Nat} {a b : Int} (hd : decode cc pc = .ok (.if_icmp .ne off, 3)) (ht : (pc : Int) + off = (tgt : Int)) (ha : -2147483648 ≤ a ∧ a ≤ 2147483647) (hb : -2147483648 ≤ b ∧ b ≤ 2147483647) (hn : pc + 3 = n) (kt : ¬ a = b → G p l e R s m args below meth c n0 D cA nL Q cells slots M sz tgt L st) (kf : a = b → G p l e R s m args below meth c n0 D cA nL Q cells slots M sz n L st) : G p l e R s m args below meth c n0 D cA nL Q cells slots M sz pc L (gJ b :: gJ a :: st) := by
  subst hn
  exact fun H locs ls hl hW hS => lv_icmp_ne X.1 X.2.1 hd ht (fun q => kt (fun z => q ((gi_eq ha hb).mpr z)) H locs ls hl hW hS) (fun q => kf ((gi_eq ha hb).mp q) H locs ls hl hW hS)
theorem g_if_ne (X : gCx p s m args meth c n0 D cA own cc nL) {off : Int} {tgt : Nat} {a : Int} (hd : decode cc pc = .ok (.ifCond .ne off, 3)) (ht : (pc : Int) + off = (tgt : Int)) (ha : -2147483648 ≤ a ∧ a ≤ 2147483647) (hn : pc + 3 = n) (kt : ¬ a = 0 → G p l e R s m args below meth c n0 D cA nL Q cells slots M sz tgt L st) (kf : a = 0 → G p l e R s m args below meth c n0 D cA nL Q cells slots M sz n L st) : G p l e R s m args below meth c n0 D cA nL Q cells slots M sz pc L (gJ a :: st) := by
  subst hn
  have h0 : -2147483648 ≤ (0 : Int) ∧ (0 : Int) ≤ 2147483647 := by omega
  exact fun H locs ls hl hW hS => lv_if_ne X.1 X.2.1 hd ht (fun q => kt (fun z => q (by rw [gi_0]; exact (gi_eq ha h0).mpr z)) H locs ls hl hW hS) (fun q => kf ((gi_eq ha h0).mp (by rw [← gi_0]; exact q)) H locs ls hl hW hS)
theorem g_goto (X : gCx p s m args meth c n0 D cA own cc nL) {off : Int} {tgt : Nat} (hd : decode cc pc = .ok (.goto off, 3)) (ht : (pc : Int) + off = (tgt : Int)) (kk : G p l e R s m args below meth c n0 D cA nL Q cells slots M sz tgt L st) : G p l e R s m args below meth c n0 D cA nL Q cells slots M sz pc L st := fun H locs ls hl hW hS => lv_goto X.1 X.2.1 hd ht (kk H locs ls hl hW hS)
theorem g_ifnull (X : gCx p s m args meth c n0 D cA own cc nL) {off : Int} {o : Nat} (hd : decode cc pc = .ok (.ifnull off, 3)) (hn : pc + 3 = n) (kk : G p l e R s m args below meth c n0 D cA nL Q cells slots M sz n L st) : G p l e R s m args below meth c n0 D cA nL Q cells slots M sz pc L (.ref o :: st) := by
  subst hn
  exact fun H locs ls hl hW hS => lv_ifnull X.1 X.2.1 hd (kk H locs ls hl hW hS)
theorem g_ifnullN (X : gCx p s m args meth c n0 D cA own cc nL) {off : Int} {tgt : Nat} (hd : decode cc pc = .ok (.ifnull off, 3)) (ht : (pc : Int) + off = (tgt : Int)) (kk : G p l e R s m args below meth c n0 D cA nL Q cells slots M sz tgt L st) : G p l e R s m args below meth c n0 D cA nL Q cells slots M sz pc L (.null :: st) := fun H locs ls hl hW hS => lv_ifnullN X.1 X.2.1 hd ht (kk H locs ls hl hW hS)
theorem g_ifnonnull (X : gCx p s m args meth c n0 D cA own cc nL) {off : Int} {tgt : Nat} {o : Nat} (hd : decode cc pc = .ok (.ifnonnull off, 3)) (ht : (pc : Int) + off = (tgt : Int)) (kk : G p l e R s m args below meth c n0 D cA nL Q cells slots M sz tgt L st) : G p l e R s m args below meth c n0 D cA nL Q cells slots M sz pc L (.ref o :: st) := fun H locs ls hl hW hS => lv_ifnonnull X.1 X.2.1 hd ht (kk H locs ls hl hW hS)
theorem g_ifnonnullN (X : gCx p s m args meth c n0 D cA own cc nL) {off : Int} (hd : decode cc pc = .ok (.ifnonnull off, 3)) (hn : pc + 3 = n) (kk : G p l e R s m args below meth c n0 D cA nL Q cells slots M sz n L st) : G p l e R s m args below meth c n0 D cA nL Q cells slots M sz pc L (.null :: st) := by
  subst hn
  exact fun H locs ls hl hW hS => lv_ifnonnullN X.1 X.2.1 hd (kk H locs ls hl hW hS)
theorem g_tableIn (X : gCx p s m args meth c n0 D cA own cc nL) {dflt lo hi : Int} {offs : Array Int} {len : Nat} {z off : Int} {tgt : Nat} (j : Nat) (hd : decode cc pc = .ok (.tableswitch dflt lo hi offs, len)) (hz : -2147483648 ≤ z ∧ z ≤ 2147483647) (h1 : lo ≤ z) (h2 : z ≤ hi) (hj : z - lo = (j : Int)) (ho : offs[j]? = some off) (ht : (pc : Int) + off = (tgt : Int)) (kk : G p l e R s m args below meth c n0 D cA nL Q cells slots M sz tgt L st) : G p l e R s m args below meth c n0 D cA nL Q cells slots M sz pc L (gJ z :: st) := fun H locs ls hl hW hS => lv_tableIn X.1 X.2.1 hd (by rw [gi_toInt hz]; omega) (by rw [gi_toInt hz]; omega) (by rw [gi_toInt hz, hj]; exact ho) ht (kk H locs ls hl hW hS)
theorem g_tableOut (X : gCx p s m args meth c n0 D cA own cc nL) {dflt lo hi : Int} {offs : Array Int} {len : Nat} {z : Int} {tgt : Nat} (hd : decode cc pc = .ok (.tableswitch dflt lo hi offs, len)) (hz : -2147483648 ≤ z ∧ z ≤ 2147483647) (h1 : z < lo ∨ hi < z) (ht : (pc : Int) + dflt = (tgt : Int)) (kk : G p l e R s m args below meth c n0 D cA nL Q cells slots M sz tgt L st) : G p l e R s m args below meth c n0 D cA nL Q cells slots M sz pc L (gJ z :: st) := fun H locs ls hl hW hS => lv_tableOut X.1 X.2.1 hd (by rw [gi_toInt hz]; exact h1) ht (kk H locs ls hl hW hS)
theorem g_lookup (X : gCx p s m args meth c n0 D cA own cc nL) {dflt : Int} {ps : Array (Int × Int)} {len : Nat} {z off : Int} {tgt : Nat} (hd : decode cc pc = .ok (.lookupswitch dflt ps, len)) (hz : -2147483648 ≤ z ∧ z ≤ 2147483647) (hp : (ps.toList.zip (ps.toList.drop 1)).all (fun (a, next) => a.1 < next.1) = true) (ho : Op.lookupswitch.offset ps.toList dflt z = off) (ht : (pc : Int) + off = (tgt : Int)) (kk : G p l e R s m args below meth c n0 D cA nL Q cells slots M sz tgt L st) : G p l e R s m args below meth c n0 D cA nL Q cells slots M sz pc L (gJ z :: st) := fun H locs ls hl hW hS => lv_lookup X.1 X.2.1 hd hp (by rw [gi_toInt hz]; exact ho) ht (kk H locs ls hl hW hS)
/-! rows that touch the memory -/
theorem gfv_0 (n0 : Nat) (ty : FieldType) (h : (match ty with | .float => false | .double => false | _ => true) = true) : gfv n0 ty 0 = defaultValue ty := by
  cases ty <;> first | rfl | cases h
theorem g_he0 {ci : Nat} {o : Int} (h0 : 0 ≤ o) (h1 : o < (sz : Int)) (hlay : glay o = (0, ci)) : (gws n0 cA M sz)[o.toNat]? = some (n0 + o.toNat, .inr (ci, (List.range (gNF ci)).map (fun j => gfv n0 (gTY ci j) (M o (j : Int))))) := by rw [gws_get n0 cA M h0 h1, hlay]; rfl
theorem g_hv {ci k N : Nat} {o : Int} (hNF : gNF ci = N) (hk : k < N) : ((List.range (gNF ci)).map (fun j => gfv n0 (gTY ci j) (M o (j : Int))))[k]? = some (gfv n0 (gTY ci k) (M o (k : Int))) := by
  rw [List.getElem?_map, List.getElem?_range (by omega)]; rfl
theorem g_get (X : gCx p s m args meth c n0 D cA own cc nL) {ref C : String} {T : u_T} {N ci index : Nat} {o : Int} (k : Nat) (hin : ∀ w ∈ u_ws C T N, w ∈ gT) (hc : vwCl[ci]? = some (C, T, N)) (hNF : gNF ci = N) (hk : k < N) (h0 : 0 ≤ o) (h1 : o < (sz : Int)) (hlay : glay o = (0, ci)) (hw : Cond.fieldLink own index ref (T k).2.1 (T k).2.2.1 ∈ gT) (href : ref = (T k).1) (hd : decode cc pc = .ok (.getfield index, 3)) (hn : pc + 3 = n) {v : Value} (hv : gfv n0 (gTY ci k) (M o (k : Int)) = v) (kk : G p l e R s m args below meth c n0 D cA nL Q cells slots M sz n L (v :: st)) : G p l e R s m args below meth c n0 D cA nL Q cells slots M sz pc L (gA n0 o :: st) := by
  subst hn; subst hv; subst href
  intro H locs ls hl hW hS
  exact va_get X.1 X.2.1 X.2.2.2.2.1 hin X.2.2.2.1 X.2.2.2.2.2.2.1.1 hW.2 o.toNat (g_he0 h0 h1 hlay) hc k hk (X.2.2.2.2.1 _ hw) (fun x hx => hx) (g_hv hNF hk) hd (kk H locs ls hl hW hS)
theorem g_put (X : gCx p s m args meth c n0 D cA own cc nL) {ref C : String} {T : u_T} {N ci index : Nat} {o z : Int} (k : Nat) (hin : ∀ w ∈ u_ws C T N, w ∈ gT) (ty0 : Nat → FieldType) (hty : ∀ k, k < N → parseFieldDescriptor (T k).2.2.1 = some (ty0 k)) (hnm : ∀ a, a < N → ∀ b, b < N → a ≠ b → (T a).2.1 ≠ (T b).2.1) (hc : vwCl[ci]? = some (C, T, N)) (hNF : gNF ci = N) (hk : k < N) (h0 : 0 ≤ o) (h1 : o < (sz : Int)) (hlay : glay o = (0, ci)) (hw : Cond.fieldLink own index ref (T k).2.1 (T k).2.2.1 ∈ gT) (href : ref = (T k).1) (hfin : (T k).2.2.2 = false ∨ ((T k).2.2.2 = true ∧ meth.name = "<init>" ∧ (T k).1 = own)) {v : Value} (hv : gfv n0 (gTY ci k) z = v) (hnr : narrow (ty0 k) v = v) (hfit : fits (ty0 k) v = true) (hd : decode cc pc = .ok (.putfield index, 3)) (hn : pc + 3 = n) (kk : G p l e R s m args below meth c n0 D cA nL Q cells slots (gset M o (k : Int) z) sz n L st) : G p l e R s m args below meth c n0 D cA nL Q cells slots M sz pc L (v :: gA n0 o :: st) := by
  subst hn; subst href
  intro H locs ls hl hW hS
  have hts := X.2.2.2.2.1
  have hK := X.2.2.2.2.2.2.1.1
  have he := g_he0 (n0 := n0) (cA := cA) (M := M) h0 h1 hlay
  have hap := va_apart (own := own) hts hin ty0 hty hnm hK hc
  obtain ⟨r, h1', cell, q1, q2, q3, q4⟩ := hW.2 o.toNat _ he
  have hr : r = (C, T, N) := Option.some.inj (h1'.symm.trans hc)
  subst hr
  obtain ⟨hS', hfc, kC, hkC, hkind⟩ := hK.1 ci _ hc
  obtain ⟨cf, kf, fi, f, hi, hsl⟩ := hS' k hk
  have hst := (u_facts hfc hkC (u_lays hts hin hk) hi).1
  have hlen : k < ((List.range (gNF ci)).map (fun j => gfv n0 (gTY ci j) (M o (j : Int)))).length := by simp; omega
  have hent : (Sum.inr (ci, ((List.range (gNF ci)).map (fun j => gfv n0 (gTY ci j) (M o (j : Int)))).set k v) : va_E) = gent n0 cA (glay o) (gset M o (k : Int) z o) := by
    rw [hlay]
    show _ = (Sum.inr (ci, (List.range (gNF ci)).map (fun j => gfv n0 (gTY ci j) (gset M o (k : Int) z o (j : Int)))) : va_E)
    congr 2
    refine List.ext_getElem? fun i => ?_
    by_cases hik : i = k
    · subst hik
      rw [List.getElem?_set_self hlen, List.getElem?_map, List.getElem?_range (by omega)]
      simp only [Option.map_some, gset_eq, hv]
    · rw [List.getElem?_set_ne (Ne.symm hik), List.getElem?_map, List.getElem?_map]
      cases hr : (List.range (gNF ci))[i]? with
      | none => rfl
      | some x =>
        have hx := (List.getElem?_eq_some_iff.mp hr).2
        rw [List.getElem_range] at hx
        subst hx
        simp only [Option.map_some]
        rw [gset_ne (by omega)]
  have fin : ∀ (H' : Heap) (locs' : List Loc), H'[n0 + o.toNat]? = some (cell.setSlot (D.2 ci k) v) → H'.size = H.size → (∀ q, q ≠ n0 + o.toNat → H'[q]? = H[q]?) → va_S (fun q => n0 ≤ q) s.heap H' locs' → W p l e R s m args below meth c H' locs' cells slots Q (F0 m (pc + 3) ls st) := by
    intro H' locs' e1 e2 e3 hS2
    refine kk H' locs' ls hl ⟨e2.trans hW.1, ?_⟩ hS2
    rw [← gws_set n0 cA M (gset M o (k : Int) z) h0 h1 _ hent gset_off]
    exact hW.2.set (gws_D n0 cA M sz) he ⟨_, hc, t_OB.to (V := updV (vp_V _) k v) ⟨_, e1, q2, q3, t_set q4 hap hk v⟩ (fun j _ => vp_updV_set hlen v j)⟩ e3
  rcases hfin with hfin | ⟨hfin, hin2, hdecl⟩
  · have hlay2 := hts _ (hin _ (u_in_lay hk))
    unfold u_lay at hlay2
    rw [if_neg (by rw [hfin]; decide)] at hlay2
    have h6 := u_store hfc hkC hkind hlay2 hi (hty k hk) hnr hfit
    refine W.putK X.1 X.2.1 (f := f) ⟨X.2.2.2.1, hts _ hw, ⟨_, _, _, hi⟩, hst⟩ (by rw [q2]; exact h6) q1 q3 (by rw [hsl]; exact k2_hasslot (q4 k hk)) rfl rfl hd fun H' e1 e2 e3 => ?_
    rw [hsl] at e1 ⊢
    exact fin H' _ e1 e2 e3 (hS.put e2 e3 (Nat.le_add_right _ _))
  · have hlay2 := hts _ (hin _ (u_in_lay hk))
    unfold u_lay at hlay2
    rw [if_pos hfin] at hlay2
    have hcf : m.cls = cf := by
      obtain ⟨_, _, c', _, _, _, -, -, hf', -, -, -, hown2, -⟩ := Cond.laysFinal_spec hlay2
      have e1 : c' = cf := by have := hi.symm.trans hf'; simp at this; exact this.1.symm
      rw [hdecl] at hown2
      rw [← e1]; exact Option.some.inj (X.2.2.2.1.symm.trans hown2)
    have h6 := u_fits hfc hkC hkind (Or.inr hlay2) hi (hty k hk) hnr hfit
    refine W.putFinK X.1 X.2.1 X.2.2.2.1 (hts _ hw) hi hst hcf hin2 (by rw [q2]; exact h6) q1 q3 (by rw [hsl]; exact k2_hasslot (q4 k hk)) rfl rfl hd fun H' e1 e2 e3 => ?_
    rw [hsl] at e1 ⊢
    exact fin H' _ e1 e2 e3 (hS.put e2 e3 (Nat.le_add_right _ _))
theorem g_hei {N : Nat} {o : Int} (h0 : 0 ≤ o) (h1 : o < (sz : Int)) (hlay : glay o = (1, N)) : (gws n0 cA M sz)[o.toNat]? = some (n0 + o.toNat, .inl (cA 1, N, .inl (fun j : Nat => Int32.ofInt (M o (j : Int))))) := by rw [gws_get n0 cA M h0 h1, hlay]; rfl
theorem g_iald (X : gCx p s m args meth c n0 D cA own cc nL) {N : Nat} {o i : Int} (h0 : 0 ≤ o) (h1 : o < (sz : Int)) (hlay : glay o = (1, N)) (hi0 : 0 ≤ i) (hi1 : i < (N : Int)) (hN : (N : Int) ≤ 2147483647) (hd : decode cc pc = .ok (.iaload, 1)) (hn : pc + 1 = n) (kk : G p l e R s m args below meth c n0 D cA nL Q cells slots M sz n L (gJ (M o i) :: st)) : G p l e R s m args below meth c n0 D cA nL Q cells slots M sz pc L (gJ i :: gA n0 o :: st) := by
  subst hn
  intro H locs ls hl hW hS
  refine va_iald X.1 X.2.1 X.2.2.2.2.2.2.1.1 hW.2 o.toNat 0 (g_hei h0 h1 hlay) rfl (gi_in hi0 hi1 hN) hd ?_
  rw [gi_cl hi0 (by omega)]
  exact kk H locs ls hl hW hS
theorem g_iast (X : gCx p s m args meth c n0 D cA own cc nL) {N : Nat} {o i z : Int} (h0 : 0 ≤ o) (h1 : o < (sz : Int)) (hlay : glay o = (1, N)) (hi0 : 0 ≤ i) (hi1 : i < (N : Int)) (hN : (N : Int) ≤ 2147483647) (hd : decode cc pc = .ok (.iastore, 1)) (hn : pc + 1 = n) (kk : G p l e R s m args below meth c n0 D cA nL Q cells slots (gset M o i z) sz n L st) : G p l e R s m args below meth c n0 D cA nL Q cells slots M sz pc L (gJ z :: gJ i :: gA n0 o :: st) := by
  subst hn
  intro H locs ls hl hW hS
  have he := g_hei (n0 := n0) (cA := cA) (M := M) h0 h1 hlay
  have hin := gi_in hi0 hi1 hN
  refine W.iast X.1 X.2.1 (hW.2 o.toNat _ he) ((X.2.2.2.2.2.2.1.1.2 0 _ rfl).1 N (fun j => .int (Int32.ofInt (M o (j : Int))))) (fun q => by cases q) (by show ¬ (Int32.ofInt i < 0 ∨ (arrV _ _ _).slots.size ≤ _); rw [arrV_size]; exact hin) rfl rfl hd fun H1 e1 e2 e3 => ?_
  refine kk H1 _ ls hl ⟨e2.trans hW.1, ?_⟩ (hS.put e2 e3 (Nat.le_add_right _ _))
  have hent : (Sum.inl (cA 1, N, .inl (fun j : Nat => Int32.ofInt (gset M o i z o (j : Int)))) : va_E) = gent n0 cA (glay o) (gset M o i z o) := by rw [hlay]; rfl
  rw [← gws_set n0 cA M (gset M o i z) h0 h1 _ hent gset_off]
  refine hW.2.set (gws_D n0 cA M sz) he ?_ e3
  show H1[n0 + o.toNat]? = some (vp_cell _ _)
  rw [e1]
  rw [vp_cell_i, vp_cell_i, arrV_store]
  congr 2
  funext q
  have hcl := gi_cl hi0 (by omega : i ≤ 2147483647)
  by_cases hq : q = (Int32.ofInt i).toNatClampNeg
  · have h3 : ((q : Nat) : Int) = i := by omega
    rw [hq]
    simp only [updV, if_true, hcl, gset_eq]
  · have h3 : ¬ ((q : Nat) : Int) = i := by omega
    simp only [updV, if_neg hq]
    rw [gset_ne (fun z => h3 z.2)]
theorem g_hel {N : Nat} {o : Int} (h0 : 0 ≤ o) (h1 : o < (sz : Int)) (hlay : glay o = (2, N)) : (gws n0 cA M sz)[o.toNat]? = some (n0 + o.toNat, .inl (cA 2, N, .inr (.inl (fun j : Nat => Int64.ofInt (M o (j : Int)))))) := by rw [gws_get n0 cA M h0 h1, hlay]; rfl
theorem g_lald (X : gCx p s m args meth c n0 D cA own cc nL) {N : Nat} {o i : Int} (h0 : 0 ≤ o) (h1 : o < (sz : Int)) (hlay : glay o = (2, N)) (hi0 : 0 ≤ i) (hi1 : i < (N : Int)) (hN : (N : Int) ≤ 2147483647) (hd : decode cc pc = .ok (.laload, 1)) (hn : pc + 1 = n) (kk : G p l e R s m args below meth c n0 D cA nL Q cells slots M sz n L (gV (M o i) :: st)) : G p l e R s m args below meth c n0 D cA nL Q cells slots M sz pc L (gJ i :: gA n0 o :: st) := by
  subst hn
  intro H locs ls hl hW hS
  refine va_lald X.1 X.2.1 X.2.2.2.2.2.2.1.1 hW.2 o.toNat 1 (g_hel h0 h1 hlay) rfl (gi_in hi0 hi1 hN) hd ?_
  rw [gi_cl hi0 (by omega)]
  exact kk H locs ls hl hW hS
theorem g_last (X : gCx p s m args meth c n0 D cA own cc nL) {N : Nat} {o i z : Int} (h0 : 0 ≤ o) (h1 : o < (sz : Int)) (hlay : glay o = (2, N)) (hi0 : 0 ≤ i) (hi1 : i < (N : Int)) (hN : (N : Int) ≤ 2147483647) (hd : decode cc pc = .ok (.lastore, 1)) (hn : pc + 1 = n) (kk : G p l e R s m args below meth c n0 D cA nL Q cells slots (gset M o i z) sz n L st) : G p l e R s m args below meth c n0 D cA nL Q cells slots M sz pc L (gV z :: gJ i :: gA n0 o :: st) := by
  subst hn
  intro H locs ls hl hW hS
  have he := g_hel (n0 := n0) (cA := cA) (M := M) h0 h1 hlay
  have hin := gi_in hi0 hi1 hN
  refine W.last X.1 X.2.1 (hW.2 o.toNat _ he) ((X.2.2.2.2.2.2.1.1.2 1 _ rfl).1 N (fun j => .long (Int64.ofInt (M o (j : Int))))) (fun q => by cases q) (by show ¬ (Int32.ofInt i < 0 ∨ (arrV _ _ _).slots.size ≤ _); rw [arrV_size]; exact hin) rfl rfl hd fun H1 e1 e2 e3 => ?_
  refine kk H1 _ ls hl ⟨e2.trans hW.1, ?_⟩ (hS.put e2 e3 (Nat.le_add_right _ _))
  have hent : (Sum.inl (cA 2, N, .inr (.inl (fun j : Nat => Int64.ofInt (gset M o i z o (j : Int))))) : va_E) = gent n0 cA (glay o) (gset M o i z o) := by rw [hlay]; rfl
  rw [← gws_set n0 cA M (gset M o i z) h0 h1 _ hent gset_off]
  refine hW.2.set (gws_D n0 cA M sz) he ?_ e3
  show H1[n0 + o.toNat]? = some (vp_cell _ _)
  rw [e1]
  rw [vp_cell_l, vp_cell_l, arrV_store]
  congr 2
  funext q
  have hcl := gi_cl hi0 (by omega : i ≤ 2147483647)
  by_cases hq : q = (Int32.ofInt i).toNatClampNeg
  · have h3 : ((q : Nat) : Int) = i := by omega
    rw [hq]
    simp only [updV, if_true, hcl, gset_eq]
  · have h3 : ¬ ((q : Nat) : Int) = i := by omega
    simp only [updV, if_neg hq]
    rw [gset_ne (fun z => h3 z.2)]
theorem g_heb {N : Nat} {o : Int} (h0 : 0 ≤ o) (h1 : o < (sz : Int)) (hlay : glay o = (3, N)) : (gws n0 cA M sz)[o.toNat]? = some (n0 + o.toNat, .inl (cA 3, N, .inl (fun j : Nat => Int32.ofInt (M o (j : Int))))) := by rw [gws_get n0 cA M h0 h1, hlay]; rfl
theorem g_bald (X : gCx p s m args meth c n0 D cA own cc nL) {N : Nat} {o i : Int} (h0 : 0 ≤ o) (h1 : o < (sz : Int)) (hlay : glay o = (3, N)) (hi0 : 0 ≤ i) (hi1 : i < (N : Int)) (hN : (N : Int) ≤ 2147483647) (hd : decode cc pc = .ok (.baload, 1)) (hn : pc + 1 = n) (kk : G p l e R s m args below meth c n0 D cA nL Q cells slots M sz n L (gJ (M o i) :: st)) : G p l e R s m args below meth c n0 D cA nL Q cells slots M sz pc L (gJ i :: gA n0 o :: st) := by
  subst hn
  intro H locs ls hl hW hS
  refine va_bald X.1 X.2.1 X.2.2.2.2.2.2.1.1 hW.2 o.toNat 2 (g_heb h0 h1 hlay) rfl (gi_in hi0 hi1 hN) hd ?_
  rw [gi_cl hi0 (by omega)]
  exact kk H locs ls hl hW hS
theorem g_bast (X : gCx p s m args meth c n0 D cA own cc nL) {N : Nat} {o i x z : Int} (h0 : 0 ≤ o) (h1 : o < (sz : Int)) (hlay : glay o = (3, N)) (hi0 : 0 ≤ i) (hi1 : i < (N : Int)) (hN : (N : Int) ≤ 2147483647) (hv : vp_nar .byte (Int32.ofInt x) = Int32.ofInt z) (hd : decode cc pc = .ok (.bastore, 1)) (hn : pc + 1 = n) (kk : G p l e R s m args below meth c n0 D cA nL Q cells slots (gset M o i z) sz n L st) : G p l e R s m args below meth c n0 D cA nL Q cells slots M sz pc L (gJ x :: gJ i :: gA n0 o :: st) := by
  subst hn
  intro H locs ls hl hW hS
  have he := g_heb (n0 := n0) (cA := cA) (M := M) h0 h1 hlay
  have hin := gi_in hi0 hi1 hN
  refine W.bast X.1 X.2.1 (hW.2 o.toNat _ he) ((X.2.2.2.2.2.2.1.1.2 2 _ rfl).1 N (fun j => .int (Int32.ofInt (M o (j : Int))))) (fun q => by cases q) (by show ¬ (Int32.ofInt i < 0 ∨ (arrV _ _ _).slots.size ≤ _); rw [arrV_size]; exact hin) rfl rfl hd fun H1 e1 e2 e3 => ?_
  refine kk H1 _ ls hl ⟨e2.trans hW.1, ?_⟩ (hS.put e2 e3 (Nat.le_add_right _ _))
  have hent : (Sum.inl (cA 3, N, .inl (fun j : Nat => Int32.ofInt (gset M o i z o (j : Int)))) : va_E) = gent n0 cA (glay o) (gset M o i z o) := by rw [hlay]; rfl
  rw [← gws_set n0 cA M (gset M o i z) h0 h1 _ hent gset_off]
  refine hW.2.set (gws_D n0 cA M sz) he ?_ e3
  show H1[n0 + o.toNat]? = some (vp_cell _ _)
  rw [e1]
  rw [vp_cell_i, vp_cell_i, arrV_store]
  congr 2
  funext q
  have hcl := gi_cl hi0 (by omega : i ≤ 2147483647)
  by_cases hq : q = (Int32.ofInt i).toNatClampNeg
  · have h3 : ((q : Nat) : Int) = i := by omega
    rw [hq]
    simp only [updV, if_true, hcl, gset_eq]
    first | exact congrArg Value.int hv | (rw [← hv]; rfl)
  · have h3 : ¬ ((q : Nat) : Int) = i := by omega
    simp only [updV, if_neg hq]
    rw [gset_ne (fun z => h3 z.2)]
theorem g_hez {N : Nat} {o : Int} (h0 : 0 ≤ o) (h1 : o < (sz : Int)) (hlay : glay o = (4, N)) : (gws n0 cA M sz)[o.toNat]? = some (n0 + o.toNat, .inl (cA 4, N, .inl (fun j : Nat => Int32.ofInt (M o (j : Int))))) := by rw [gws_get n0 cA M h0 h1, hlay]; rfl
theorem g_zald (X : gCx p s m args meth c n0 D cA own cc nL) {N : Nat} {o i : Int} (h0 : 0 ≤ o) (h1 : o < (sz : Int)) (hlay : glay o = (4, N)) (hi0 : 0 ≤ i) (hi1 : i < (N : Int)) (hN : (N : Int) ≤ 2147483647) (hd : decode cc pc = .ok (.baload, 1)) (hn : pc + 1 = n) (kk : G p l e R s m args below meth c n0 D cA nL Q cells slots M sz n L (gJ (M o i) :: st)) : G p l e R s m args below meth c n0 D cA nL Q cells slots M sz pc L (gJ i :: gA n0 o :: st) := by
  subst hn
  intro H locs ls hl hW hS
  refine va_zald X.1 X.2.1 X.2.2.2.2.2.2.1.1 hW.2 o.toNat 3 (g_hez h0 h1 hlay) rfl (gi_in hi0 hi1 hN) hd ?_
  rw [gi_cl hi0 (by omega)]
  exact kk H locs ls hl hW hS
theorem g_zast (X : gCx p s m args meth c n0 D cA own cc nL) {N : Nat} {o i x z : Int} (h0 : 0 ≤ o) (h1 : o < (sz : Int)) (hlay : glay o = (4, N)) (hi0 : 0 ≤ i) (hi1 : i < (N : Int)) (hN : (N : Int) ≤ 2147483647) (hv : vp_nar .boolean (Int32.ofInt x) = Int32.ofInt z) (hd : decode cc pc = .ok (.bastore, 1)) (hn : pc + 1 = n) (kk : G p l e R s m args below meth c n0 D cA nL Q cells slots (gset M o i z) sz n L st) : G p l e R s m args below meth c n0 D cA nL Q cells slots M sz pc L (gJ x :: gJ i :: gA n0 o :: st) := by
  subst hn
  intro H locs ls hl hW hS
  have he := g_hez (n0 := n0) (cA := cA) (M := M) h0 h1 hlay
  have hin := gi_in hi0 hi1 hN
  refine W.zast X.1 X.2.1 (hW.2 o.toNat _ he) ((X.2.2.2.2.2.2.1.1.2 3 _ rfl).1 N (fun j => .int (Int32.ofInt (M o (j : Int))))) (fun q => by cases q) (by show ¬ (Int32.ofInt i < 0 ∨ (arrV _ _ _).slots.size ≤ _); rw [arrV_size]; exact hin) rfl rfl hd fun H1 e1 e2 e3 => ?_
  refine kk H1 _ ls hl ⟨e2.trans hW.1, ?_⟩ (hS.put e2 e3 (Nat.le_add_right _ _))
  have hent : (Sum.inl (cA 4, N, .inl (fun j : Nat => Int32.ofInt (gset M o i z o (j : Int)))) : va_E) = gent n0 cA (glay o) (gset M o i z o) := by rw [hlay]; rfl
  rw [← gws_set n0 cA M (gset M o i z) h0 h1 _ hent gset_off]
  refine hW.2.set (gws_D n0 cA M sz) he ?_ e3
  show H1[n0 + o.toNat]? = some (vp_cell _ _)
  rw [e1]
  rw [vp_cell_i, vp_cell_i, arrV_store]
  congr 2
  funext q
  have hcl := gi_cl hi0 (by omega : i ≤ 2147483647)
  by_cases hq : q = (Int32.ofInt i).toNatClampNeg
  · have h3 : ((q : Nat) : Int) = i := by omega
    rw [hq]
    simp only [updV, if_true, hcl, gset_eq]
    first | exact congrArg Value.int hv | (rw [← hv]; rfl)
  · have h3 : ¬ ((q : Nat) : Int) = i := by omega
    simp only [updV, if_neg hq]
    rw [gset_ne (fun z => h3 z.2)]
theorem g_heq5 {N : Nat} {o : Int} (h0 : 0 ≤ o) (h1 : o < (sz : Int)) (hlay : glay o = (5, N)) : (gws n0 cA M sz)[o.toNat]? = some (n0 + o.toNat, .inl (cA 5, N, .inr (.inr (.inr (.inr (fun j : Nat => gRf n0 (M o (j : Int)))))))) := by rw [gws_get n0 cA M h0 h1, hlay]; rfl
theorem g_aald5 (X : gCx p s m args meth c n0 D cA own cc nL) {N : Nat} {o i t : Int} (h0 : 0 ≤ o) (h1 : o < (sz : Int)) (hlay : glay o = (5, N)) (hi0 : 0 ≤ i) (hi1 : i < (N : Int)) (hN : (N : Int) ≤ 2147483647) (hr : M o i = t + 1) (ht : 0 ≤ t) (hd : decode cc pc = .ok (.aaload, 1)) (hn : pc + 1 = n) (kk : G p l e R s m args below meth c n0 D cA nL Q cells slots M sz n L (gA n0 t :: st)) : G p l e R s m args below meth c n0 D cA nL Q cells slots M sz pc L (gJ i :: gA n0 o :: st) := by
  subst hn
  intro H locs ls hl hW hS
  refine va_aldq X.1 X.2.1 X.2.2.2.2.2.2.1.1 hW.2 o.toNat 4 (g_heq5 h0 h1 hlay) rfl (gi_in hi0 hi1 hN) hd ?_
  rw [gi_cl hi0 (by omega), hr]
  have h : gRf n0 (t + 1) = some (n0 + t.toNat) := by simp only [gRf]; rw [if_neg (by omega)]; congr 2; omega
  rw [h]
  exact kk H locs ls hl hW hS
theorem g_aast5 (X : gCx p s m args meth c n0 D cA own cc nL) {N : Nat} {o i t : Int} (h0 : 0 ≤ o) (h1 : o < (sz : Int)) (hlay : glay o = (5, N)) (hi0 : 0 ≤ i) (hi1 : i < (N : Int)) (hN : (N : Int) ≤ 2147483647) (ht0 : 0 ≤ t) (ht1 : t < (sz : Int)) (hlt : glay t = (0, 0)) (hd : decode cc pc = .ok (.aastore, 1)) (hn : pc + 1 = n) (kk : G p l e R s m args below meth c n0 D cA nL Q cells slots (gset M o i (t + 1)) sz n L st) : G p l e R s m args below meth c n0 D cA nL Q cells slots M sz pc L (gA n0 t :: gJ i :: gA n0 o :: st) := by
  subst hn
  intro H locs ls hl hW hS
  have hK := X.2.2.2.2.2.2.1.1
  have he := g_heq5 (n0 := n0) (cA := cA) (M := M) h0 h1 hlay
  have hin := gi_in hi0 hi1 hN
  have hlt0 : (Int32.ofInt i).toNatClampNeg < N := by have := gi_cl hi0 (by omega : i ≤ 2147483647); omega
  have h00 : ¬ Int32.ofInt i < 0 := fun q => hin (Or.inl q)
  obtain ⟨r', hr', cellV, g1, g2, g3, -⟩ := hW.2 t.toNat _ (g_he0 ht0 ht1 hlt)
  have hcls := (hK.1 0 _ rfl).2
  obtain ⟨kA, comp, k1, k2, k3, -⟩ := (hK.2 4 _ rfl).2
  have hcomp : comp = D.1 0 := Option.some.inj (k3.symm.trans hcls.1)
  subst hcomp
  obtain ⟨kC, hkC, -⟩ := hcls.2
  refine W.aast X.1 X.2.1 (hW.2 o.toNat _ he) (fun q h => by cases h) (fun h => by cases h) k1 k2 rfl hkC ⟨h00, by show _ < (arrV _ _ _).slots.size; rw [arrV_size]; exact hlt0⟩ g1 (fun q h => by rw [g3] at h; cases h) (by rw [g2]; exact hkC) (by rw [g2]; exact va_assign hcls) rfl rfl hd fun H1 e1 e2 e3 => ?_
  refine kk H1 _ ls hl ⟨e2.trans hW.1, ?_⟩ (hS.put e2 e3 (Nat.le_add_right _ _))
  have hent : (Sum.inl (cA 5, N, .inr (.inr (.inr (.inr (fun j : Nat => gRf n0 (gset M o i (t + 1) o (j : Int))))))) : va_E) = gent n0 cA (glay o) (gset M o i (t + 1) o) := by rw [hlay]; rfl
  rw [← gws_set n0 cA M (gset M o i (t + 1)) h0 h1 _ hent gset_off]
  refine hW.2.set (gws_D n0 cA M sz) he ?_ e3
  show H1[n0 + o.toNat]? = some (vp_cell _ _)
  rw [e1]
  rw [vp_cell_q, vp_cell_q, arrV_store]
  congr 2
  funext q
  have hcl := gi_cl hi0 (by omega : i ≤ 2147483647)
  by_cases hq : q = (Int32.ofInt i).toNatClampNeg
  · have h3 : ((q : Nat) : Int) = i := by omega
    have h : gRf n0 (t + 1) = some (n0 + t.toNat) := by simp only [gRf]; rw [if_neg (by omega)]; congr 2; omega
    simp only [updV, hq, if_true, hcl, gset_eq, h]
    rfl
  · have h3 : ¬ ((q : Nat) : Int) = i := by omega
    simp only [updV, if_neg hq]
    rw [gset_ne (fun z => h3 z.2)]
theorem g_heq6 {N : Nat} {o : Int} (h0 : 0 ≤ o) (h1 : o < (sz : Int)) (hlay : glay o = (6, N)) : (gws n0 cA M sz)[o.toNat]? = some (n0 + o.toNat, .inl (cA 6, N, .inr (.inr (.inr (.inr (fun j : Nat => gRf n0 (M o (j : Int)))))))) := by rw [gws_get n0 cA M h0 h1, hlay]; rfl
theorem g_aald6 (X : gCx p s m args meth c n0 D cA own cc nL) {N : Nat} {o i t : Int} (h0 : 0 ≤ o) (h1 : o < (sz : Int)) (hlay : glay o = (6, N)) (hi0 : 0 ≤ i) (hi1 : i < (N : Int)) (hN : (N : Int) ≤ 2147483647) (hr : M o i = t + 1) (ht : 0 ≤ t) (hd : decode cc pc = .ok (.aaload, 1)) (hn : pc + 1 = n) (kk : G p l e R s m args below meth c n0 D cA nL Q cells slots M sz n L (gA n0 t :: st)) : G p l e R s m args below meth c n0 D cA nL Q cells slots M sz pc L (gJ i :: gA n0 o :: st) := by
  subst hn
  intro H locs ls hl hW hS
  refine va_aldq X.1 X.2.1 X.2.2.2.2.2.2.1.1 hW.2 o.toNat 5 (g_heq6 h0 h1 hlay) rfl (gi_in hi0 hi1 hN) hd ?_
  rw [gi_cl hi0 (by omega), hr]
  have h : gRf n0 (t + 1) = some (n0 + t.toNat) := by simp only [gRf]; rw [if_neg (by omega)]; congr 2; omega
  rw [h]
  exact kk H locs ls hl hW hS
theorem g_aast6 (X : gCx p s m args meth c n0 D cA own cc nL) {N : Nat} {o i t : Int} (h0 : 0 ≤ o) (h1 : o < (sz : Int)) (hlay : glay o = (6, N)) (hi0 : 0 ≤ i) (hi1 : i < (N : Int)) (hN : (N : Int) ≤ 2147483647) (ht0 : 0 ≤ t) (ht1 : t < (sz : Int)) (hlt : glay t = (0, 6)) (hd : decode cc pc = .ok (.aastore, 1)) (hn : pc + 1 = n) (kk : G p l e R s m args below meth c n0 D cA nL Q cells slots (gset M o i (t + 1)) sz n L st) : G p l e R s m args below meth c n0 D cA nL Q cells slots M sz pc L (gA n0 t :: gJ i :: gA n0 o :: st) := by
  subst hn
  intro H locs ls hl hW hS
  have hK := X.2.2.2.2.2.2.1.1
  have he := g_heq6 (n0 := n0) (cA := cA) (M := M) h0 h1 hlay
  have hin := gi_in hi0 hi1 hN
  have hlt0 : (Int32.ofInt i).toNatClampNeg < N := by have := gi_cl hi0 (by omega : i ≤ 2147483647); omega
  have h00 : ¬ Int32.ofInt i < 0 := fun q => hin (Or.inl q)
  obtain ⟨r', hr', cellV, g1, g2, g3, -⟩ := hW.2 t.toNat _ (g_he0 ht0 ht1 hlt)
  have hcls := (hK.1 6 _ rfl).2
  obtain ⟨kA, comp, k1, k2, k3, -⟩ := (hK.2 5 _ rfl).2
  have hcomp : comp = D.1 6 := Option.some.inj (k3.symm.trans hcls.1)
  subst hcomp
  obtain ⟨kC, hkC, -⟩ := hcls.2
  refine W.aast X.1 X.2.1 (hW.2 o.toNat _ he) (fun q h => by cases h) (fun h => by cases h) k1 k2 rfl hkC ⟨h00, by show _ < (arrV _ _ _).slots.size; rw [arrV_size]; exact hlt0⟩ g1 (fun q h => by rw [g3] at h; cases h) (by rw [g2]; exact hkC) (by rw [g2]; exact va_assign hcls) rfl rfl hd fun H1 e1 e2 e3 => ?_
  refine kk H1 _ ls hl ⟨e2.trans hW.1, ?_⟩ (hS.put e2 e3 (Nat.le_add_right _ _))
  have hent : (Sum.inl (cA 6, N, .inr (.inr (.inr (.inr (fun j : Nat => gRf n0 (gset M o i (t + 1) o (j : Int))))))) : va_E) = gent n0 cA (glay o) (gset M o i (t + 1) o) := by rw [hlay]; rfl
  rw [← gws_set n0 cA M (gset M o i (t + 1)) h0 h1 _ hent gset_off]
  refine hW.2.set (gws_D n0 cA M sz) he ?_ e3
  show H1[n0 + o.toNat]? = some (vp_cell _ _)
  rw [e1]
  rw [vp_cell_q, vp_cell_q, arrV_store]
  congr 2
  funext q
  have hcl := gi_cl hi0 (by omega : i ≤ 2147483647)
  by_cases hq : q = (Int32.ofInt i).toNatClampNeg
  · have h3 : ((q : Nat) : Int) = i := by omega
    have h : gRf n0 (t + 1) = some (n0 + t.toNat) := by simp only [gRf]; rw [if_neg (by omega)]; congr 2; omega
    simp only [updV, hq, if_true, hcl, gset_eq, h]
    rfl
  · have h3 : ¬ ((q : Nat) : Int) = i := by omega
    simp only [updV, if_neg hq]
    rw [gset_ne (fun z => h3 z.2)]
theorem g_heq7 {N : Nat} {o : Int} (h0 : 0 ≤ o) (h1 : o < (sz : Int)) (hlay : glay o = (7, N)) : (gws n0 cA M sz)[o.toNat]? = some (n0 + o.toNat, .inl (cA 7, N, .inr (.inr (.inr (.inr (fun j : Nat => gRf n0 (M o (j : Int)))))))) := by rw [gws_get n0 cA M h0 h1, hlay]; rfl
theorem g_aald7 (X : gCx p s m args meth c n0 D cA own cc nL) {N : Nat} {o i t : Int} (h0 : 0 ≤ o) (h1 : o < (sz : Int)) (hlay : glay o = (7, N)) (hi0 : 0 ≤ i) (hi1 : i < (N : Int)) (hN : (N : Int) ≤ 2147483647) (hr : M o i = t + 1) (ht : 0 ≤ t) (hd : decode cc pc = .ok (.aaload, 1)) (hn : pc + 1 = n) (kk : G p l e R s m args below meth c n0 D cA nL Q cells slots M sz n L (gA n0 t :: st)) : G p l e R s m args below meth c n0 D cA nL Q cells slots M sz pc L (gJ i :: gA n0 o :: st) := by
  subst hn
  intro H locs ls hl hW hS
  refine va_aldq X.1 X.2.1 X.2.2.2.2.2.2.1.1 hW.2 o.toNat 6 (g_heq7 h0 h1 hlay) rfl (gi_in hi0 hi1 hN) hd ?_
  rw [gi_cl hi0 (by omega), hr]
  have h : gRf n0 (t + 1) = some (n0 + t.toNat) := by simp only [gRf]; rw [if_neg (by omega)]; congr 2; omega
  rw [h]
  exact kk H locs ls hl hW hS
theorem g_aast7 (X : gCx p s m args meth c n0 D cA own cc nL) {N : Nat} {o i t : Int} (h0 : 0 ≤ o) (h1 : o < (sz : Int)) (hlay : glay o = (7, N)) (hi0 : 0 ≤ i) (hi1 : i < (N : Int)) (hN : (N : Int) ≤ 2147483647) (ht0 : 0 ≤ t) (ht1 : t < (sz : Int)) (hlt : glay t = (0, 8)) (hd : decode cc pc = .ok (.aastore, 1)) (hn : pc + 1 = n) (kk : G p l e R s m args below meth c n0 D cA nL Q cells slots (gset M o i (t + 1)) sz n L st) : G p l e R s m args below meth c n0 D cA nL Q cells slots M sz pc L (gA n0 t :: gJ i :: gA n0 o :: st) := by
  subst hn
  intro H locs ls hl hW hS
  have hK := X.2.2.2.2.2.2.1.1
  have he := g_heq7 (n0 := n0) (cA := cA) (M := M) h0 h1 hlay
  have hin := gi_in hi0 hi1 hN
  have hlt0 : (Int32.ofInt i).toNatClampNeg < N := by have := gi_cl hi0 (by omega : i ≤ 2147483647); omega
  have h00 : ¬ Int32.ofInt i < 0 := fun q => hin (Or.inl q)
  obtain ⟨r', hr', cellV, g1, g2, g3, -⟩ := hW.2 t.toNat _ (g_he0 ht0 ht1 hlt)
  have hcls := (hK.1 8 _ rfl).2
  obtain ⟨kA, comp, k1, k2, k3, -⟩ := (hK.2 6 _ rfl).2
  have hcomp : comp = D.1 8 := Option.some.inj (k3.symm.trans hcls.1)
  subst hcomp
  obtain ⟨kC, hkC, -⟩ := hcls.2
  refine W.aast X.1 X.2.1 (hW.2 o.toNat _ he) (fun q h => by cases h) (fun h => by cases h) k1 k2 rfl hkC ⟨h00, by show _ < (arrV _ _ _).slots.size; rw [arrV_size]; exact hlt0⟩ g1 (fun q h => by rw [g3] at h; cases h) (by rw [g2]; exact hkC) (by rw [g2]; exact va_assign hcls) rfl rfl hd fun H1 e1 e2 e3 => ?_
  refine kk H1 _ ls hl ⟨e2.trans hW.1, ?_⟩ (hS.put e2 e3 (Nat.le_add_right _ _))
  have hent : (Sum.inl (cA 7, N, .inr (.inr (.inr (.inr (fun j : Nat => gRf n0 (gset M o i (t + 1) o (j : Int))))))) : va_E) = gent n0 cA (glay o) (gset M o i (t + 1) o) := by rw [hlay]; rfl
  rw [← gws_set n0 cA M (gset M o i (t + 1)) h0 h1 _ hent gset_off]
  refine hW.2.set (gws_D n0 cA M sz) he ?_ e3
  show H1[n0 + o.toNat]? = some (vp_cell _ _)
  rw [e1]
  rw [vp_cell_q, vp_cell_q, arrV_store]
  congr 2
  funext q
  have hcl := gi_cl hi0 (by omega : i ≤ 2147483647)
  by_cases hq : q = (Int32.ofInt i).toNatClampNeg
  · have h3 : ((q : Nat) : Int) = i := by omega
    have h : gRf n0 (t + 1) = some (n0 + t.toNat) := by simp only [gRf]; rw [if_neg (by omega)]; congr 2; omega
    simp only [updV, hq, if_true, hcl, gset_eq, h]
    rfl
  · have h3 : ¬ ((q : Nat) : Int) = i := by omega
    simp only [updV, if_neg hq]
    rw [gset_ne (fun z => h3 z.2)]
/-! makings -/
theorem gws_new (H H1 : Heap) (M' : gM) (e : va_E) (hP : va_P D vwCl (gws n0 cA M sz) H) (hz : H.size = n0 + sz) (z1 : H1.size = H.size + 1) (o1 : ∀ q, q < H.size → H1[q]? = H[q]?) (he : e = gent n0 cA (glay (sz : Int)) (M' (sz : Int))) (ho : ∀ a : Int, a ≠ (sz : Int) → M' a = M a) (ha : va_at D vwCl (n0 + sz, e) H1) : gWd n0 D cA M' (sz + 1) H1 := by
  refine ⟨by omega, ?_⟩
  rw [← gws_push n0 cA M M' sz e he ho]
  refine (hP.kept (fun k x hx => o1 x.1 ((hP k x hx).lt))).app (fun k x hx => ?_)
  have h1 : k < 1 := (List.getElem?_eq_some_iff.mp hx).1
  rw [show k = 0 by omega] at hx
  cases hx
  exact ha
theorem g_new (X : gCx p s m args meth c n0 D cA own cc nL) {C : String} {T : u_T} {N ci index : Nat} (ty0 : Nat → FieldType) (hin : ∀ w ∈ u_ws C T N, w ∈ gT) (hty : ∀ k, k < N → parseFieldDescriptor (T k).2.2.1 = some (ty0 k)) (hc : vwCl[ci]? = some (C, T, N)) (hNF : gNF ci = N) (hTY : ∀ k, k < N → gTY ci k = ty0 k ∧ (match ty0 k with | .float => false | .double => false | _ => true) = true) (hw1 : Cond.classLink own index C ∈ gT) (hw2 : Cond.instantiable C N ∈ gT) (hw3 : Cond.initialized C ∈ gT) (hlay : glay (sz : Int) = (0, ci)) (hcells : cells + 1 ≤ R.cells) (hslots : slots + N ≤ R.slots) (hd : decode cc pc = .ok (.new index, 3)) (hn : pc + 3 = n) (kk : G p l e R s m args below meth c n0 D cA nL Q (cells + 1) (slots + N) (gnew M (sz : Int)) (sz + 1) n L (gA n0 (sz : Int) :: st)) : G p l e R s m args below meth c n0 D cA nL Q cells slots M sz pc L st := by
  subst hn
  intro H locs ls hl hW hS
  have hts := X.2.2.2.2.1
  have hKn := X.2.2.2.2.2.2.1.1.1 ci _ hc
  refine W.newcK X.1 X.2.1 X.2.2.2.1 (hts _ hw1) (hts _ hw2) (hts _ hw3) rfl hd hcells hslots hKn.2.1 hW.1 fun H1 kC hkC e1 z1 o1 => ?_
  have hS2 : va_S (fun q => n0 ≤ q) s.heap H1 locs := ⟨by have := hS.1; have := hW.1; omega, fun x h1 h2 => (o1 x (by omega)).trans (hS.2.1 x h1 h2), hS.2.2⟩
  refine kk H1 locs ls hl (gws_new H H1 (gnew M (sz : Int)) (.inr (ci, (List.range (gNF ci)).map (fun j => gfv n0 (gTY ci j) 0))) hW.2 hW.1 (by rw [z1, hW.1]) (by rw [hW.1]; exact o1) (by rw [hlay, gnew_on]; rfl) gnew_off ?_) hS2
  refine ⟨_, hc, (u_born ty0 hts hin hKn hkC e1 hty).to fun k hk => ?_⟩
  have h1 : ((List.range (gNF ci)).map (fun j => gfv n0 (gTY ci j) 0))[k]? = some (gfv n0 (gTY ci k) 0) := by rw [List.getElem?_map, List.getElem?_range (by omega)]; rfl
  show defaultValue (ty0 k) = vp_V _ k
  simp only [vp_V, List.getD, h1, Option.getD_some]
  rw [(hTY k hk).1, gfv_0 _ _ (hTY k hk).2]
theorem g_newI (X : gCx p s m args meth c n0 D cA own cc nL) {N : Nat} {z : Int} (hz : z = (N : Int)) (hN : (N : Int) ≤ 100000) (hw : Cond.arrayClass .int ∈ gT) (hlay : glay (sz : Int) = (1, N)) (hcells : cells + 1 ≤ R.cells) (hslots : slots + N ≤ R.slots) (hd : decode cc pc = .ok (.newarray .int, 2)) (hn : pc + 2 = n) (kk : G p l e R s m args below meth c n0 D cA nL Q (cells + 1) (slots + N) (gnew M (sz : Int)) (sz + 1) n L (gA n0 (sz : Int) :: st)) : G p l e R s m args below meth c n0 D cA nL Q cells slots M sz pc L (gJ z :: st) := by
  subst hn; subst hz
  intro H locs ls hl hW hS
  have hts := X.2.2.2.2.1
  have hcl : (Int32.ofInt (N : Int)).toNatClampNeg = N := by have := gi_cl (i := (N : Int)) (by omega) (by omega); omega
  refine va_newaK X.1 X.2.1 (atype := .int) (hts _ hw) rfl hd rfl (by rw [gi_0, gi_lt ⟨by omega, by omega⟩ ⟨by omega, by omega⟩]; omega) hcl (by show N * 4 ≤ _; omega) hcells hslots hW.1 fun H1 cA' e1 z1 o1 hAr hNm => ?_
  have hS2 : va_S (fun q => n0 ≤ q) s.heap H1 locs := ⟨by have := hS.1; have := hW.1; omega, fun x h1 h2 => (o1 x (by have := hS.1; have := hW.1; omega)).trans (hS.2.1 x h1 h2), hS.2.2⟩
  have hcA : cA' = cA 1 := Option.some.inj (hNm.symm.trans (X.2.2.2.2.2.2.1.1.2 0 _ rfl).2)
  subst hcA
  refine kk H1 locs ls hl (gws_new H H1 (gnew M (sz : Int)) (.inl (cA 1, N, .inl (fun _ => Int32.ofInt 0))) hW.2 hW.1 (by rw [z1, hW.1]) (by rw [hW.1]; exact o1) (by rw [hlay, gnew_on]; rfl) gnew_off ?_) hS2
  exact e1
theorem g_newL (X : gCx p s m args meth c n0 D cA own cc nL) {N : Nat} {z : Int} (hz : z = (N : Int)) (hN : (N : Int) ≤ 100000) (hw : Cond.arrayClass .long ∈ gT) (hlay : glay (sz : Int) = (2, N)) (hcells : cells + 1 ≤ R.cells) (hslots : slots + N ≤ R.slots) (hd : decode cc pc = .ok (.newarray .long, 2)) (hn : pc + 2 = n) (kk : G p l e R s m args below meth c n0 D cA nL Q (cells + 1) (slots + N) (gnew M (sz : Int)) (sz + 1) n L (gA n0 (sz : Int) :: st)) : G p l e R s m args below meth c n0 D cA nL Q cells slots M sz pc L (gJ z :: st) := by
  subst hn; subst hz
  intro H locs ls hl hW hS
  have hts := X.2.2.2.2.1
  have hcl : (Int32.ofInt (N : Int)).toNatClampNeg = N := by have := gi_cl (i := (N : Int)) (by omega) (by omega); omega
  refine va_newaK X.1 X.2.1 (atype := .long) (hts _ hw) rfl hd rfl (by rw [gi_0, gi_lt ⟨by omega, by omega⟩ ⟨by omega, by omega⟩]; omega) hcl (by show N * 8 ≤ _; omega) hcells hslots hW.1 fun H1 cA' e1 z1 o1 hAr hNm => ?_
  have hS2 : va_S (fun q => n0 ≤ q) s.heap H1 locs := ⟨by have := hS.1; have := hW.1; omega, fun x h1 h2 => (o1 x (by have := hS.1; have := hW.1; omega)).trans (hS.2.1 x h1 h2), hS.2.2⟩
  have hcA : cA' = cA 2 := Option.some.inj (hNm.symm.trans (X.2.2.2.2.2.2.1.1.2 1 _ rfl).2)
  subst hcA
  refine kk H1 locs ls hl (gws_new H H1 (gnew M (sz : Int)) (.inl (cA 2, N, .inr (.inl (fun _ => Int64.ofInt 0)))) hW.2 hW.1 (by rw [z1, hW.1]) (by rw [hW.1]; exact o1) (by rw [hlay, gnew_on]; rfl) gnew_off ?_) hS2
  exact e1
theorem g_newB (X : gCx p s m args meth c n0 D cA own cc nL) {N : Nat} {z : Int} (hz : z = (N : Int)) (hN : (N : Int) ≤ 100000) (hw : Cond.arrayClass .byte ∈ gT) (hlay : glay (sz : Int) = (3, N)) (hcells : cells + 1 ≤ R.cells) (hslots : slots + N ≤ R.slots) (hd : decode cc pc = .ok (.newarray .byte, 2)) (hn : pc + 2 = n) (kk : G p l e R s m args below meth c n0 D cA nL Q (cells + 1) (slots + N) (gnew M (sz : Int)) (sz + 1) n L (gA n0 (sz : Int) :: st)) : G p l e R s m args below meth c n0 D cA nL Q cells slots M sz pc L (gJ z :: st) := by
  subst hn; subst hz
  intro H locs ls hl hW hS
  have hts := X.2.2.2.2.1
  have hcl : (Int32.ofInt (N : Int)).toNatClampNeg = N := by have := gi_cl (i := (N : Int)) (by omega) (by omega); omega
  refine va_newaK X.1 X.2.1 (atype := .byte) (hts _ hw) rfl hd rfl (by rw [gi_0, gi_lt ⟨by omega, by omega⟩ ⟨by omega, by omega⟩]; omega) hcl (by show N * 1 ≤ _; omega) hcells hslots hW.1 fun H1 cA' e1 z1 o1 hAr hNm => ?_
  have hS2 : va_S (fun q => n0 ≤ q) s.heap H1 locs := ⟨by have := hS.1; have := hW.1; omega, fun x h1 h2 => (o1 x (by have := hS.1; have := hW.1; omega)).trans (hS.2.1 x h1 h2), hS.2.2⟩
  have hcA : cA' = cA 3 := Option.some.inj (hNm.symm.trans (X.2.2.2.2.2.2.1.1.2 2 _ rfl).2)
  subst hcA
  refine kk H1 locs ls hl (gws_new H H1 (gnew M (sz : Int)) (.inl (cA 3, N, .inl (fun _ => Int32.ofInt 0))) hW.2 hW.1 (by rw [z1, hW.1]) (by rw [hW.1]; exact o1) (by rw [hlay, gnew_on]; rfl) gnew_off ?_) hS2
  exact e1
theorem g_newZ (X : gCx p s m args meth c n0 D cA own cc nL) {N : Nat} {z : Int} (hz : z = (N : Int)) (hN : (N : Int) ≤ 100000) (hw : Cond.arrayClass .boolean ∈ gT) (hlay : glay (sz : Int) = (4, N)) (hcells : cells + 1 ≤ R.cells) (hslots : slots + N ≤ R.slots) (hd : decode cc pc = .ok (.newarray .boolean, 2)) (hn : pc + 2 = n) (kk : G p l e R s m args below meth c n0 D cA nL Q (cells + 1) (slots + N) (gnew M (sz : Int)) (sz + 1) n L (gA n0 (sz : Int) :: st)) : G p l e R s m args below meth c n0 D cA nL Q cells slots M sz pc L (gJ z :: st) := by
  subst hn; subst hz
  intro H locs ls hl hW hS
  have hts := X.2.2.2.2.1
  have hcl : (Int32.ofInt (N : Int)).toNatClampNeg = N := by have := gi_cl (i := (N : Int)) (by omega) (by omega); omega
  refine va_newaK X.1 X.2.1 (atype := .boolean) (hts _ hw) rfl hd rfl (by rw [gi_0, gi_lt ⟨by omega, by omega⟩ ⟨by omega, by omega⟩]; omega) hcl (by show N * 1 ≤ _; omega) hcells hslots hW.1 fun H1 cA' e1 z1 o1 hAr hNm => ?_
  have hS2 : va_S (fun q => n0 ≤ q) s.heap H1 locs := ⟨by have := hS.1; have := hW.1; omega, fun x h1 h2 => (o1 x (by have := hS.1; have := hW.1; omega)).trans (hS.2.1 x h1 h2), hS.2.2⟩
  have hcA : cA' = cA 4 := Option.some.inj (hNm.symm.trans (X.2.2.2.2.2.2.1.1.2 3 _ rfl).2)
  subst hcA
  refine kk H1 locs ls hl (gws_new H H1 (gnew M (sz : Int)) (.inl (cA 4, N, .inl (fun _ => Int32.ofInt 0))) hW.2 hW.1 (by rw [z1, hW.1]) (by rw [hW.1]; exact o1) (by rw [hlay, gnew_on]; rfl) gnew_off ?_) hS2
  exact e1
theorem g_newQ (X : gCx p s m args meth c n0 D cA own cc nL) {C : String} {N kd t0 index : Nat} {z : Int} (hz : z = (N : Int)) (hN : (N : Int) ≤ 100000) (hw : Cond.classLink own index C ∈ gT) (hAO : va_AO C s) (ht : (gtys cA)[t0]? = some (cA (kd + 5), .object C)) (hlay : glay (sz : Int) = (kd + 5, N)) (hcells : cells + 1 ≤ R.cells) (hslots : slots + N ≤ R.slots) (hd : decode cc pc = .ok (.anewarray index, 3)) (hn : pc + 3 = n) (kk : G p l e R s m args below meth c n0 D cA nL Q (cells + 1) (slots + N) (gnew M (sz : Int)) (sz + 1) n L (gA n0 (sz : Int) :: st)) : G p l e R s m args below meth c n0 D cA nL Q cells slots M sz pc L (gJ z :: st) := by
  subst hn; subst hz
  intro H locs ls hl hW hS
  have hts := X.2.2.2.2.1
  have hcl : (Int32.ofInt (N : Int)).toNatClampNeg = N := by have := gi_cl (i := (N : Int)) (by omega) (by omega); omega
  refine W.anew X.1 X.2.1 X.2.2.2.1 (hts _ hw) (va_AO.use hAO) rfl hd rfl (by rw [gi_0, gi_lt ⟨by omega, by omega⟩ ⟨by omega, by omega⟩]; omega) (by rw [hcl]; omega) hcells (by rw [hcl]; exact hslots) fun cA' kA comp f1 f2 f3 f4 => ?_
  rw [hcl]
  have hsz := hW.1
  have hcA : cA' = cA (kd + 5) := by
    obtain ⟨kA', comp', g1, g2, g3, g4⟩ := (X.2.2.2.2.2.2.1.1.2 t0 _ ht).2
    exact Option.some.inj (f1.symm.trans g4)
  subst hcA
  generalize hH1 : H.push ({ cls := cA (kd + 5), slots := Array.replicate N .null, vm := .none } : Cell) = H1
  have z1 : H1.size = H.size + 1 := by rw [← hH1, Array.size_push]
  have e1 : H1[H.size]? = some (arrV (cA (kd + 5)) N (fun _ => .null)) := by rw [← hH1, Array.getElem?_push_size, ← arrV_new]
  have o1 : ∀ q : Nat, q < H.size → H1[q]? = H[q]? := fun q hq => by rw [← hH1, Array.getElem?_push, if_neg (Nat.ne_of_lt hq)]
  have hS2 : va_S (fun q => n0 ≤ q) s.heap H1 locs := ⟨by have := hS.1; omega, fun x h1 h2 => (o1 x (by have := hS.1; omega)).trans (hS.2.1 x h1 h2), hS.2.2⟩
  rw [show (Value.ref H.size) = gA n0 (sz : Int) by rw [hsz]; rfl]
  refine kk H1 locs ls hl (gws_new H H1 (gnew M (sz : Int)) (.inl (cA (kd + 5), N, .inr (.inr (.inr (.inr (fun _ => none)))))) hW.2 hW.1 z1 o1 (by rw [hlay, gnew_on]; rfl) gnew_off ?_) hS2
  rw [← hsz]
  exact e1
/-! the ends -/
theorem g_ireturn (X : gCx p s m args meth c n0 D cA own cc nL) {Po : Int → gM → Prop} {z : Int} (hr : meth.sig.returnType = some .int) (hd : decode cc pc = .ok (.ireturn, 1)) (hP : Po z M) : G p l e R s m args below meth c n0 D cA nL (MQ below (gQi n0 D cA sz Po) args s cells slots (fun q => n0 ≤ q)) cells slots M sz pc L [gJ z] :=
  fun H locs ls hl hW hS => W.iret X.1 X.2.1 hr (fun t ht hWm => ⟨⟨_, (z, M), rfl, ⟨rfl, hP⟩, by show gWd n0 D cA M sz t.heap; rw [ht]; exact hW⟩, hS.F ht⟩) hS.2.2 hd X.2.2.2.2.2.1
theorem g_zreturn (X : gCx p s m args meth c n0 D cA own cc nL) {Po : Int → gM → Prop} {z : Int} (hz : z = 0 ∨ z = 1) (hr : meth.sig.returnType = some .boolean) (hd : decode cc pc = .ok (.ireturn, 1)) (hP : Po z M) : G p l e R s m args below meth c n0 D cA nL (MQ below (gQi n0 D cA sz Po) args s cells slots (fun q => n0 ≤ q)) cells slots M sz pc L [gJ z] :=
  fun H locs ls hl hW hS => W.zret X.1 X.2.1 hr (by rcases hz with rfl | rfl <;> decide +kernel) (fun t ht hWm => ⟨⟨_, (z, M), rfl, ⟨rfl, hP⟩, by show gWd n0 D cA M sz t.heap; rw [ht]; exact hW⟩, hS.F ht⟩) hS.2.2 hd X.2.2.2.2.2.1
theorem g_lreturn (X : gCx p s m args meth c n0 D cA own cc nL) {Po : Int → gM → Prop} {z : Int} (hr : meth.sig.returnType = some .long) (hd : decode cc pc = .ok (.lreturn, 1)) (hP : Po z M) : G p l e R s m args below meth c n0 D cA nL (MQ below (gQl n0 D cA sz Po) args s cells slots (fun q => n0 ≤ q)) cells slots M sz pc L [gV z] :=
  fun H locs ls hl hW hS => W.lret X.1 X.2.1 hr (fun t ht hWm => ⟨⟨_, (z, M), rfl, ⟨rfl, hP⟩, by show gWd n0 D cA M sz t.heap; rw [ht]; exact hW⟩, hS.F ht⟩) hS.2.2 hd X.2.2.2.2.2.1
theorem g_return (X : gCx p s m args meth c n0 D cA own cc nL) {Po : gM → Prop} (hr : meth.sig.returnType = none) (hd : decode cc pc = .ok (.return_, 1)) (hP : Po M) : G p l e R s m args below meth c n0 D cA nL (MQ below (gQv n0 D cA sz Po) args s cells slots (fun q => n0 ≤ q)) cells slots M sz pc L [] :=
  fun H locs ls hl hW hS => W.vret X.1 X.2.1 hr (fun t ht hWm => ⟨⟨M, rfl, hP, by show gWd n0 D cA M sz t.heap; rw [ht]; exact hW⟩, hS.F ht⟩) hS.2.2 hd X.2.2.2.2.2.1
/-! a method's walk gives its contract -/
theorem gMet_of {y : MethodName} {bytes : ByteArray} {maxL : Nat} {ret : Option FieldType} {rm : Room} {Qc : Array Value → State → Outcome → State → Prop} {mc ms : Nat} (av : List Value) (hy : plainName y.cls = true) (hav : (lg_sl av).length ≤ maxL)
    (body : ∀ p e s m args below meth c, gCx p s m args meth c n0 D cA y.cls bytes maxL → meth.sig.returnType = ret → meth.name = y.name → G p l e rm s m args below meth c n0 D cA maxL (MQ below Qc args s mc ms (fun q => n0 ≤ q)) 0 0 M sz 0 (lv_args 0 av) []) : Met l y (gWsOf y bytes maxL ret) rm (gPc n0 D cA av M sz) Qc mc ms (fun q => n0 ≤ q) := by
  refine Met.ofW (cc := bytes) (maxL := maxL) (ret := ret) hy rfl ?_
  intro p e s m args below meth c s₁ B hml hv
  obtain ⟨rfl, hW, hK, hO⟩ := hv
  have hts := atoms_spec (ws := gWsOf y bytes maxL ret) B.pre
  rw [lg_entry_eq]
  exact body p e s m _ below meth c ⟨B.exec, B.bytes, hml, findClass_of_methodNamed B.named, fun w hw => hts w (List.mem_cons_of_mem _ hw), B.notSynchronized, hK, hO⟩ B.returns (name_of_methodNamed B.named B.method).1 s.heap [] _ (lv_entry av hav) hW va_S.rf
/-! calls -/
theorem gPre (X : gCx p s m args meth c n0 D cA own cc nL) {H : Heap} {locs : List Loc} {As : List Value} (hW : gWd n0 D cA M sz H) (hS : va_S (fun q => n0 ≤ q) s.heap H locs) : PreS s H (gPc n0 D cA As M sz) As :=
  ⟨gPc_blind, fun U hU hWm => ⟨rfl, by rw [hU]; exact hW, gK.warm hWm X.2.2.2.2.2.2.1, by rw [hU]; exact gOld.moved hWm.alike (gOld.kept X.2.2.2.2.2.2.2 hS.1 hS.2.1)⟩⟩
theorem gPreV (X : gCx p s m args meth c n0 D cA own cc nL) {H : Heap} {locs : List Loc} {As : List Value} {C : String} {T : u_T} {N ci : Nat} {o : Int} (hc : vwCl[ci]? = some (C, T, N)) (h0 : 0 ≤ o) (h1 : o < (sz : Int)) (hlay : glay o = (0, ci)) (hW : gWd n0 D cA M sz H) (hS : va_S (fun q => n0 ≤ q) s.heap H locs) : PreV s H C (n0 + o.toNat) (gPc n0 D cA (gA n0 o :: As) M sz) As :=
  ⟨gPc_blind, va_recv X.2.2.2.2.2.2.1.1 hW.2 hc (g_he0 h0 h1 hlay), (gPre X hW hS).2⟩
abbrev gQok (y : MethodName) (bytes : ByteArray) (maxL : Nat) (ret : Option FieldType) (k : Nat) : Prop := Cond.code y bytes maxL ret ∈ gT ∧ Cond.initialized y.cls ∈ gT ∧ y.cls ≠ "java/lang/invoke/MethodHandle" ∧ y.cls ≠ "java/lang/invoke/VarHandle" ∧ (parseMethodDescriptor y.desc).map (fun d => d.parameters.length) = some k
theorem gCallB (X : gCx p s m args meth c n0 D cA own cc nL) {y : MethodName} {bytes : ByteArray} {maxL index k mc ms : Nat} {ret : Option FieldType} {rm : Room} (hy : gQok y bytes maxL ret k) (hl : Cond.methodLink own index y ∈ gT) (hrm : rm.cells = mc ∧ rm.slots = ms) (hR : rm.frames + 1 ≤ R.frames ∧ 8 + (maxL + 11) + rm.locals ≤ R.locals) : CallB R s args own index y bytes maxL ret (gWsOf y bytes maxL ret) rm mc ms k :=
  callB_of k X.2.2.2.2.1 (gT_ok hy.1) rfl hrm.1 hrm.2 (X.2.2.2.2.1 _ hy.2.1) (X.2.2.2.2.1 _ hl) hy.2.2 hR
theorem gCallN (X : gCx p s m args meth c n0 D cA own cc nL) {y : MethodName} {bytes : ByteArray} {maxL index k mc ms : Nat} {ret : Option FieldType} {rm : Room} {host : String} (hy : gQok y bytes maxL ret k) (hl : (own, index, y, host) ∈ gNestM) (hrm : rm.cells = mc ∧ rm.slots = ms) (hR : rm.frames + 1 ≤ R.frames ∧ 8 + (maxL + 11) + rm.locals ≤ R.locals) : va_CN R s args own index y host bytes maxL ret (gWsOf y bytes maxL ret) rm mc ms k :=
  va_cnB k X.2.2.2.2.1 (gT_ok hy.1) rfl hrm.1 hrm.2 (X.2.2.2.2.2.2.1.2.1 _ hl) (X.2.2.2.2.1 _ hy.2.1) hy.2.2 hR
theorem gFix (X : gCx p s m args meth c n0 D cA own cc nL) : CallFix p m c cc nL s args gT own := ⟨X.1, X.2.1, X.2.2.1, X.2.2.2.1, X.2.2.2.2.1⟩
/-- what a run of a call gives: the answer and the new memory -/
theorem gAfter_i {As rest : List Value} {sz1 mc ms : Nat} {Po : Int → gM → Prop} {a : Array Value} {ls : Array Slot} {H : Heap} {locs : List Loc} {st0 : List Value} (hn : pc + 3 = n) (hl : lv_has ls nL L) (hS : va_S (fun q => n0 ≤ q) s.heap H locs) (hr : va_Run p l e R s m args below meth c H locs cells slots mc ms (F0 m pc ls st0) rest (gQi n0 D cA sz1 Po a) (fun q => n0 ≤ q)) (kk : ∀ (z : Int) (M1 : gM), Po z M1 → G p l e R s m args below meth c n0 D cA nL Q (cells + mc) (slots + ms) M1 sz1 n L (gJ z :: rest)) : W p l e R s m args below meth c H locs cells slots Q (F0 m pc ls st0) := by
  subst hn
  refine va_calli hr hS (fun q _ h => h) (fun q h => h) (fun r u t H1 locs1 ht hvm hw hB hz1 hk1 hS1 => ?_)
  obtain ⟨z, M1⟩ := u
  obtain ⟨rfl, hP⟩ := hw
  exact kk z M1 hP H1 locs1 ls hl (by rw [← ht]; exact hB) hS1
theorem gAfter_l {As rest : List Value} {sz1 mc ms : Nat} {Po : Int → gM → Prop} {a : Array Value} {ls : Array Slot} {H : Heap} {locs : List Loc} {st0 : List Value} (hn : pc + 3 = n) (hl : lv_has ls nL L) (hS : va_S (fun q => n0 ≤ q) s.heap H locs) (hr : va_Run p l e R s m args below meth c H locs cells slots mc ms (F0 m pc ls st0) rest (gQl n0 D cA sz1 Po a) (fun q => n0 ≤ q)) (kk : ∀ (z : Int) (M1 : gM), Po z M1 → G p l e R s m args below meth c n0 D cA nL Q (cells + mc) (slots + ms) M1 sz1 n L (gV z :: rest)) : W p l e R s m args below meth c H locs cells slots Q (F0 m pc ls st0) := by
  subst hn
  refine va_calll hr hS (fun q _ h => h) (fun q h => h) (fun r u t H1 locs1 ht hvm hw hB hz1 hk1 hS1 => ?_)
  obtain ⟨z, M1⟩ := u
  obtain ⟨rfl, hP⟩ := hw
  exact kk z M1 hP H1 locs1 ls hl (by rw [← ht]; exact hB) hS1
theorem gAfter_v {As rest : List Value} {sz1 mc ms : Nat} {Po : gM → Prop} {a : Array Value} {ls : Array Slot} {H : Heap} {locs : List Loc} {st0 : List Value} (hn : pc + 3 = n) (hl : lv_has ls nL L) (hS : va_S (fun q => n0 ≤ q) s.heap H locs) (hr : va_Run p l e R s m args below meth c H locs cells slots mc ms (F0 m pc ls st0) rest (gQv n0 D cA sz1 Po a) (fun q => n0 ≤ q)) (kk : ∀ (M1 : gM), Po M1 → G p l e R s m args below meth c n0 D cA nL Q (cells + mc) (slots + ms) M1 sz1 n L rest) : W p l e R s m args below meth c H locs cells slots Q (F0 m pc ls st0) := by
  subst hn
  refine va_callv hr hS (fun q _ h => h) (fun q h => h) (fun u t H1 locs1 ht hvm hw hB hz1 hk1 hS1 => ?_)
  exact kk u hw H1 locs1 ls hl (by rw [← ht]; exact hB) hS1
theorem g_callVi (X : gCx p s m args meth c n0 D cA own cc nL) {y : MethodName} {bytes : ByteArray} {maxL index k mc ms sz1 cs1 ss1 : Nat} {ret : Option FieldType} {rm : Room} {C : String} {T : u_T} {N ci : Nat} {o : Int} {As rest st0 : List Value} {Po : Int → gM → Prop} (hM : Met l y (gWsOf y bytes maxL ret) rm (gPc n0 D cA (gA n0 o :: As) M sz) (gQi n0 D cA sz1 Po) mc ms (fun q => n0 ≤ q)) (hy : gQok y bytes maxL ret k) (hl : Cond.methodLink own index y ∈ gT) (hw : Cond.instanceMethod y ∈ gT ∧ Cond.selects C y y ∈ gT) (hrm : rm.cells = mc ∧ rm.slots = ms) (hR : rm.frames + 1 ≤ R.frames ∧ 8 + (maxL + 11) + rm.locals ≤ R.locals) (hc : vwCl[ci]? = some (C, T, N)) (h0 : 0 ≤ o) (h1 : o < (sz : Int)) (hlay : glay o = (0, ci)) (hk : As.length = k) (hst : st0 = As.reverse ++ (gA n0 o :: rest)) (hcat : (rest.map fun v => v.category).sum ≤ 8) (hroom : cells + mc ≤ R.cells ∧ slots + ms ≤ R.slots) (hcc : cells + mc = cs1) (hss : slots + ms = ss1) (hd : decode cc pc = .ok (.invokevirtual index, 3)) (hn : pc + 3 = n) (kk : ∀ (z : Int) (M1 : gM), Po z M1 → G p l e R s m args below meth c n0 D cA nL Q cs1 ss1 M1 sz1 n L (gJ z :: rest)) : G p l e R s m args below meth c n0 D cA nL Q cells slots M sz pc L st0 := by
  subst hcc; subst hss
  intro H locs ls hl' hW hS
  exact gAfter_i (As := As) hn hl' hS (va_runV (As := As) (rest := rest) (gFix X) hM ⟨gCallB X hy hl hrm hR, X.2.2.2.2.1 _ hw.1, X.2.2.2.2.1 _ hw.2⟩ (gPreV X hc h0 h1 hlay hW hS) rfl hk hl'.1 hst (lv_room hcat) hd hroom) kk
theorem g_callVl (X : gCx p s m args meth c n0 D cA own cc nL) {y : MethodName} {bytes : ByteArray} {maxL index k mc ms sz1 cs1 ss1 : Nat} {ret : Option FieldType} {rm : Room} {C : String} {T : u_T} {N ci : Nat} {o : Int} {As rest st0 : List Value} {Po : Int → gM → Prop} (hM : Met l y (gWsOf y bytes maxL ret) rm (gPc n0 D cA (gA n0 o :: As) M sz) (gQl n0 D cA sz1 Po) mc ms (fun q => n0 ≤ q)) (hy : gQok y bytes maxL ret k) (hl : Cond.methodLink own index y ∈ gT) (hw : Cond.instanceMethod y ∈ gT ∧ Cond.selects C y y ∈ gT) (hrm : rm.cells = mc ∧ rm.slots = ms) (hR : rm.frames + 1 ≤ R.frames ∧ 8 + (maxL + 11) + rm.locals ≤ R.locals) (hc : vwCl[ci]? = some (C, T, N)) (h0 : 0 ≤ o) (h1 : o < (sz : Int)) (hlay : glay o = (0, ci)) (hk : As.length = k) (hst : st0 = As.reverse ++ (gA n0 o :: rest)) (hcat : (rest.map fun v => v.category).sum ≤ 8) (hroom : cells + mc ≤ R.cells ∧ slots + ms ≤ R.slots) (hcc : cells + mc = cs1) (hss : slots + ms = ss1) (hd : decode cc pc = .ok (.invokevirtual index, 3)) (hn : pc + 3 = n) (kk : ∀ (z : Int) (M1 : gM), Po z M1 → G p l e R s m args below meth c n0 D cA nL Q cs1 ss1 M1 sz1 n L (gV z :: rest)) : G p l e R s m args below meth c n0 D cA nL Q cells slots M sz pc L st0 := by
  subst hcc; subst hss
  intro H locs ls hl' hW hS
  exact gAfter_l (As := As) hn hl' hS (va_runV (As := As) (rest := rest) (gFix X) hM ⟨gCallB X hy hl hrm hR, X.2.2.2.2.1 _ hw.1, X.2.2.2.2.1 _ hw.2⟩ (gPreV X hc h0 h1 hlay hW hS) rfl hk hl'.1 hst (lv_room hcat) hd hroom) kk
theorem g_callVv (X : gCx p s m args meth c n0 D cA own cc nL) {y : MethodName} {bytes : ByteArray} {maxL index k mc ms sz1 cs1 ss1 : Nat} {ret : Option FieldType} {rm : Room} {C : String} {T : u_T} {N ci : Nat} {o : Int} {As rest st0 : List Value} {Po : gM → Prop} (hM : Met l y (gWsOf y bytes maxL ret) rm (gPc n0 D cA (gA n0 o :: As) M sz) (gQv n0 D cA sz1 Po) mc ms (fun q => n0 ≤ q)) (hy : gQok y bytes maxL ret k) (hl : Cond.methodLink own index y ∈ gT) (hw : Cond.instanceMethod y ∈ gT ∧ Cond.selects C y y ∈ gT) (hrm : rm.cells = mc ∧ rm.slots = ms) (hR : rm.frames + 1 ≤ R.frames ∧ 8 + (maxL + 11) + rm.locals ≤ R.locals) (hc : vwCl[ci]? = some (C, T, N)) (h0 : 0 ≤ o) (h1 : o < (sz : Int)) (hlay : glay o = (0, ci)) (hk : As.length = k) (hst : st0 = As.reverse ++ (gA n0 o :: rest)) (hcat : (rest.map fun v => v.category).sum ≤ 8) (hroom : cells + mc ≤ R.cells ∧ slots + ms ≤ R.slots) (hcc : cells + mc = cs1) (hss : slots + ms = ss1) (hd : decode cc pc = .ok (.invokevirtual index, 3)) (hn : pc + 3 = n) (kk : ∀ (M1 : gM), Po M1 → G p l e R s m args below meth c n0 D cA nL Q cs1 ss1 M1 sz1 n L rest) : G p l e R s m args below meth c n0 D cA nL Q cells slots M sz pc L st0 := by
  subst hcc; subst hss
  intro H locs ls hl' hW hS
  exact gAfter_v (As := As) hn hl' hS (va_runV (As := As) (rest := rest) (gFix X) hM ⟨gCallB X hy hl hrm hR, X.2.2.2.2.1 _ hw.1, X.2.2.2.2.1 _ hw.2⟩ (gPreV X hc h0 h1 hlay hW hS) rfl hk hl'.1 hst (lv_room hcat) hd hroom) kk
theorem g_callVNi (X : gCx p s m args meth c n0 D cA own cc nL) {y : MethodName} {bytes : ByteArray} {maxL index k mc ms sz1 cs1 ss1 : Nat} {ret : Option FieldType} {rm : Room} {host : String} {C : String} {T : u_T} {N ci : Nat} {o : Int} {As rest st0 : List Value} {Po : Int → gM → Prop} (hM : Met l y (gWsOf y bytes maxL ret) rm (gPc n0 D cA (gA n0 o :: As) M sz) (gQi n0 D cA sz1 Po) mc ms (fun q => n0 ≤ q)) (hy : gQok y bytes maxL ret k) (hl : (own, index, y, host) ∈ gNestM) (hw : Cond.instanceMethod y ∈ gT ∧ Cond.selects C y y ∈ gT) (hrm : rm.cells = mc ∧ rm.slots = ms) (hR : rm.frames + 1 ≤ R.frames ∧ 8 + (maxL + 11) + rm.locals ≤ R.locals) (hc : vwCl[ci]? = some (C, T, N)) (h0 : 0 ≤ o) (h1 : o < (sz : Int)) (hlay : glay o = (0, ci)) (hk : As.length = k) (hst : st0 = As.reverse ++ (gA n0 o :: rest)) (hcat : (rest.map fun v => v.category).sum ≤ 8) (hroom : cells + mc ≤ R.cells ∧ slots + ms ≤ R.slots) (hcc : cells + mc = cs1) (hss : slots + ms = ss1) (hd : decode cc pc = .ok (.invokevirtual index, 3)) (hn : pc + 3 = n) (kk : ∀ (z : Int) (M1 : gM), Po z M1 → G p l e R s m args below meth c n0 D cA nL Q cs1 ss1 M1 sz1 n L (gJ z :: rest)) : G p l e R s m args below meth c n0 D cA nL Q cells slots M sz pc L st0 := by
  subst hcc; subst hss
  intro H locs ls hl' hW hS
  exact gAfter_i (As := As) hn hl' hS (va_runVN (As := As) (rest := rest) (gFix X) hM ⟨gCallN X hy hl hrm hR, X.2.2.2.2.1 _ hw.1, X.2.2.2.2.1 _ hw.2⟩ (gPreV X hc h0 h1 hlay hW hS) rfl hk hl'.1 hst (lv_room hcat) hd hroom) kk
theorem g_callVNv (X : gCx p s m args meth c n0 D cA own cc nL) {y : MethodName} {bytes : ByteArray} {maxL index k mc ms sz1 cs1 ss1 : Nat} {ret : Option FieldType} {rm : Room} {host : String} {C : String} {T : u_T} {N ci : Nat} {o : Int} {As rest st0 : List Value} {Po : gM → Prop} (hM : Met l y (gWsOf y bytes maxL ret) rm (gPc n0 D cA (gA n0 o :: As) M sz) (gQv n0 D cA sz1 Po) mc ms (fun q => n0 ≤ q)) (hy : gQok y bytes maxL ret k) (hl : (own, index, y, host) ∈ gNestM) (hw : Cond.instanceMethod y ∈ gT ∧ Cond.selects C y y ∈ gT) (hrm : rm.cells = mc ∧ rm.slots = ms) (hR : rm.frames + 1 ≤ R.frames ∧ 8 + (maxL + 11) + rm.locals ≤ R.locals) (hc : vwCl[ci]? = some (C, T, N)) (h0 : 0 ≤ o) (h1 : o < (sz : Int)) (hlay : glay o = (0, ci)) (hk : As.length = k) (hst : st0 = As.reverse ++ (gA n0 o :: rest)) (hcat : (rest.map fun v => v.category).sum ≤ 8) (hroom : cells + mc ≤ R.cells ∧ slots + ms ≤ R.slots) (hcc : cells + mc = cs1) (hss : slots + ms = ss1) (hd : decode cc pc = .ok (.invokevirtual index, 3)) (hn : pc + 3 = n) (kk : ∀ (M1 : gM), Po M1 → G p l e R s m args below meth c n0 D cA nL Q cs1 ss1 M1 sz1 n L rest) : G p l e R s m args below meth c n0 D cA nL Q cells slots M sz pc L st0 := by
  subst hcc; subst hss
  intro H locs ls hl' hW hS
  exact gAfter_v (As := As) hn hl' hS (va_runVN (As := As) (rest := rest) (gFix X) hM ⟨gCallN X hy hl hrm hR, X.2.2.2.2.1 _ hw.1, X.2.2.2.2.1 _ hw.2⟩ (gPreV X hc h0 h1 hlay hW hS) rfl hk hl'.1 hst (lv_room hcat) hd hroom) kk
theorem g_callSi (X : gCx p s m args meth c n0 D cA own cc nL) {y : MethodName} {bytes : ByteArray} {maxL index k mc ms sz1 cs1 ss1 : Nat} {ret : Option FieldType} {rm : Room} {As rest st0 : List Value} {Po : Int → gM → Prop} (hM : Met l y (gWsOf y bytes maxL ret) rm (gPc n0 D cA As M sz) (gQi n0 D cA sz1 Po) mc ms (fun q => n0 ≤ q)) (hy : gQok y bytes maxL ret k) (hl : Cond.methodLink own index y ∈ gT) (hw : Cond.static y ∈ gT) (hrm : rm.cells = mc ∧ rm.slots = ms) (hR : rm.frames + 1 ≤ R.frames ∧ 8 + (maxL + 11) + rm.locals ≤ R.locals) (hk : As.length = k) (hst : st0 = As.reverse ++ rest) (hcat : (rest.map fun v => v.category).sum ≤ 8) (hroom : cells + mc ≤ R.cells ∧ slots + ms ≤ R.slots) (hcc : cells + mc = cs1) (hss : slots + ms = ss1) (hd : decode cc pc = .ok (.invokestatic index, 3)) (hn : pc + 3 = n) (kk : ∀ (z : Int) (M1 : gM), Po z M1 → G p l e R s m args below meth c n0 D cA nL Q cs1 ss1 M1 sz1 n L (gJ z :: rest)) : G p l e R s m args below meth c n0 D cA nL Q cells slots M sz pc L st0 := by
  subst hcc; subst hss
  intro H locs ls hl' hW hS
  exact gAfter_i (As := As) hn hl' hS (va_runS (As := As) (rest := rest) (gFix X) hM ⟨gCallB X hy hl hrm hR, X.2.2.2.2.1 _ hw⟩ (gPre X hW hS) rfl hk hl'.1 hst (lv_room hcat) hd hroom) kk
theorem g_callSl (X : gCx p s m args meth c n0 D cA own cc nL) {y : MethodName} {bytes : ByteArray} {maxL index k mc ms sz1 cs1 ss1 : Nat} {ret : Option FieldType} {rm : Room} {As rest st0 : List Value} {Po : Int → gM → Prop} (hM : Met l y (gWsOf y bytes maxL ret) rm (gPc n0 D cA As M sz) (gQl n0 D cA sz1 Po) mc ms (fun q => n0 ≤ q)) (hy : gQok y bytes maxL ret k) (hl : Cond.methodLink own index y ∈ gT) (hw : Cond.static y ∈ gT) (hrm : rm.cells = mc ∧ rm.slots = ms) (hR : rm.frames + 1 ≤ R.frames ∧ 8 + (maxL + 11) + rm.locals ≤ R.locals) (hk : As.length = k) (hst : st0 = As.reverse ++ rest) (hcat : (rest.map fun v => v.category).sum ≤ 8) (hroom : cells + mc ≤ R.cells ∧ slots + ms ≤ R.slots) (hcc : cells + mc = cs1) (hss : slots + ms = ss1) (hd : decode cc pc = .ok (.invokestatic index, 3)) (hn : pc + 3 = n) (kk : ∀ (z : Int) (M1 : gM), Po z M1 → G p l e R s m args below meth c n0 D cA nL Q cs1 ss1 M1 sz1 n L (gV z :: rest)) : G p l e R s m args below meth c n0 D cA nL Q cells slots M sz pc L st0 := by
  subst hcc; subst hss
  intro H locs ls hl' hW hS
  exact gAfter_l (As := As) hn hl' hS (va_runS (As := As) (rest := rest) (gFix X) hM ⟨gCallB X hy hl hrm hR, X.2.2.2.2.1 _ hw⟩ (gPre X hW hS) rfl hk hl'.1 hst (lv_room hcat) hd hroom) kk
theorem g_callSv (X : gCx p s m args meth c n0 D cA own cc nL) {y : MethodName} {bytes : ByteArray} {maxL index k mc ms sz1 cs1 ss1 : Nat} {ret : Option FieldType} {rm : Room} {As rest st0 : List Value} {Po : gM → Prop} (hM : Met l y (gWsOf y bytes maxL ret) rm (gPc n0 D cA As M sz) (gQv n0 D cA sz1 Po) mc ms (fun q => n0 ≤ q)) (hy : gQok y bytes maxL ret k) (hl : Cond.methodLink own index y ∈ gT) (hw : Cond.static y ∈ gT) (hrm : rm.cells = mc ∧ rm.slots = ms) (hR : rm.frames + 1 ≤ R.frames ∧ 8 + (maxL + 11) + rm.locals ≤ R.locals) (hk : As.length = k) (hst : st0 = As.reverse ++ rest) (hcat : (rest.map fun v => v.category).sum ≤ 8) (hroom : cells + mc ≤ R.cells ∧ slots + ms ≤ R.slots) (hcc : cells + mc = cs1) (hss : slots + ms = ss1) (hd : decode cc pc = .ok (.invokestatic index, 3)) (hn : pc + 3 = n) (kk : ∀ (M1 : gM), Po M1 → G p l e R s m args below meth c n0 D cA nL Q cs1 ss1 M1 sz1 n L rest) : G p l e R s m args below meth c n0 D cA nL Q cells slots M sz pc L st0 := by
  subst hcc; subst hss
  intro H locs ls hl' hW hS
  exact gAfter_v (As := As) hn hl' hS (va_runS (As := As) (rest := rest) (gFix X) hM ⟨gCallB X hy hl hrm hR, X.2.2.2.2.1 _ hw⟩ (gPre X hW hS) rfl hk hl'.1 hst (lv_room hcat) hd hroom) kk
theorem g_callSNi (X : gCx p s m args meth c n0 D cA own cc nL) {y : MethodName} {bytes : ByteArray} {maxL index k mc ms sz1 cs1 ss1 : Nat} {ret : Option FieldType} {rm : Room} {host : String} {As rest st0 : List Value} {Po : Int → gM → Prop} (hM : Met l y (gWsOf y bytes maxL ret) rm (gPc n0 D cA As M sz) (gQi n0 D cA sz1 Po) mc ms (fun q => n0 ≤ q)) (hy : gQok y bytes maxL ret k) (hl : (own, index, y, host) ∈ gNestM) (hw : Cond.static y ∈ gT) (hrm : rm.cells = mc ∧ rm.slots = ms) (hR : rm.frames + 1 ≤ R.frames ∧ 8 + (maxL + 11) + rm.locals ≤ R.locals) (hk : As.length = k) (hst : st0 = As.reverse ++ rest) (hcat : (rest.map fun v => v.category).sum ≤ 8) (hroom : cells + mc ≤ R.cells ∧ slots + ms ≤ R.slots) (hcc : cells + mc = cs1) (hss : slots + ms = ss1) (hd : decode cc pc = .ok (.invokestatic index, 3)) (hn : pc + 3 = n) (kk : ∀ (z : Int) (M1 : gM), Po z M1 → G p l e R s m args below meth c n0 D cA nL Q cs1 ss1 M1 sz1 n L (gJ z :: rest)) : G p l e R s m args below meth c n0 D cA nL Q cells slots M sz pc L st0 := by
  subst hcc; subst hss
  intro H locs ls hl' hW hS
  exact gAfter_i (As := As) hn hl' hS (va_runSN (As := As) (rest := rest) (gFix X) hM ⟨gCallN X hy hl hrm hR, X.2.2.2.2.1 _ hw, trivial⟩ (gPre X hW hS) rfl hk hl'.1 hst (lv_room hcat) hd hroom) kk
theorem g_callSNv (X : gCx p s m args meth c n0 D cA own cc nL) {y : MethodName} {bytes : ByteArray} {maxL index k mc ms sz1 cs1 ss1 : Nat} {ret : Option FieldType} {rm : Room} {host : String} {As rest st0 : List Value} {Po : gM → Prop} (hM : Met l y (gWsOf y bytes maxL ret) rm (gPc n0 D cA As M sz) (gQv n0 D cA sz1 Po) mc ms (fun q => n0 ≤ q)) (hy : gQok y bytes maxL ret k) (hl : (own, index, y, host) ∈ gNestM) (hw : Cond.static y ∈ gT) (hrm : rm.cells = mc ∧ rm.slots = ms) (hR : rm.frames + 1 ≤ R.frames ∧ 8 + (maxL + 11) + rm.locals ≤ R.locals) (hk : As.length = k) (hst : st0 = As.reverse ++ rest) (hcat : (rest.map fun v => v.category).sum ≤ 8) (hroom : cells + mc ≤ R.cells ∧ slots + ms ≤ R.slots) (hcc : cells + mc = cs1) (hss : slots + ms = ss1) (hd : decode cc pc = .ok (.invokestatic index, 3)) (hn : pc + 3 = n) (kk : ∀ (M1 : gM), Po M1 → G p l e R s m args below meth c n0 D cA nL Q cs1 ss1 M1 sz1 n L rest) : G p l e R s m args below meth c n0 D cA nL Q cells slots M sz pc L st0 := by
  subst hcc; subst hss
  intro H locs ls hl' hW hS
  exact gAfter_v (As := As) hn hl' hS (va_runSN (As := As) (rest := rest) (gFix X) hM ⟨gCallN X hy hl hrm hR, X.2.2.2.2.1 _ hw, trivial⟩ (gPre X hW hS) rfl hk hl'.1 hst (lv_room hcat) hd hroom) kk
theorem g_callIv (X : gCx p s m args meth c n0 D cA own cc nL) {y : MethodName} {bytes : ByteArray} {maxL index k mc ms sz1 cs1 ss1 : Nat} {rm : Room} {o : Int} {As rest st0 : List Value} {Po : gM → Prop} (hM : Met l y (gWsOf y bytes maxL none) rm (gPc n0 D cA (gA n0 o :: As) M sz) (gQv n0 D cA sz1 Po) mc ms (fun q => n0 ≤ q)) (hy : gQok y bytes maxL none k) (hl : Cond.methodLink own index y ∈ gT) (hw : Cond.instanceMethod y ∈ gT) (hyn : y.name = "<init>") (hrm : rm.cells = mc ∧ rm.slots = ms) (hR : rm.frames + 1 ≤ R.frames ∧ 8 + (maxL + 11) + rm.locals ≤ R.locals) (hk : As.length = k) (hst : st0 = As.reverse ++ (gA n0 o :: rest)) (hcat : (rest.map fun v => v.category).sum ≤ 8) (hroom : cells + mc ≤ R.cells ∧ slots + ms ≤ R.slots) (hcc : cells + mc = cs1) (hss : slots + ms = ss1) (hd : decode cc pc = .ok (.invokespecial index, 3)) (hn : pc + 3 = n) (kk : ∀ (M1 : gM), Po M1 → G p l e R s m args below meth c n0 D cA nL Q cs1 ss1 M1 sz1 n L rest) : G p l e R s m args below meth c n0 D cA nL Q cells slots M sz pc L st0 := by
  subst hcc; subst hss
  intro H locs ls hl' hW hS
  exact gAfter_v (As := As) hn hl' hS (va_runI (As := As) (rest := rest) (gFix X) hM ⟨gCallB X hy hl hrm hR, hyn, X.2.2.2.2.1 _ hw⟩ (gPre X hW hS) rfl hk hl'.1 hst (lv_room hcat) hd hroom) kk
theorem g_callINv (X : gCx p s m args meth c n0 D cA own cc nL) {y : MethodName} {bytes : ByteArray} {maxL index k mc ms sz1 cs1 ss1 : Nat} {rm : Room} {host : String} {o : Int} {As rest st0 : List Value} {Po : gM → Prop} (hM : Met l y (gWsOf y bytes maxL none) rm (gPc n0 D cA (gA n0 o :: As) M sz) (gQv n0 D cA sz1 Po) mc ms (fun q => n0 ≤ q)) (hy : gQok y bytes maxL none k) (hl : (own, index, y, host) ∈ gNestM) (hw : Cond.instanceMethod y ∈ gT) (hyn : y.name = "<init>") (hrm : rm.cells = mc ∧ rm.slots = ms) (hR : rm.frames + 1 ≤ R.frames ∧ 8 + (maxL + 11) + rm.locals ≤ R.locals) (hk : As.length = k) (hst : st0 = As.reverse ++ (gA n0 o :: rest)) (hcat : (rest.map fun v => v.category).sum ≤ 8) (hroom : cells + mc ≤ R.cells ∧ slots + ms ≤ R.slots) (hcc : cells + mc = cs1) (hss : slots + ms = ss1) (hd : decode cc pc = .ok (.invokespecial index, 3)) (hn : pc + 3 = n) (kk : ∀ (M1 : gM), Po M1 → G p l e R s m args below meth c n0 D cA nL Q cs1 ss1 M1 sz1 n L rest) : G p l e R s m args below meth c n0 D cA nL Q cells slots M sz pc L st0 := by
  subst hcc; subst hss
  intro H locs ls hl' hW hS
  exact gAfter_v (As := As) hn hl' hS (va_runIN (As := As) (rest := rest) (gFix X) hM ⟨gCallN X hy hl hrm hR, hyn, X.2.2.2.2.1 _ hw⟩ (gPre X hW hS) rfl hk hl'.1 hst (lv_room hcat) hd hroom) kk
/-! further rows -/
theorem G.nm (kk : ∀ M1 : gM, M1 = M → G p l e R s m args below meth c n0 D cA nL Q cells slots M1 sz pc L st) : G p l e R s m args below meth c n0 D cA nL Q cells slots M sz pc L st := kk M rfl
theorem g_objInit (X : gCx p s m args meth c n0 D cA own cc nL) {idx : Nat} {o : Int} {rest st0 : List Value} (hw1 : Cond.methodLink own idx Lib.objectInit ∈ gT) (hw2 : Cond.instanceMethod Lib.objectInit ∈ gT) (hw3 : Cond.code Lib.objectInit ⟨#[0xb1]⟩ 1 none ∈ gT) (hst : st0 = gA n0 o :: rest) (hd : decode cc pc = .ok (.invokespecial idx, 3)) (hframes : 1 ≤ R.frames) (hlocals : (rest.map fun v => v.category).sum + 12 ≤ R.locals) (hn : pc + 3 = n) (kk : G p l e R s m args below meth c n0 D cA nL Q cells slots M sz n L rest) : G p l e R s m args below meth c n0 D cA nL Q cells slots M sz pc L st0 := by
  subst hn; subst hst
  intro H locs ls hl hW hS
  have hts := X.2.2.2.2.1
  exact W.objInit X.1 X.2.1 X.2.2.2.1 (hts _ hw1) (hts _ hw2) (hts _ hw3) rfl (hl.1.trans X.2.2.1.symm) rfl hd hframes (by show 2 * 0 + _ + 12 ≤ _; omega) (kk H locs ls hl hW hS)
theorem g_mmin (X : gCx p s m args meth c n0 D cA own cc nL) {index : Nat} {a b : Int} (hw1 : Cond.methodLink own index Lib.Math.min.name ∈ gT) (hw2 : Cond.static Lib.Math.min.name ∈ gT) (hw3 : Cond.initialized "java/lang/Math" ∈ gT) (hw4 : Cond.code Lib.Math.min.name Lib.Math.min.code 2 (some .int) ∈ gT) (ha : -2147483648 ≤ a ∧ a ≤ 2147483647) (hb : -2147483648 ≤ b ∧ b ≤ 2147483647) (hframes : 1 ≤ R.frames) (hlocals : (st.map fun v => v.category).sum + 13 ≤ R.locals) (hc : cells ≤ R.cells) (hs : slots ≤ R.slots) (hd : decode cc pc = .ok (.invokestatic index, 3)) (hn : pc + 3 = n) (kk : ∀ x : Int, (a ≤ b → x = a) ∧ (b < a → x = b) → G p l e R s m args below meth c n0 D cA nL Q cells slots M sz n L (gJ x :: st)) : G p l e R s m args below meth c n0 D cA nL Q cells slots M sz pc L (gJ b :: gJ a :: st) := by
  subst hn
  intro H locs ls hl hW hS
  have hts := X.2.2.2.2.1
  refine va_mmin X.1 X.2.1 (X.2.2.1.trans hl.1.symm) X.2.2.2.1 (hts _ hw1) (hts _ hw2) (hts _ hw3) (hts _ hw4) hframes hlocals hc hs hd ?_
  by_cases h : b < a
  · rw [if_pos ((gi_lt hb ha).mpr h)]
    exact kk b ⟨fun q => by omega, fun _ => rfl⟩ H locs ls hl hW hS
  · rw [if_neg (fun q => h ((gi_lt hb ha).mp q))]
    exact kk a ⟨fun _ => rfl, fun q => by omega⟩ H locs ls hl hW hS
theorem g_mmax (X : gCx p s m args meth c n0 D cA own cc nL) {index : Nat} {a b : Int} (hw1 : Cond.methodLink own index Lib.Math.max.name ∈ gT) (hw2 : Cond.static Lib.Math.max.name ∈ gT) (hw3 : Cond.initialized "java/lang/Math" ∈ gT) (hw4 : Cond.code Lib.Math.max.name Lib.Math.max.code 2 (some .int) ∈ gT) (ha : -2147483648 ≤ a ∧ a ≤ 2147483647) (hb : -2147483648 ≤ b ∧ b ≤ 2147483647) (hframes : 1 ≤ R.frames) (hlocals : (st.map fun v => v.category).sum + 13 ≤ R.locals) (hc : cells ≤ R.cells) (hs : slots ≤ R.slots) (hd : decode cc pc = .ok (.invokestatic index, 3)) (hn : pc + 3 = n) (kk : ∀ x : Int, (a < b → x = b) ∧ (b ≤ a → x = a) → G p l e R s m args below meth c n0 D cA nL Q cells slots M sz n L (gJ x :: st)) : G p l e R s m args below meth c n0 D cA nL Q cells slots M sz pc L (gJ b :: gJ a :: st) := by
  subst hn
  intro H locs ls hl hW hS
  have hts := X.2.2.2.2.1
  refine va_mmax X.1 X.2.1 (X.2.2.1.trans hl.1.symm) X.2.2.2.1 (hts _ hw1) (hts _ hw2) (hts _ hw3) (hts _ hw4) hframes hlocals hc hs hd ?_
  by_cases h : a < b
  · rw [if_pos ((gi_lt ha hb).mpr h)]
    exact kk b ⟨fun _ => rfl, fun q => by omega⟩ H locs ls hl hW hS
  · rw [if_neg (fun q => h ((gi_lt ha hb).mp q))]
    exact kk a ⟨fun q => by omega, fun _ => rfl⟩ H locs ls hl hW hS
theorem g_lcmp (X : gCx p s m args meth c n0 D cA own cc nL) {a b : Int} (hd : decode cc pc = .ok (.lcmp, 1)) (ha : -9223372036854775808 ≤ a ∧ a ≤ 9223372036854775807) (hb : -9223372036854775808 ≤ b ∧ b ≤ 9223372036854775807) (hn : pc + 1 = n) (kk : ∀ z : Int, (b < a → z = 1) ∧ (a = b → z = 0) ∧ (a < b → z = -1) → G p l e R s m args below meth c n0 D cA nL Q cells slots M sz n L (gJ z :: st)) : G p l e R s m args below meth c n0 D cA nL Q cells slots M sz pc L (gV b :: gV a :: st) := by
  subst hn
  intro H locs ls hl hW hS
  refine W.lcmp X.1 X.2.1 hd ?_
  by_cases h1 : b < a
  · have h := (gl_lt hb ha).mpr h1
    rw [(show lg_cmp (Int64.ofInt a) (Int64.ofInt b) = 1 by simp [lg_cmp, h]).trans (by decide +kernel : (1 : Int32) = Int32.ofInt 1)]
    exact kk 1 ⟨fun _ => rfl, fun q => by omega, fun q => by omega⟩ H locs ls hl hW hS
  · by_cases h2 : a = b
    · subst h2
      rw [(show lg_cmp (Int64.ofInt a) (Int64.ofInt a) = 0 by simp [lg_cmp]).trans (by decide +kernel : (0 : Int32) = Int32.ofInt 0)]
      exact kk 0 ⟨fun q => by omega, fun _ => rfl, fun q => by omega⟩ H locs ls hl hW hS
    · have h3 : ¬ Int64.ofInt b < Int64.ofInt a := fun q => h1 ((gl_lt hb ha).mp q)
      have h4 : ¬ Int64.ofInt a = Int64.ofInt b := fun q => h2 ((gl_eq ha hb).mp q)
      rw [(show lg_cmp (Int64.ofInt a) (Int64.ofInt b) = -1 by simp [lg_cmp, h3, h4]).trans (by decide +kernel : (-1 : Int32) = Int32.ofInt (-1))]
      exact kk (-1) ⟨fun q => by omega, fun q => by omega, fun q => rfl⟩ H locs ls hl hW hS
theorem g_getsWA (X : gCx p s m args meth c n0 D cA own cc nL) {index : Nat} {ref host : String} (hl : (own, index, ref, "WITHOUT_ACTS", "[I", host) ∈ gNestF) (href : ref = "ParishUnion") (hd : decode cc pc = .ok (.getstatic index, 3)) (hn : pc + 3 = n) (kk : ∀ b : Nat, va_T .int b 10 (fun j => .int (gWA j)) (fun q => n0 ≤ q) s s.heap → G p l e R s m args below meth c n0 D cA nL Q cells slots M sz n L (.ref b :: st)) : G p l e R s m args below meth c n0 D cA nL Q cells slots M sz pc L st := by
  subst hn; subst href
  intro H locs ls hl' hW hS
  obtain ⟨k0, b1, b2, k3, k4, k5, k6⟩ := X.2.2.2.2.2.2.2.1
  exact va_getsN X.1 X.2.1 k5 hS X.2.2.2.1 (va_Nw.use rfl (X.2.2.2.2.2.2.1.2.2.1 _ hl)) (fun x hx => hx) hd (kk b2 k6 H locs ls hl' hW hS)
theorem g_getsKA (X : gCx p s m args meth c n0 D cA own cc nL) {index : Nat} {ref host : String} (hl : (own, index, ref, "KIND_ABOVE", "[I", host) ∈ gNestF) (href : ref = "ParishUnion") (hd : decode cc pc = .ok (.getstatic index, 3)) (hn : pc + 3 = n) (kk : ∀ b : Nat, va_T .int b 5 (fun j => .int (gKA j)) (fun q => n0 ≤ q) s s.heap → G p l e R s m args below meth c n0 D cA nL Q cells slots M sz n L (.ref b :: st)) : G p l e R s m args below meth c n0 D cA nL Q cells slots M sz pc L st := by
  subst hn; subst href
  intro H locs ls hl' hW hS
  obtain ⟨k0, b1, b2, k3, k4, k5, k6⟩ := X.2.2.2.2.2.2.2.1
  exact va_getsN X.1 X.2.1 k3 hS X.2.2.2.1 (va_Nw.use rfl (X.2.2.2.2.2.2.1.2.2.1 _ hl)) (fun x hx => hx) hd (kk b1 k4 H locs ls hl' hW hS)
theorem g_oldld (X : gCx p s m args meth c n0 D cA own cc nL) {b N : Nat} {f : Nat → Int32} {i z : Int} (hT : va_T .int b N (fun j => .int (f j)) (fun q => n0 ≤ q) s s.heap) (hi0 : 0 ≤ i) (hi1 : i < (N : Int)) (hN : (N : Int) ≤ 2147483647) (hd : decode cc pc = .ok (.iaload, 1)) (hn : pc + 1 = n) (hv : f i.toNat = Int32.ofInt z) (kk : G p l e R s m args below meth c n0 D cA nL Q cells slots M sz n L (gJ z :: st)) : G p l e R s m args below meth c n0 D cA nL Q cells slots M sz pc L (gJ i :: .ref b :: st) := by
  subst hn
  intro H locs ls hl hW hS
  obtain ⟨cell, g1, g2, g3, g4, g5, g6, g7⟩ := hT
  have hcl := gi_cl hi0 (by omega : i ≤ 2147483647)
  have hjn : (Int32.ofInt i).toNatClampNeg = i.toNat := by omega
  refine W.iald (v := .int (Int32.ofInt z)) X.1 X.2.1 (by rw [hS.2.1 _ (Array.getElem?_eq_some_iff.mp g1).1 g7]; exact g1) g2 g3 (fun qq => ?_) (by rw [hjn, g6 _ (by omega)]; exact congrArg (fun x => some (Value.int x)) hv) rfl rfl hd (kk H locs ls hl hW hS)
  rcases qq with qq | qq
  · rw [gi_0, gi_lt ⟨by omega, by omega⟩ ⟨by omega, by omega⟩] at qq
    omega
  · omega
theorem g_scrld (X : gCx p s m args meth c n0 D cA own cc nL) {b N : Nat} {f : Nat → Int32} {i z : Int} (hb : b < n0 ∧ va_X b N f s s.heap) (hi0 : 0 ≤ i) (hi1 : i < (N : Int)) (hN : (N : Int) ≤ 2147483647) (hd : decode cc pc = .ok (.iaload, 1)) (hn : pc + 1 = n) (hv : f i.toNat = Int32.ofInt z) (kk : G p l e R s m args below meth c n0 D cA nL Q cells slots M sz n L (gJ z :: st)) : G p l e R s m args below meth c n0 D cA nL Q cells slots M sz pc L (gJ i :: .ref b :: st) := by
  subst hn
  intro H locs ls hl hW hS
  have hbl : b < s.heap.size := Nat.lt_of_lt_of_le hb.1 X.2.2.2.2.2.2.2.1.1
  refine va_sld X.1 X.2.1 hb.2 hbl (fun q => absurd q (by have := hb.1; omega)) hS (gi_in hi0 hi1 hN) hd ?_
  have hcl := gi_cl hi0 (by omega : i ≤ 2147483647)
  rw [show (Int32.ofInt i).toNatClampNeg = i.toNat by omega, hv]
  exact kk H locs ls hl hW hS
theorem g_scrlen (X : gCx p s m args meth c n0 D cA own cc nL) {b N : Nat} {f : Nat → Int32} {z : Int} (hb : b < n0 ∧ va_X b N f s s.heap) (hv : Int32.ofNat N = Int32.ofInt z) (hd : decode cc pc = .ok (.arraylength, 1)) (hn : pc + 1 = n) (kk : G p l e R s m args below meth c n0 D cA nL Q cells slots M sz n L (gJ z :: st)) : G p l e R s m args below meth c n0 D cA nL Q cells slots M sz pc L (.ref b :: st) := by
  subst hn
  intro H locs ls hl hW hS
  have hbl : b < s.heap.size := Nat.lt_of_lt_of_le hb.1 X.2.2.2.2.2.2.2.1.1
  refine va_slen X.1 X.2.1 hb.2 hbl (fun q => absurd q (by have := hb.1; omega)) hS hd ?_
  rw [hv]
  exact kk H locs ls hl hW hS
/-! System.arraycopy between arrays of numbers, from place 0 to place 0 -/
theorem g_acopyI (X : gCx p s m args meth c n0 D cA own cc nL) {index N0 N1 : Nat} {o0 o1 z : Int} (hw1 : Cond.methodLink own index arraycopyName ∈ gT) (hw2 : Cond.native arraycopyName ∈ gT) (hw3 : Cond.static arraycopyName ∈ gT) (hw4 : Cond.initialized "java/lang/System" ∈ gT) (h00 : 0 ≤ o0) (h01 : o0 < (sz : Int)) (hl0 : glay o0 = (1, N0)) (h10 : 0 ≤ o1) (h11 : o1 < (sz : Int)) (hl1 : glay o1 = (1, N1)) (hz0 : 0 ≤ z) (hz1 : z ≤ (N0 : Int)) (hz2 : z ≤ (N1 : Int)) (hz3 : z ≤ 2147483647) (hframes : 1 ≤ R.frames) (hlocals : (st.map fun v => v.category).sum + (nativeFrameWords "java/lang/System" "arraycopy" 5 + 11) ≤ R.locals) (hd : decode cc pc = .ok (.invokestatic index, 3)) (hn : pc + 3 = n) (kk : G p l e R s m args below meth c n0 D cA nL Q cells slots (gcpy M o1 o0 z) sz n L st) : G p l e R s m args below meth c n0 D cA nL Q cells slots M sz pc L (gJ z :: gJ 0 :: gA n0 o1 :: gJ 0 :: gA n0 o0 :: st) := by
  subst hn
  intro H locs ls hl hW hS
  have hts := X.2.2.2.2.1
  have hK := X.2.2.2.2.2.2.1.1
  have he0 := g_hei (n0 := n0) (cA := cA) (M := M) h00 h01 hl0
  have he1 := g_hei (n0 := n0) (cA := cA) (M := M) h10 h11 hl1
  have hcz := gi_cl hz0 hz3
  have hc0z : (Int32.ofInt 0).toNatClampNeg = 0 := by decide +kernel
  have hneg : ¬ Int32.ofInt z < 0 := by rw [gi_0, gi_lt ⟨by omega, by omega⟩ ⟨by omega, by omega⟩]; omega
  have hneg0 : ¬ Int32.ofInt 0 < 0 := by decide +kernel
  have tz : (Int32.ofInt z).toInt = z := gi_toInt ⟨by omega, by omega⟩
  have t0 : (Int32.ofInt 0).toInt = 0 := by decide +kernel
  have hcell0 := hW.2 o0.toNat _ he0
  have hcell1 := hW.2 o1.toNat _ he1
  obtain ⟨-, k0, hk0, cm0, hkk0⟩ := (hK.2 0 _ rfl).1 N0 (fun j => .int (Int32.ofInt (M o0 (j : Int))))
  obtain ⟨-, k1, hk1, cm1, hkk1⟩ := (hK.2 0 _ rfl).1 N1 (fun j => .int (Int32.ofInt (M o1 (j : Int))))
  intro TT hT XX
  obtain ⟨vm', X', step⟩ := XX.arraycopy X.1 X.2.2.2.1 (hts _ hw1) (hts _ hw2) (hts _ hw3) (hts _ hw4) (src := n0 + o0.toNat) (dst := n0 + o1.toNat) (cs := vp_cell (cA 1) (N0, .inl ((fun j : Nat => Int32.ofInt (M o0 (j : Int)))))) (cd := vp_cell (cA 1) (N1, .inl ((fun j : Nat => Int32.ofInt (M o1 (j : Int)))))) (srcPos := Int32.ofInt 0) (destPos := Int32.ofInt 0) (n := Int32.ofInt z) (by rw [hT]; exact hcell0) (by rw [hT]; exact hcell1)
    (fun _ h => by cases h) (fun _ h => by cases h) (fun h => by cases h) (fun h => by cases h) hk0 hk1 hkk0 hkk1 (by simp [refKind]) hneg0 hneg0 hneg
    (by rw [t0, tz]; show ¬ _ > ((arrV (cA 1) N0 (fun j => .int (Int32.ofInt (M o0 (j : Int))))).slots.size : Int); rw [arrV_size]; omega)
    (by rw [t0, tz]; show ¬ _ > ((arrV (cA 1) N1 (fun j => .int (Int32.ofInt (M o1 (j : Int))))).slots.size : Int); rw [arrV_size]; omega)
    (fun vm₁ _ i hi => by
      have e : (vp_cell (cA 1) (N0, .inl ((fun j : Nat => Int32.ofInt (M o0 (j : Int)))))).slots.getD ((Int32.ofInt 0).toNatClampNeg + i) .null = .int (Int32.ofInt (M o0 (((Int32.ofInt 0).toNatClampNeg + i : Nat) : Int))) := by
        show (arrV (cA 1) N0 (fun j => .int (Int32.ofInt (M o0 (j : Int))))).slots.getD _ _ = _
        rw [Array.getD_eq_getD_getElem?, arrV_read _ _ (by omega)]
        rfl
      refine ⟨?_, ?_⟩
      · rw [e]
        exact rfl
      · rw [e]
        exact trivial)
    (g := F0 m pc ls (gJ z :: gJ 0 :: gA n0 o1 :: gJ 0 :: gA n0 o0 :: st)) rfl (hl.1.trans X.2.2.1.symm) (rest := st) rfl (by rw [X.2.1]; exact hd) hframes (by show 2 * 0 + _ + _ ≤ _; omega)
  have e1 : copied (vp_cell (cA 1) (N0, .inl ((fun j : Nat => Int32.ofInt (M o0 (j : Int)))))) (vp_cell (cA 1) (N1, .inl ((fun j : Nat => Int32.ofInt (M o1 (j : Int)))))) (Int32.ofInt 0) (Int32.ofInt 0) (Int32.ofInt z) = vp_cell (cA 1) (N1, .inl (va_cpy (fun j : Nat => Int32.ofInt (M o0 (j : Int))) (fun j : Nat => Int32.ofInt (M o1 (j : Int))) (Int32.ofInt 0).toNatClampNeg (Int32.ofInt 0).toNatClampNeg (Int32.ofInt z).toNatClampNeg)) := va_copied (fun z => .int z) (cA 1) (cA 1) (fun j : Nat => Int32.ofInt (M o0 (j : Int))) (fun j : Nat => Int32.ofInt (M o1 (j : Int))) (by rw [hc0z]; omega)
  rw [e1] at X' step
  have hln : n0 + o1.toNat < H.size := (Array.getElem?_eq_some_iff.mp hcell1).1
  have hent : (Sum.inl (cA 1, N1, .inl (va_cpy (fun j : Nat => Int32.ofInt (M o0 (j : Int))) (fun j : Nat => Int32.ofInt (M o1 (j : Int))) (Int32.ofInt 0).toNatClampNeg (Int32.ofInt 0).toNatClampNeg (Int32.ofInt z).toNatClampNeg)) : va_E) = gent n0 cA (glay o1) (gcpy M o1 o0 z o1) := by
    rw [hl1]
    show _ = (Sum.inl (cA 1, N1, .inl (fun j : Nat => Int32.ofInt (gcpy M o1 o0 z o1 (j : Int)))) : va_E)
    refine congrArg (fun f : Nat → Int32 => (Sum.inl (cA 1, N1, .inl f) : va_E)) ?_
    funext j
    simp only [va_cpy, hc0z, gcpy, true_and]
    by_cases hj : (j : Int) < z
    · rw [if_pos ⟨by omega, by omega⟩, if_pos ⟨by omega, hj⟩, show (0 + (j - 0)) = j by omega]
    · rw [if_neg (by omega), if_neg (fun q => hj q.2)]
  generalize hH1 : H.setIfInBounds (n0 + o1.toNat) (vp_cell (cA 1) (N1, .inl (va_cpy (fun j : Nat => Int32.ofInt (M o0 (j : Int))) (fun j : Nat => Int32.ofInt (M o1 (j : Int))) (Int32.ofInt 0).toNatClampNeg (Int32.ofInt 0).toNatClampNeg (Int32.ofInt z).toNatClampNeg))) = H1
  have hheap : ((TT.setVm vm').setCell (n0 + o1.toNat) (vp_cell (cA 1) (N1, .inl (va_cpy (fun j : Nat => Int32.ofInt (M o0 (j : Int))) (fun j : Nat => Int32.ofInt (M o1 (j : Int))) (Int32.ofInt 0).toNatClampNeg (Int32.ofInt 0).toNatClampNeg (Int32.ofInt z).toNatClampNeg)))).heap = H1 := by rw [← hH1, ← hT]; rfl
  have oq : ∀ q : Nat, q ≠ n0 + o1.toNat → H1[q]? = H[q]? := fun q hq => by rw [← hH1]; simp [Array.getElem?_setIfInBounds, Ne.symm hq]
  have ez : H1.size = H.size := by rw [← hH1]; simp
  have eat : H1[n0 + o1.toNat]? = some (vp_cell (cA 1) (N1, .inl (va_cpy (fun j : Nat => Int32.ofInt (M o0 (j : Int))) (fun j : Nat => Int32.ofInt (M o1 (j : Int))) (Int32.ofInt 0).toNatClampNeg (Int32.ofInt 0).toNatClampNeg (Int32.ofInt z).toNatClampNeg))) := by rw [← hH1]; simp [Array.getElem?_setIfInBounds, hln]
  have hW1 : gWd n0 D cA (gcpy M o1 o0 z) sz H1 := by
    refine ⟨ez.trans hW.1, ?_⟩
    rw [← gws_set n0 cA M (gcpy M o1 o0 z) h10 h11 _ hent gcpy_off]
    exact hW.2.set (gws_D n0 cA M sz) he1 eat oq
  obtain ⟨t, a1, b1⟩ := kk H1 _ ls hl hW1 ⟨by rw [ez]; exact hS.1, fun q g1 g2 => by
      rw [oq q (fun e => g2 (by rw [e]; exact Nat.le_add_right _ _))]
      exact hS.2.1 q g1 g2, fun q hq => by
      rcases List.mem_append.mp hq with h | h
      · exact hS.2.2 q h
      · obtain ⟨z, -, hz⟩ := List.mem_map.mp h
        rw [← hz]
        exact Nat.le_add_right _ _⟩ _ hheap X'
  exact ⟨t, step t a1, b1⟩
theorem g_acopyL (X : gCx p s m args meth c n0 D cA own cc nL) {index N0 N1 : Nat} {o0 o1 z : Int} (hw1 : Cond.methodLink own index arraycopyName ∈ gT) (hw2 : Cond.native arraycopyName ∈ gT) (hw3 : Cond.static arraycopyName ∈ gT) (hw4 : Cond.initialized "java/lang/System" ∈ gT) (h00 : 0 ≤ o0) (h01 : o0 < (sz : Int)) (hl0 : glay o0 = (2, N0)) (h10 : 0 ≤ o1) (h11 : o1 < (sz : Int)) (hl1 : glay o1 = (2, N1)) (hz0 : 0 ≤ z) (hz1 : z ≤ (N0 : Int)) (hz2 : z ≤ (N1 : Int)) (hz3 : z ≤ 2147483647) (hframes : 1 ≤ R.frames) (hlocals : (st.map fun v => v.category).sum + (nativeFrameWords "java/lang/System" "arraycopy" 5 + 11) ≤ R.locals) (hd : decode cc pc = .ok (.invokestatic index, 3)) (hn : pc + 3 = n) (kk : G p l e R s m args below meth c n0 D cA nL Q cells slots (gcpy M o1 o0 z) sz n L st) : G p l e R s m args below meth c n0 D cA nL Q cells slots M sz pc L (gJ z :: gJ 0 :: gA n0 o1 :: gJ 0 :: gA n0 o0 :: st) := by
  subst hn
  intro H locs ls hl hW hS
  have hts := X.2.2.2.2.1
  have hK := X.2.2.2.2.2.2.1.1
  have he0 := g_hel (n0 := n0) (cA := cA) (M := M) h00 h01 hl0
  have he1 := g_hel (n0 := n0) (cA := cA) (M := M) h10 h11 hl1
  have hcz := gi_cl hz0 hz3
  have hc0z : (Int32.ofInt 0).toNatClampNeg = 0 := by decide +kernel
  have hneg : ¬ Int32.ofInt z < 0 := by rw [gi_0, gi_lt ⟨by omega, by omega⟩ ⟨by omega, by omega⟩]; omega
  have hneg0 : ¬ Int32.ofInt 0 < 0 := by decide +kernel
  have tz : (Int32.ofInt z).toInt = z := gi_toInt ⟨by omega, by omega⟩
  have t0 : (Int32.ofInt 0).toInt = 0 := by decide +kernel
  have hcell0 := hW.2 o0.toNat _ he0
  have hcell1 := hW.2 o1.toNat _ he1
  obtain ⟨-, k0, hk0, cm0, hkk0⟩ := (hK.2 1 _ rfl).1 N0 (fun j => .long (Int64.ofInt (M o0 (j : Int))))
  obtain ⟨-, k1, hk1, cm1, hkk1⟩ := (hK.2 1 _ rfl).1 N1 (fun j => .long (Int64.ofInt (M o1 (j : Int))))
  intro TT hT XX
  obtain ⟨vm', X', step⟩ := XX.arraycopy X.1 X.2.2.2.1 (hts _ hw1) (hts _ hw2) (hts _ hw3) (hts _ hw4) (src := n0 + o0.toNat) (dst := n0 + o1.toNat) (cs := vp_cell (cA 2) (N0, .inr (.inl ((fun j : Nat => Int64.ofInt (M o0 (j : Int))))))) (cd := vp_cell (cA 2) (N1, .inr (.inl ((fun j : Nat => Int64.ofInt (M o1 (j : Int))))))) (srcPos := Int32.ofInt 0) (destPos := Int32.ofInt 0) (n := Int32.ofInt z) (by rw [hT]; exact hcell0) (by rw [hT]; exact hcell1)
    (fun _ h => by cases h) (fun _ h => by cases h) (fun h => by cases h) (fun h => by cases h) hk0 hk1 hkk0 hkk1 (by simp [refKind]) hneg0 hneg0 hneg
    (by rw [t0, tz]; show ¬ _ > ((arrV (cA 2) N0 (fun j => .long (Int64.ofInt (M o0 (j : Int))))).slots.size : Int); rw [arrV_size]; omega)
    (by rw [t0, tz]; show ¬ _ > ((arrV (cA 2) N1 (fun j => .long (Int64.ofInt (M o1 (j : Int))))).slots.size : Int); rw [arrV_size]; omega)
    (fun vm₁ _ i hi => by
      have e : (vp_cell (cA 2) (N0, .inr (.inl ((fun j : Nat => Int64.ofInt (M o0 (j : Int))))))).slots.getD ((Int32.ofInt 0).toNatClampNeg + i) .null = .long (Int64.ofInt (M o0 (((Int32.ofInt 0).toNatClampNeg + i : Nat) : Int))) := by
        show (arrV (cA 2) N0 (fun j => .long (Int64.ofInt (M o0 (j : Int))))).slots.getD _ _ = _
        rw [Array.getD_eq_getD_getElem?, arrV_read _ _ (by omega)]
        rfl
      refine ⟨?_, ?_⟩
      · rw [e]
        exact rfl
      · rw [e]
        exact trivial)
    (g := F0 m pc ls (gJ z :: gJ 0 :: gA n0 o1 :: gJ 0 :: gA n0 o0 :: st)) rfl (hl.1.trans X.2.2.1.symm) (rest := st) rfl (by rw [X.2.1]; exact hd) hframes (by show 2 * 0 + _ + _ ≤ _; omega)
  have e1 : copied (vp_cell (cA 2) (N0, .inr (.inl ((fun j : Nat => Int64.ofInt (M o0 (j : Int))))))) (vp_cell (cA 2) (N1, .inr (.inl ((fun j : Nat => Int64.ofInt (M o1 (j : Int))))))) (Int32.ofInt 0) (Int32.ofInt 0) (Int32.ofInt z) = vp_cell (cA 2) (N1, .inr (.inl (va_cpy (fun j : Nat => Int64.ofInt (M o0 (j : Int))) (fun j : Nat => Int64.ofInt (M o1 (j : Int))) (Int32.ofInt 0).toNatClampNeg (Int32.ofInt 0).toNatClampNeg (Int32.ofInt z).toNatClampNeg))) := va_copied (fun z => .long z) (cA 2) (cA 2) (fun j : Nat => Int64.ofInt (M o0 (j : Int))) (fun j : Nat => Int64.ofInt (M o1 (j : Int))) (by rw [hc0z]; omega)
  rw [e1] at X' step
  have hln : n0 + o1.toNat < H.size := (Array.getElem?_eq_some_iff.mp hcell1).1
  have hent : (Sum.inl (cA 2, N1, .inr (.inl (va_cpy (fun j : Nat => Int64.ofInt (M o0 (j : Int))) (fun j : Nat => Int64.ofInt (M o1 (j : Int))) (Int32.ofInt 0).toNatClampNeg (Int32.ofInt 0).toNatClampNeg (Int32.ofInt z).toNatClampNeg))) : va_E) = gent n0 cA (glay o1) (gcpy M o1 o0 z o1) := by
    rw [hl1]
    show _ = (Sum.inl (cA 2, N1, .inr (.inl (fun j : Nat => Int64.ofInt (gcpy M o1 o0 z o1 (j : Int))))) : va_E)
    refine congrArg (fun f : Nat → Int64 => (Sum.inl (cA 2, N1, .inr (.inl f)) : va_E)) ?_
    funext j
    simp only [va_cpy, hc0z, gcpy, true_and]
    by_cases hj : (j : Int) < z
    · rw [if_pos ⟨by omega, by omega⟩, if_pos ⟨by omega, hj⟩, show (0 + (j - 0)) = j by omega]
    · rw [if_neg (by omega), if_neg (fun q => hj q.2)]
  generalize hH1 : H.setIfInBounds (n0 + o1.toNat) (vp_cell (cA 2) (N1, .inr (.inl (va_cpy (fun j : Nat => Int64.ofInt (M o0 (j : Int))) (fun j : Nat => Int64.ofInt (M o1 (j : Int))) (Int32.ofInt 0).toNatClampNeg (Int32.ofInt 0).toNatClampNeg (Int32.ofInt z).toNatClampNeg)))) = H1
  have hheap : ((TT.setVm vm').setCell (n0 + o1.toNat) (vp_cell (cA 2) (N1, .inr (.inl (va_cpy (fun j : Nat => Int64.ofInt (M o0 (j : Int))) (fun j : Nat => Int64.ofInt (M o1 (j : Int))) (Int32.ofInt 0).toNatClampNeg (Int32.ofInt 0).toNatClampNeg (Int32.ofInt z).toNatClampNeg))))).heap = H1 := by rw [← hH1, ← hT]; rfl
  have oq : ∀ q : Nat, q ≠ n0 + o1.toNat → H1[q]? = H[q]? := fun q hq => by rw [← hH1]; simp [Array.getElem?_setIfInBounds, Ne.symm hq]
  have ez : H1.size = H.size := by rw [← hH1]; simp
  have eat : H1[n0 + o1.toNat]? = some (vp_cell (cA 2) (N1, .inr (.inl (va_cpy (fun j : Nat => Int64.ofInt (M o0 (j : Int))) (fun j : Nat => Int64.ofInt (M o1 (j : Int))) (Int32.ofInt 0).toNatClampNeg (Int32.ofInt 0).toNatClampNeg (Int32.ofInt z).toNatClampNeg)))) := by rw [← hH1]; simp [Array.getElem?_setIfInBounds, hln]
  have hW1 : gWd n0 D cA (gcpy M o1 o0 z) sz H1 := by
    refine ⟨ez.trans hW.1, ?_⟩
    rw [← gws_set n0 cA M (gcpy M o1 o0 z) h10 h11 _ hent gcpy_off]
    exact hW.2.set (gws_D n0 cA M sz) he1 eat oq
  obtain ⟨t, a1, b1⟩ := kk H1 _ ls hl hW1 ⟨by rw [ez]; exact hS.1, fun q g1 g2 => by
      rw [oq q (fun e => g2 (by rw [e]; exact Nat.le_add_right _ _))]
      exact hS.2.1 q g1 g2, fun q hq => by
      rcases List.mem_append.mp hq with h | h
      · exact hS.2.2 q h
      · obtain ⟨z, -, hz⟩ := List.mem_map.mp h
        rw [← hz]
        exact Nat.le_add_right _ _⟩ _ hheap X'
  exact ⟨t, step t a1, b1⟩
theorem g_acopyB (X : gCx p s m args meth c n0 D cA own cc nL) {index N0 N1 : Nat} {o0 o1 z : Int} (hw1 : Cond.methodLink own index arraycopyName ∈ gT) (hw2 : Cond.native arraycopyName ∈ gT) (hw3 : Cond.static arraycopyName ∈ gT) (hw4 : Cond.initialized "java/lang/System" ∈ gT) (h00 : 0 ≤ o0) (h01 : o0 < (sz : Int)) (hl0 : glay o0 = (3, N0)) (h10 : 0 ≤ o1) (h11 : o1 < (sz : Int)) (hl1 : glay o1 = (3, N1)) (hz0 : 0 ≤ z) (hz1 : z ≤ (N0 : Int)) (hz2 : z ≤ (N1 : Int)) (hz3 : z ≤ 2147483647) (hfit : ∀ i : Int, 0 ≤ i → i < z → fits .byte (.int (Int32.ofInt (M o0 i))) = true) (hframes : 1 ≤ R.frames) (hlocals : (st.map fun v => v.category).sum + (nativeFrameWords "java/lang/System" "arraycopy" 5 + 11) ≤ R.locals) (hd : decode cc pc = .ok (.invokestatic index, 3)) (hn : pc + 3 = n) (kk : G p l e R s m args below meth c n0 D cA nL Q cells slots (gcpy M o1 o0 z) sz n L st) : G p l e R s m args below meth c n0 D cA nL Q cells slots M sz pc L (gJ z :: gJ 0 :: gA n0 o1 :: gJ 0 :: gA n0 o0 :: st) := by
  subst hn
  intro H locs ls hl hW hS
  have hts := X.2.2.2.2.1
  have hK := X.2.2.2.2.2.2.1.1
  have he0 := g_heb (n0 := n0) (cA := cA) (M := M) h00 h01 hl0
  have he1 := g_heb (n0 := n0) (cA := cA) (M := M) h10 h11 hl1
  have hcz := gi_cl hz0 hz3
  have hc0z : (Int32.ofInt 0).toNatClampNeg = 0 := by decide +kernel
  have hneg : ¬ Int32.ofInt z < 0 := by rw [gi_0, gi_lt ⟨by omega, by omega⟩ ⟨by omega, by omega⟩]; omega
  have hneg0 : ¬ Int32.ofInt 0 < 0 := by decide +kernel
  have tz : (Int32.ofInt z).toInt = z := gi_toInt ⟨by omega, by omega⟩
  have t0 : (Int32.ofInt 0).toInt = 0 := by decide +kernel
  have hcell0 := hW.2 o0.toNat _ he0
  have hcell1 := hW.2 o1.toNat _ he1
  obtain ⟨-, k0, hk0, cm0, hkk0⟩ := (hK.2 2 _ rfl).1 N0 (fun j => .int (Int32.ofInt (M o0 (j : Int))))
  obtain ⟨-, k1, hk1, cm1, hkk1⟩ := (hK.2 2 _ rfl).1 N1 (fun j => .int (Int32.ofInt (M o1 (j : Int))))
  intro TT hT XX
  obtain ⟨vm', X', step⟩ := XX.arraycopy X.1 X.2.2.2.1 (hts _ hw1) (hts _ hw2) (hts _ hw3) (hts _ hw4) (src := n0 + o0.toNat) (dst := n0 + o1.toNat) (cs := vp_cell (cA 3) (N0, .inl ((fun j : Nat => Int32.ofInt (M o0 (j : Int)))))) (cd := vp_cell (cA 3) (N1, .inl ((fun j : Nat => Int32.ofInt (M o1 (j : Int)))))) (srcPos := Int32.ofInt 0) (destPos := Int32.ofInt 0) (n := Int32.ofInt z) (by rw [hT]; exact hcell0) (by rw [hT]; exact hcell1)
    (fun _ h => by cases h) (fun _ h => by cases h) (fun h => by cases h) (fun h => by cases h) hk0 hk1 hkk0 hkk1 (by simp [refKind]) hneg0 hneg0 hneg
    (by rw [t0, tz]; show ¬ _ > ((arrV (cA 3) N0 (fun j => .int (Int32.ofInt (M o0 (j : Int))))).slots.size : Int); rw [arrV_size]; omega)
    (by rw [t0, tz]; show ¬ _ > ((arrV (cA 3) N1 (fun j => .int (Int32.ofInt (M o1 (j : Int))))).slots.size : Int); rw [arrV_size]; omega)
    (fun vm₁ _ i hi => by
      have e : (vp_cell (cA 3) (N0, .inl ((fun j : Nat => Int32.ofInt (M o0 (j : Int)))))).slots.getD ((Int32.ofInt 0).toNatClampNeg + i) .null = .int (Int32.ofInt (M o0 (((Int32.ofInt 0).toNatClampNeg + i : Nat) : Int))) := by
        show (arrV (cA 3) N0 (fun j => .int (Int32.ofInt (M o0 (j : Int))))).slots.getD _ _ = _
        rw [Array.getD_eq_getD_getElem?, arrV_read _ _ (by omega)]
        rfl
      refine ⟨?_, ?_⟩
      · rw [e]
        exact hfit _ (by omega) (by omega)
      · rw [e]
        exact trivial)
    (g := F0 m pc ls (gJ z :: gJ 0 :: gA n0 o1 :: gJ 0 :: gA n0 o0 :: st)) rfl (hl.1.trans X.2.2.1.symm) (rest := st) rfl (by rw [X.2.1]; exact hd) hframes (by show 2 * 0 + _ + _ ≤ _; omega)
  have e1 : copied (vp_cell (cA 3) (N0, .inl ((fun j : Nat => Int32.ofInt (M o0 (j : Int)))))) (vp_cell (cA 3) (N1, .inl ((fun j : Nat => Int32.ofInt (M o1 (j : Int)))))) (Int32.ofInt 0) (Int32.ofInt 0) (Int32.ofInt z) = vp_cell (cA 3) (N1, .inl (va_cpy (fun j : Nat => Int32.ofInt (M o0 (j : Int))) (fun j : Nat => Int32.ofInt (M o1 (j : Int))) (Int32.ofInt 0).toNatClampNeg (Int32.ofInt 0).toNatClampNeg (Int32.ofInt z).toNatClampNeg)) := va_copied (fun z => .int z) (cA 3) (cA 3) (fun j : Nat => Int32.ofInt (M o0 (j : Int))) (fun j : Nat => Int32.ofInt (M o1 (j : Int))) (by rw [hc0z]; omega)
  rw [e1] at X' step
  have hln : n0 + o1.toNat < H.size := (Array.getElem?_eq_some_iff.mp hcell1).1
  have hent : (Sum.inl (cA 3, N1, .inl (va_cpy (fun j : Nat => Int32.ofInt (M o0 (j : Int))) (fun j : Nat => Int32.ofInt (M o1 (j : Int))) (Int32.ofInt 0).toNatClampNeg (Int32.ofInt 0).toNatClampNeg (Int32.ofInt z).toNatClampNeg)) : va_E) = gent n0 cA (glay o1) (gcpy M o1 o0 z o1) := by
    rw [hl1]
    show _ = (Sum.inl (cA 3, N1, .inl (fun j : Nat => Int32.ofInt (gcpy M o1 o0 z o1 (j : Int)))) : va_E)
    refine congrArg (fun f : Nat → Int32 => (Sum.inl (cA 3, N1, .inl f) : va_E)) ?_
    funext j
    simp only [va_cpy, hc0z, gcpy, true_and]
    by_cases hj : (j : Int) < z
    · rw [if_pos ⟨by omega, by omega⟩, if_pos ⟨by omega, hj⟩, show (0 + (j - 0)) = j by omega]
    · rw [if_neg (by omega), if_neg (fun q => hj q.2)]
  generalize hH1 : H.setIfInBounds (n0 + o1.toNat) (vp_cell (cA 3) (N1, .inl (va_cpy (fun j : Nat => Int32.ofInt (M o0 (j : Int))) (fun j : Nat => Int32.ofInt (M o1 (j : Int))) (Int32.ofInt 0).toNatClampNeg (Int32.ofInt 0).toNatClampNeg (Int32.ofInt z).toNatClampNeg))) = H1
  have hheap : ((TT.setVm vm').setCell (n0 + o1.toNat) (vp_cell (cA 3) (N1, .inl (va_cpy (fun j : Nat => Int32.ofInt (M o0 (j : Int))) (fun j : Nat => Int32.ofInt (M o1 (j : Int))) (Int32.ofInt 0).toNatClampNeg (Int32.ofInt 0).toNatClampNeg (Int32.ofInt z).toNatClampNeg)))).heap = H1 := by rw [← hH1, ← hT]; rfl
  have oq : ∀ q : Nat, q ≠ n0 + o1.toNat → H1[q]? = H[q]? := fun q hq => by rw [← hH1]; simp [Array.getElem?_setIfInBounds, Ne.symm hq]
  have ez : H1.size = H.size := by rw [← hH1]; simp
  have eat : H1[n0 + o1.toNat]? = some (vp_cell (cA 3) (N1, .inl (va_cpy (fun j : Nat => Int32.ofInt (M o0 (j : Int))) (fun j : Nat => Int32.ofInt (M o1 (j : Int))) (Int32.ofInt 0).toNatClampNeg (Int32.ofInt 0).toNatClampNeg (Int32.ofInt z).toNatClampNeg))) := by rw [← hH1]; simp [Array.getElem?_setIfInBounds, hln]
  have hW1 : gWd n0 D cA (gcpy M o1 o0 z) sz H1 := by
    refine ⟨ez.trans hW.1, ?_⟩
    rw [← gws_set n0 cA M (gcpy M o1 o0 z) h10 h11 _ hent gcpy_off]
    exact hW.2.set (gws_D n0 cA M sz) he1 eat oq
  obtain ⟨t, a1, b1⟩ := kk H1 _ ls hl hW1 ⟨by rw [ez]; exact hS.1, fun q g1 g2 => by
      rw [oq q (fun e => g2 (by rw [e]; exact Nat.le_add_right _ _))]
      exact hS.2.1 q g1 g2, fun q hq => by
      rcases List.mem_append.mp hq with h | h
      · exact hS.2.2 q h
      · obtain ⟨z, -, hz⟩ := List.mem_map.mp h
        rw [← hz]
        exact Nat.le_add_right _ _⟩ _ hheap X'
  exact ⟨t, step t a1, b1⟩
/-! String constants -/
theorem g_ldcS (X : gCx p s m args meth c n0 D cA own cc nL) (i : Nat) {index : Nat} {tx : String} {bs : List Int32} (hq : gSO[i]? = some (own, index, tx, bs)) (hd : decode cc pc = .ok (.ldc index, 2)) (hn : pc + 2 = n) (kk : G p l e R s m args below meth c n0 D cA nL Q cells slots M sz n L (.ref (cA (100 + i)) :: st)) : G p l e R s m args below meth c n0 D cA nL Q cells slots M sz pc L st := by
  subst hn
  intro H locs ls hl hW hS
  exact va_ldcS X.1 X.2.1 X.2.2.2.1 (X.2.2.2.2.2.2.1.2.2.2.2.2.2 i _ hq) hd (kk H locs ls hl hW hS)
theorem g_strVal (X : gCx p s m args meth c n0 D cA own cc nL) (i : Nat) {q : String × Nat × String × List Int32} {index : Nat} {ref : String} (hq : gSO[i]? = some q) (hw : Cond.fieldLink own index ref "value" "[B" ∈ gT) (href : ref = "java/lang/String") (hd : decode cc pc = .ok (.getfield index, 3)) (hn : pc + 3 = n) (kk : G p l e R s m args below meth c n0 D cA nL Q cells slots M sz n L (.ref (cA (200 + i)) :: st)) : G p l e R s m args below meth c n0 D cA nL Q cells slots M sz pc L (.ref (cA (100 + i)) :: st) := by
  subst hn; subst href
  intro H locs ls hl hW hS
  exact vk_getf X.1 X.2.1 (X.2.2.2.2.2.2.2.2.1 i _ hq).2.2.1 hS X.2.2.2.1 (X.2.2.2.2.1 _ hw) (fun x hx => hx) hd (kk H locs ls hl hW hS)
theorem g_strCod (X : gCx p s m args meth c n0 D cA own cc nL) (i : Nat) {q : String × Nat × String × List Int32} {index : Nat} {ref : String} (hq : gSO[i]? = some q) (hw : Cond.fieldLink own index ref "coder" "B" ∈ gT) (href : ref = "java/lang/String") (hd : decode cc pc = .ok (.getfield index, 3)) (hn : pc + 3 = n) (kk : G p l e R s m args below meth c n0 D cA nL Q cells slots M sz n L (gJ 0 :: st)) : G p l e R s m args below meth c n0 D cA nL Q cells slots M sz pc L (.ref (cA (100 + i)) :: st) := by
  subst hn; subst href
  intro H locs ls hl hW hS
  exact vk_getf X.1 X.2.1 (X.2.2.2.2.2.2.2.2.1 i _ hq).2.1 hS X.2.2.2.1 (X.2.2.2.2.1 _ hw) (fun x hx => hx) hd (kk H locs ls hl hW hS)
theorem g_strLen (X : gCx p s m args meth c n0 D cA own cc nL) (i : Nat) {q : String × Nat × String × List Int32} {z : Int} (hq : gSO[i]? = some q) (hv : Int32.ofNat q.2.2.2.length = Int32.ofInt z) (hd : decode cc pc = .ok (.arraylength, 1)) (hn : pc + 1 = n) (kk : G p l e R s m args below meth c n0 D cA nL Q cells slots M sz n L (gJ z :: st)) : G p l e R s m args below meth c n0 D cA nL Q cells slots M sz pc L (.ref (cA (200 + i)) :: st) := by
  subst hn
  intro H locs ls hl hW hS
  exact va_tlen X.1 X.2.1 (X.2.2.2.2.2.2.2.2.1 i _ hq).2.2.2 hS hv hd (kk H locs ls hl hW hS)
theorem g_strByt (X : gCx p s m args meth c n0 D cA own cc nL) (i : Nat) {q : String × Nat × String × List Int32} {j z : Int} (hq : gSO[i]? = some q) (h0 : 0 ≤ j) (h1 : j < (q.2.2.2.length : Int)) (h2 : (q.2.2.2.length : Int) ≤ 2147483647) (hv : q.2.2.2.getD j.toNat 0 = Int32.ofInt z) (hd : decode cc pc = .ok (.baload, 1)) (hn : pc + 1 = n) (kk : G p l e R s m args below meth c n0 D cA nL Q cells slots M sz n L (gJ z :: st)) : G p l e R s m args below meth c n0 D cA nL Q cells slots M sz pc L (gJ j :: .ref (cA (200 + i)) :: st) := by
  subst hn
  intro H locs ls hl hW hS
  obtain ⟨cell, g1, g2, g3, g4, g5, g6, g7⟩ := (X.2.2.2.2.2.2.2.2.1 i _ hq).2.2.2
  have hcl := gi_cl h0 (by omega : j ≤ 2147483647)
  have hjn : (Int32.ofInt j).toNatClampNeg = j.toNat := by omega
  refine W.bald (v := .int (Int32.ofInt z)) X.1 X.2.1 (by rw [hS.2.1 _ (Array.getElem?_eq_some_iff.mp g1).1 g7]; exact g1) g2 g3 (fun qq => ?_) (by rw [hjn, g6 _ (by omega)]; exact congrArg (fun x => some (Value.int x)) hv) rfl rfl hd (kk H locs ls hl hW hS)
  rcases qq with qq | qq
  · rw [gi_0, gi_lt ⟨by omega, by omega⟩ ⟨by omega, by omega⟩] at qq
    omega
  · omega
theorem g_getsCS (X : gCx p s m args meth c n0 D cA own cc nL) {index : Nat} {ref : String} (hw : Cond.fieldLink own index ref "COMPACT_STRINGS" "Z" ∈ gT) (href : ref = "java/lang/String") (hd : decode cc pc = .ok (.getstatic index, 3)) (hn : pc + 3 = n) (kk : G p l e R s m args below meth c n0 D cA nL Q cells slots M sz n L (gJ 1 :: st)) : G p l e R s m args below meth c n0 D cA nL Q cells slots M sz pc L st := by
  subst hn; subst href
  intro H locs ls hl hW hS
  exact va_gets X.1 X.2.1 X.2.2.2.2.2.2.2.2.2.1 hS X.2.2.2.1 (X.2.2.2.2.1 _ hw) (fun x hx => hx) hd (kk H locs ls hl hW hS)
/-- a String constant as the receiver of a call -/
theorem gPreS (X : gCx p s m args meth c n0 D cA own cc nL) {H : Heap} {locs : List Loc} {As : List Value} (i : Nat) {q : String × Nat × String × List Int32} (hq : gSO[i]? = some q) (hW : gWd n0 D cA M sz H) (hS : va_S (fun q => n0 ≤ q) s.heap H locs) : PreV s H "java/lang/String" (cA (100 + i)) (gPc n0 D cA (.ref (cA (100 + i)) :: As) M sz) As := by
  obtain ⟨cell, h1, h2, h3, h4⟩ := (X.2.2.2.2.2.2.2.2.1 i _ hq).1
  exact ⟨gPc_blind, ⟨cell, by rw [hS.2.1 _ (Array.getElem?_eq_some_iff.mp h1).1 h4]; exact h1, h2, h3⟩, (gPre X hW hS).2⟩
theorem g_callSt (X : gCx p s m args meth c n0 D cA own cc nL) (i : Nat) {q : String × Nat × String × List Int32} (hq : gSO[i]? = some q) {y : MethodName} {bytes : ByteArray} {maxL index k mc ms sz1 cs1 ss1 : Nat} {ret : Option FieldType} {rm : Room} {As rest st0 : List Value} {Po : Int → gM → Prop} (hM : Met l y (gWsOf y bytes maxL ret) rm (gPc n0 D cA (.ref (cA (100 + i)) :: As) M sz) (gQi n0 D cA sz1 Po) mc ms (fun q => n0 ≤ q)) (hy : gQok y bytes maxL ret k) (hl : Cond.methodLink own index y ∈ gT) (hw : Cond.instanceMethod y ∈ gT ∧ Cond.selects "java/lang/String" y y ∈ gT) (hrm : rm.cells = mc ∧ rm.slots = ms) (hR : rm.frames + 1 ≤ R.frames ∧ 8 + (maxL + 11) + rm.locals ≤ R.locals) (hk : As.length = k) (hst : st0 = As.reverse ++ (.ref (cA (100 + i)) :: rest)) (hcat : (rest.map fun v => v.category).sum ≤ 8) (hroom : cells + mc ≤ R.cells ∧ slots + ms ≤ R.slots) (hcc : cells + mc = cs1) (hss : slots + ms = ss1) (hd : decode cc pc = .ok (.invokevirtual index, 3)) (hn : pc + 3 = n) (kk : ∀ (z : Int) (M1 : gM), Po z M1 → G p l e R s m args below meth c n0 D cA nL Q cs1 ss1 M1 sz1 n L (gJ z :: rest)) : G p l e R s m args below meth c n0 D cA nL Q cells slots M sz pc L st0 := by
  subst hcc; subst hss
  intro H locs ls hl' hW hS
  exact gAfter_i (As := As) hn hl' hS (va_runV (As := As) (rest := rest) (gFix X) hM ⟨gCallB X hy hl hrm hR, X.2.2.2.2.1 _ hw.1, X.2.2.2.2.1 _ hw.2⟩ (gPreS X i hq hW hS) rfl hk hl'.1 hst (lv_room hcat) hd hroom) kk
theorem g_areturnS (X : gCx p s m args meth c n0 D cA own cc nL) {Po : Int → gM → Prop} (i : Nat) (hr : meth.sig.returnType = some (.object "java/lang/String")) (hd : decode cc pc = .ok (.areturn, 1)) (hP : Po (i : Int) M) : G p l e R s m args below meth c n0 D cA nL (MQ below (gQs n0 D cA sz Po) args s cells slots (fun q => n0 ≤ q)) cells slots M sz pc L [.ref (cA (100 + i))] :=
  fun H locs ls hl hW hS => W.aret X.1 X.2.1 hr (Or.inl ⟨_, rfl⟩) (Or.inr ⟨_, rfl⟩) (fun t ht hWm => ⟨⟨((i : Int), M), _, rfl, hP, rfl, by show gWd n0 D cA M sz t.heap; rw [ht]; exact hW⟩, hS.F ht⟩) hS.2.2 hd X.2.2.2.2.2.1
theorem gAfter_s {As rest : List Value} {sz1 mc ms : Nat} {Po : Int → gM → Prop} {a : Array Value} {ls : Array Slot} {H : Heap} {locs : List Loc} {st0 : List Value} (hn : pc + 3 = n) (hl : lv_has ls nL L) (hS : va_S (fun q => n0 ≤ q) s.heap H locs) (hr : va_Run p l e R s m args below meth c H locs cells slots mc ms (F0 m pc ls st0) rest (gQs n0 D cA sz1 Po a) (fun q => n0 ≤ q)) (kk : ∀ (z : Int) (M1 : gM), Po z M1 → G p l e R s m args below meth c n0 D cA nL Q (cells + mc) (slots + ms) M1 sz1 n L (.ref (cA (100 + z.toNat)) :: rest)) : W p l e R s m args below meth c H locs cells slots Q (F0 m pc ls st0) := by
  subst hn
  refine va_callr hr hS (fun q _ h => h) (fun q h => h) (fun u b t H1 locs1 ht hvm hw hB hz1 hk1 hS1 => ?_)
  obtain ⟨z, M1⟩ := u
  obtain ⟨rfl, hB⟩ := hB
  exact kk z M1 hw H1 locs1 ls hl (by rw [← ht]; exact hB) hS1
theorem g_callSs (X : gCx p s m args meth c n0 D cA own cc nL) {y : MethodName} {bytes : ByteArray} {maxL index k mc ms sz1 cs1 ss1 : Nat} {ret : Option FieldType} {rm : Room} {As rest st0 : List Value} {Po : Int → gM → Prop} (hM : Met l y (gWsOf y bytes maxL ret) rm (gPc n0 D cA As M sz) (gQs n0 D cA sz1 Po) mc ms (fun q => n0 ≤ q)) (hy : gQok y bytes maxL ret k) (hl : Cond.methodLink own index y ∈ gT) (hw : Cond.static y ∈ gT) (hrm : rm.cells = mc ∧ rm.slots = ms) (hR : rm.frames + 1 ≤ R.frames ∧ 8 + (maxL + 11) + rm.locals ≤ R.locals) (hk : As.length = k) (hst : st0 = As.reverse ++ rest) (hcat : (rest.map fun v => v.category).sum ≤ 8) (hroom : cells + mc ≤ R.cells ∧ slots + ms ≤ R.slots) (hcc : cells + mc = cs1) (hss : slots + ms = ss1) (hd : decode cc pc = .ok (.invokestatic index, 3)) (hn : pc + 3 = n) (kk : ∀ (z : Int) (M1 : gM), Po z M1 → G p l e R s m args below meth c n0 D cA nL Q cs1 ss1 M1 sz1 n L (.ref (cA (100 + z.toNat)) :: rest)) : G p l e R s m args below meth c n0 D cA nL Q cells slots M sz pc L st0 := by
  subst hcc; subst hss
  intro H locs ls hl' hW hS
  exact gAfter_s (As := As) hn hl' hS (va_runS (As := As) (rest := rest) (gFix X) hM ⟨gCallB X hy hl hrm hR, X.2.2.2.2.1 _ hw⟩ (gPre X hW hS) rfl hk hl'.1 hst (lv_room hcat) hd hroom) kk
theorem g_iushrA (X : gCx p s m args meth c n0 D cA own cc nL) {a b : Int} (hd : decode cc pc = .ok (.iushr, 1)) (hn : pc + 1 = n) (kk : ∀ z : Int, -2147483648 ≤ z ∧ z ≤ 2147483647 → ((Int32.ofInt a).toUInt32 >>> ((Int32.ofInt b).toUInt32 &&& Int32.toUInt32 31)).toInt32 = Int32.ofInt z → G p l e R s m args below meth c n0 D cA nL Q cells slots M sz n L (gJ z :: st)) : G p l e R s m args below meth c n0 D cA nL Q cells slots M sz pc L (gJ b :: gJ a :: st) := by
  subst hn
  exact fun H locs ls hl hW hS => lv_iushr X.1 X.2.1 hd (gi_of _) (kk _ (gi_rg _) (gi_of _) H locs ls hl hW hS)
theorem g_getsSF (X : gCx p s m args meth c n0 D cA own cc nL) {index : Nat} {ref : String} (hw : Cond.fieldLink own index ref "SIOOBE_FORMATTER" "Ljava/util/function/BiFunction;" ∈ gT) (href : ref = "jdk/internal/util/Preconditions") (hd : decode cc pc = .ok (.getstatic index, 3)) (hn : pc + 3 = n) (kk : ∀ v : Value, v.category = 1 → G p l e R s m args below meth c n0 D cA nL Q cells slots M sz n L (v :: st)) : G p l e R s m args below meth c n0 D cA nL Q cells slots M sz pc L st := by
  subst hn; subst href
  intro H locs ls hl hW hS
  obtain ⟨v, hv, hZ⟩ := X.2.2.2.2.2.2.2.2.2.2
  exact va_gets X.1 X.2.1 hZ hS X.2.2.2.1 (X.2.2.2.2.1 _ hw) (fun x hx => hx) hd (kk v (by rcases hv with rfl | ⟨a, rfl⟩ <;> rfl) H locs ls hl hW hS)
theorem g_nreturn (X : gCx p s m args meth c n0 D cA own cc nL) {Po : Int → gM → Prop} {z : Int} {ty : FieldType} (hnr : narrow ty (.int (Int32.ofInt z)) = .int (Int32.ofInt z)) (hr : meth.sig.returnType = some ty) (hd : decode cc pc = .ok (.ireturn, 1)) (hP : Po z M) : G p l e R s m args below meth c n0 D cA nL (MQ below (gQi n0 D cA sz Po) args s cells slots (fun q => n0 ≤ q)) cells slots M sz pc L [gJ z] :=
  fun H locs ls hl hW hS => W.zret X.1 X.2.1 hr hnr (fun t ht hWm => ⟨⟨_, (z, M), rfl, ⟨rfl, hP⟩, by show gWd n0 D cA M sz t.heap; rw [ht]; exact hW⟩, hS.F ht⟩) hS.2.2 hd X.2.2.2.2.2.1
theorem g_i2cA (X : gCx p s m args meth c n0 D cA own cc nL) {a : Int} (hd : decode cc pc = .ok (.i2c, 1)) (hn : pc + 1 = n) (kk : ∀ z : Int, 0 ≤ z ∧ z ≤ 65535 → narrow .char (.int (Int32.ofInt z)) = .int (Int32.ofInt z) → G p l e R s m args below meth c n0 D cA nL Q cells slots M sz n L (gJ z :: st)) : G p l e R s m args below meth c n0 D cA nL Q cells slots M sz pc L (gJ a :: st) := by
  subst hn
  intro H locs ls hl hW hS
  refine lv_i2c X.1 X.2.1 hd rfl ?_
  have h1 := pk_char (Int32.ofInt a)
  have hlt : (Int32.ofInt a).toBitVec.toNat % 65536 < 65536 := Nat.mod_lt _ (by omega)
  have h2 : nI ((Int32.ofInt a).toBitVec.toNat % 65536) = Int32.ofInt (((Int32.ofInt a).toBitVec.toNat % 65536 : Nat) : Int) := by rw [← Int32.toInt_inj, nI_toInt (by omega), gi_toInt ⟨by omega, by omega⟩]
  have h3 := (pk_charN hlt).1
  rw [h2] at h1 h3
  first
    | (rw [h1]; exact kk _ ⟨by omega, by omega⟩ h3 H locs ls hl hW hS)
    | exact h1 ▸ kk _ ⟨by omega, by omega⟩ h3 H locs ls hl hW hS
theorem gi_shr0 (a : Int) : Int32.ofInt a >>> (Int32.ofInt 0 &&& 31) = Int32.ofInt a := by
  have h : (Int32.ofInt 0 &&& 31 : Int32) = 0 := by decide +kernel
  rw [h]
  first | exact Int32.shiftRight_zero | simp
end GROWS
