/-! ===== CORE 7: rows over ranges; the invariant; groups of cells ===== -/
section GROWS7
variable {p : Program} {l : Launch} {e : Env} {R : Room} {s : State} {m : MethodId} {args : Array Value} {below : List Frame} {meth : Method} {c : Code} {n0 : Nat} {D : va_G} {cA : Nat → ClassId} {nL : Nat} {Q : State → Prop} {cells slots : Nat} {M : gM} {sz pc n : Nat} {L : List (Nat × Value)} {st : List Value} {own : String} {cc : ByteArray}
theorem g_gJn (a : Int) : gJ a = gJ (Int32.ofInt a).toInt := congrArg Value.int (gi_of _)
theorem g_gVn (a : Int) : gV a = gV (Int64.ofInt a).toInt := congrArg Value.long (gl_of _)
theorem g_iaddA (X : gCx p s m args meth c n0 D cA own cc nL) {a b : Int} (hd : decode cc pc = .ok (.iadd, 1)) (hn : pc + 1 = n) (kk : ∀ z : Int, -2147483648 ≤ z ∧ z ≤ 2147483647 → Int32.ofInt (a + b) = Int32.ofInt z → G p l e R s m args below meth c n0 D cA nL Q cells slots M sz n L (gJ z :: st)) : G p l e R s m args below meth c n0 D cA nL Q cells slots M sz pc L (gJ b :: gJ a :: st) := g_iadd (z := a + b) X hd rfl hn (by rw [g_gJn (a + b)]; exact kk _ (gi_rg _) (gi_of _))
theorem g_isubA (X : gCx p s m args meth c n0 D cA own cc nL) {a b : Int} (hd : decode cc pc = .ok (.isub, 1)) (hn : pc + 1 = n) (kk : ∀ z : Int, -2147483648 ≤ z ∧ z ≤ 2147483647 → Int32.ofInt (a - b) = Int32.ofInt z → G p l e R s m args below meth c n0 D cA nL Q cells slots M sz n L (gJ z :: st)) : G p l e R s m args below meth c n0 D cA nL Q cells slots M sz pc L (gJ b :: gJ a :: st) := g_isub (z := a - b) X hd rfl hn (by rw [g_gJn (a - b)]; exact kk _ (gi_rg _) (gi_of _))
theorem g_imulA (X : gCx p s m args meth c n0 D cA own cc nL) {a b : Int} (hd : decode cc pc = .ok (.imul, 1)) (hn : pc + 1 = n) (kk : ∀ z : Int, -2147483648 ≤ z ∧ z ≤ 2147483647 → Int32.ofInt (a * b) = Int32.ofInt z → G p l e R s m args below meth c n0 D cA nL Q cells slots M sz n L (gJ z :: st)) : G p l e R s m args below meth c n0 D cA nL Q cells slots M sz pc L (gJ b :: gJ a :: st) := g_imul (z := a * b) X hd rfl hn (by rw [g_gJn (a * b)]; exact kk _ (gi_rg _) (gi_of _))
theorem g_laddA (X : gCx p s m args meth c n0 D cA own cc nL) {a b : Int} (hd : decode cc pc = .ok (.ladd, 1)) (hn : pc + 1 = n) (kk : ∀ z : Int, -9223372036854775808 ≤ z ∧ z ≤ 9223372036854775807 → Int64.ofInt (a + b) = Int64.ofInt z → G p l e R s m args below meth c n0 D cA nL Q cells slots M sz n L (gV z :: st)) : G p l e R s m args below meth c n0 D cA nL Q cells slots M sz pc L (gV b :: gV a :: st) := g_ladd (z := a + b) X hd rfl hn (by rw [g_gVn (a + b)]; exact kk _ (gl_rg _) (gl_of _))
theorem g_lsubA (X : gCx p s m args meth c n0 D cA own cc nL) {a b : Int} (hd : decode cc pc = .ok (.lsub, 1)) (hn : pc + 1 = n) (kk : ∀ z : Int, -9223372036854775808 ≤ z ∧ z ≤ 9223372036854775807 → Int64.ofInt (a - b) = Int64.ofInt z → G p l e R s m args below meth c n0 D cA nL Q cells slots M sz n L (gV z :: st)) : G p l e R s m args below meth c n0 D cA nL Q cells slots M sz pc L (gV b :: gV a :: st) := g_lsub (z := a - b) X hd rfl hn (by rw [g_gVn (a - b)]; exact kk _ (gl_rg _) (gl_of _))
theorem g_lmulA (X : gCx p s m args meth c n0 D cA own cc nL) {a b : Int} (hd : decode cc pc = .ok (.lmul, 1)) (hn : pc + 1 = n) (kk : ∀ z : Int, -9223372036854775808 ≤ z ∧ z ≤ 9223372036854775807 → Int64.ofInt (a * b) = Int64.ofInt z → G p l e R s m args below meth c n0 D cA nL Q cells slots M sz n L (gV z :: st)) : G p l e R s m args below meth c n0 D cA nL Q cells slots M sz pc L (gV b :: gV a :: st) := g_lmul (z := a * b) X hd rfl hn (by rw [g_gVn (a * b)]; exact kk _ (gl_rg _) (gl_of _))
theorem g_iincA (X : gCx p s m args meth c n0 D cA own cc nL) (k : Nat) {i : Nat} {d z : Int} (hd : decode cc pc = .ok (.iinc i d, 3)) (hk : L[k]? = some (i, gJ z)) (hn' : i < nL) (hn : pc + 3 = n) (kk : ∀ w : Int, -2147483648 ≤ w ∧ w ≤ 2147483647 → ∀ L1 : List (Nat × Value), L1 = (i, gJ w) :: L.filter (fun q => !(q.1 == i) && !(q.1 + 1 == i && q.2.category == 2)) → G p l e R s m args below meth c n0 D cA nL Q cells slots M sz n L1 st) : G p l e R s m args below meth c n0 D cA nL Q cells slots M sz pc L st := g_iinc (w := z + d) X k hd hk rfl hn' rfl hn (by rw [g_gJn (z + d)]; exact kk _ (gi_rg _) _ rfl)
theorem g_lcmp2 (X : gCx p s m args meth c n0 D cA own cc nL) {a b : Int} (hd : decode cc pc = .ok (.lcmp, 1)) (ha : -9223372036854775808 ≤ a ∧ a ≤ 9223372036854775807) (hb : -9223372036854775808 ≤ b ∧ b ≤ 9223372036854775807) (hn : pc + 1 = n) (kk : ∀ z : Int, (b < a → z = 1) ∧ (a = b → z = 0) ∧ (a < b → z = -1) → -1 ≤ z ∧ z ≤ 1 → G p l e R s m args below meth c n0 D cA nL Q cells slots M sz n L (gJ z :: st)) : G p l e R s m args below meth c n0 D cA nL Q cells slots M sz pc L (gV b :: gV a :: st) := g_lcmp X hd ha hb hn (fun z hz => kk z hz (by omega))
theorem g_iald2 (X : gCx p s m args meth c n0 D cA own cc nL) {N : Nat} {o i v : Int} (h0 : 0 ≤ o) (h1 : o < (sz : Int)) (hlay : glay o = (1, N)) (hi0 : 0 ≤ i) (hi1 : i < (N : Int)) (hN : (N : Int) ≤ 2147483647) (hd : decode cc pc = .ok (.iaload, 1)) (hn : pc + 1 = n) (hv : M o i = v) (kk : G p l e R s m args below meth c n0 D cA nL Q cells slots M sz n L (gJ v :: st)) : G p l e R s m args below meth c n0 D cA nL Q cells slots M sz pc L (gJ i :: gA n0 o :: st) := g_iald X h0 h1 hlay hi0 hi1 hN hd hn (by rw [hv]; exact kk)
theorem g_lald2 (X : gCx p s m args meth c n0 D cA own cc nL) {N : Nat} {o i v : Int} (h0 : 0 ≤ o) (h1 : o < (sz : Int)) (hlay : glay o = (2, N)) (hi0 : 0 ≤ i) (hi1 : i < (N : Int)) (hN : (N : Int) ≤ 2147483647) (hd : decode cc pc = .ok (.laload, 1)) (hn : pc + 1 = n) (hv : M o i = v) (kk : G p l e R s m args below meth c n0 D cA nL Q cells slots M sz n L (gV v :: st)) : G p l e R s m args below meth c n0 D cA nL Q cells slots M sz pc L (gJ i :: gA n0 o :: st) := g_lald X h0 h1 hlay hi0 hi1 hN hd hn (by rw [hv]; exact kk)
theorem g_bald2 (X : gCx p s m args meth c n0 D cA own cc nL) {N : Nat} {o i v : Int} (h0 : 0 ≤ o) (h1 : o < (sz : Int)) (hlay : glay o = (3, N)) (hi0 : 0 ≤ i) (hi1 : i < (N : Int)) (hN : (N : Int) ≤ 2147483647) (hd : decode cc pc = .ok (.baload, 1)) (hn : pc + 1 = n) (hv : M o i = v) (kk : G p l e R s m args below meth c n0 D cA nL Q cells slots M sz n L (gJ v :: st)) : G p l e R s m args below meth c n0 D cA nL Q cells slots M sz pc L (gJ i :: gA n0 o :: st) := g_bald X h0 h1 hlay hi0 hi1 hN hd hn (by rw [hv]; exact kk)
theorem g_zald2 (X : gCx p s m args meth c n0 D cA own cc nL) {N : Nat} {o i v : Int} (h0 : 0 ≤ o) (h1 : o < (sz : Int)) (hlay : glay o = (4, N)) (hi0 : 0 ≤ i) (hi1 : i < (N : Int)) (hN : (N : Int) ≤ 2147483647) (hd : decode cc pc = .ok (.baload, 1)) (hn : pc + 1 = n) (hv : M o i = v) (kk : G p l e R s m args below meth c n0 D cA nL Q cells slots M sz n L (gJ v :: st)) : G p l e R s m args below meth c n0 D cA nL Q cells slots M sz pc L (gJ i :: gA n0 o :: st) := g_zald X h0 h1 hlay hi0 hi1 hN hd hn (by rw [hv]; exact kk)
theorem g_zn {z : Int} (h : 0 ≤ z ∧ z ≤ 1) : vp_nar .boolean (Int32.ofInt z) = Int32.ofInt z := by
  rcases (by omega : z = 0 ∨ z = 1) with rfl | rfl <;> decide +kernel
theorem g_i8 {z : Int} (h : -128 ≤ z ∧ z ≤ 127) : (Int32.ofInt z).toInt8.toInt32 = Int32.ofInt z := by
  have hb : z.bmod 256 = z := Int.bmod_eq_of_le (by show -(Int.ofNat (256 / 2)) ≤ z; simp; omega) (by simp; omega)
  have h1 : (Int32.ofInt z).toInt = z := gi_toInt ⟨by omega, by omega⟩
  have h2 : ((Int32.ofInt z).toInt8).toInt = z := by rw [Int32.toInt_toInt8, h1]; exact hb
  have h3 : ((Int32.ofInt z).toInt8.toInt32).toInt = z := by rw [Int8.toInt_toInt32, h2]
  rw [gi_of ((Int32.ofInt z).toInt8.toInt32), h3]
theorem g_bn {z : Int} (h : -128 ≤ z ∧ z ≤ 127) : vp_nar .byte (Int32.ofInt z) = Int32.ofInt z := g_i8 h
theorem g_i2br {a z : Int} (hr : -2147483648 ≤ z ∧ z ≤ 2147483647) (h : (Int32.ofInt a).toInt8.toInt32 = Int32.ofInt z) : -128 ≤ z ∧ z ≤ 127 := by
  have h1 : ((Int32.ofInt a).toInt8.toInt32).toInt = z := by rw [h]; exact gi_toInt hr
  rw [Int8.toInt_toInt32] at h1
  have h2 := Int8.le_toInt (Int32.ofInt a).toInt8
  have h3 := Int8.toInt_lt (Int32.ofInt a).toInt8
  omega
theorem g_i2l {a : Int} (h : -2147483648 ≤ a ∧ a ≤ 2147483647) : (Int32.ofInt a).toInt64 = Int64.ofInt a := by
  have h1 : ((Int32.ofInt a).toInt64).toInt = a := by rw [Int32.toInt_toInt64, gi_toInt h]
  rw [gl_of ((Int32.ofInt a).toInt64), h1]
theorem g_l2i {a : Int} (h : -2147483648 ≤ a ∧ a ≤ 2147483647) : (Int64.ofInt a).toInt32 = Int32.ofInt a := by
  have h0 : (Int64.ofInt a).toInt = a := gl_toInt ⟨by omega, by omega⟩
  have h1 : ((Int64.ofInt a).toInt32).toInt = a := by
    rw [Int64.toInt_toInt32, h0]
    exact Int.bmod_eq_of_le (by show -(Int.ofNat (4294967296 / 2)) ≤ a; simp; omega) (by simp; omega)
  rw [gi_of ((Int64.ofInt a).toInt32), h1]
theorem g_inz {b : Int} (h : -2147483648 ≤ b ∧ b ≤ 2147483647) (hb : ¬ b = 0) : ¬ Int32.ofInt b = 0 := fun q => hb ((gi_eq h ⟨by omega, by omega⟩).mp (q.trans gi_0))
theorem g_lnz {b : Int} (h : -9223372036854775808 ≤ b ∧ b ≤ 9223372036854775807) (hb : ¬ b = 0) : ¬ Int64.ofInt b = 0 := fun q => hb ((gl_eq h ⟨by omega, by omega⟩).mp (q.trans (by decide +kernel)))
theorem gi_bv {b : Int} (h : 0 ≤ b ∧ b ≤ 2147483647) : (Int32.ofInt b).toBitVec.toNat = b.toNat := by
  have h1 : (Int32.ofInt b).toInt = b := gi_toInt ⟨by omega, h.2⟩
  have h2 : (Int32.ofInt b).toInt = (Int32.ofInt b).toBitVec.toInt := rfl
  have h3 := BitVec.toInt_eq_toNat_cond (Int32.ofInt b).toBitVec
  have h4 := (Int32.ofInt b).toBitVec.isLt
  rw [h2] at h1
  rw [h1] at h3
  split at h3 <;> omega
theorem gi_and_rg {a b z : Int} (hb : 0 ≤ b ∧ b ≤ 2147483647) (hz : -2147483648 ≤ z ∧ z ≤ 2147483647) (h : Int32.ofInt a &&& Int32.ofInt b = Int32.ofInt z) : 0 ≤ z ∧ z ≤ b := by
  have h1 : (Int32.ofInt a &&& Int32.ofInt b).toInt = z := by rw [h]; exact gi_toInt hz
  have h2 : (Int32.ofInt a &&& Int32.ofInt b).toInt = ((Int32.ofInt a).toBitVec &&& (Int32.ofInt b).toBitVec).toInt := rfl
  have h3 := BitVec.toInt_eq_toNat_cond ((Int32.ofInt a).toBitVec &&& (Int32.ofInt b).toBitVec)
  rw [BitVec.toNat_and, gi_bv hb] at h3
  have h4 : (Int32.ofInt a).toBitVec.toNat &&& b.toNat ≤ b.toNat := Nat.and_le_right
  rw [← h2, h1] at h3
  split at h3 <;> omega
theorem g_iandC (X : gCx p s m args meth c n0 D cA own cc nL) {a b : Int} (hd : decode cc pc = .ok (.iand, 1)) (hb : 0 ≤ b ∧ b ≤ 2147483647) (hn : pc + 1 = n) (kk : ∀ z : Int, 0 ≤ z ∧ z ≤ b → Int32.ofInt a &&& Int32.ofInt b = Int32.ofInt z → G p l e R s m args below meth c n0 D cA nL Q cells slots M sz n L (gJ z :: st)) : G p l e R s m args below meth c n0 D cA nL Q cells slots M sz pc L (gJ b :: gJ a :: st) := g_iandA X hd hn (fun z hz h => kk z (gi_and_rg hb hz h) h)
theorem gl_bv {b : Int} (h : 0 ≤ b ∧ b ≤ 9223372036854775807) : (Int64.ofInt b).toBitVec.toNat = b.toNat := by
  have h1 : (Int64.ofInt b).toInt = b := gl_toInt ⟨by omega, h.2⟩
  have h2 : (Int64.ofInt b).toInt = (Int64.ofInt b).toBitVec.toInt := rfl
  have h3 := BitVec.toInt_eq_toNat_cond (Int64.ofInt b).toBitVec
  have h4 := (Int64.ofInt b).toBitVec.isLt
  rw [h2] at h1
  rw [h1] at h3
  split at h3 <;> omega
theorem gl_and_rg {a b z : Int} (hb : 0 ≤ b ∧ b ≤ 9223372036854775807) (hz : -9223372036854775808 ≤ z ∧ z ≤ 9223372036854775807) (h : Int64.ofInt a &&& Int64.ofInt b = Int64.ofInt z) : 0 ≤ z ∧ z ≤ b := by
  have h1 : (Int64.ofInt a &&& Int64.ofInt b).toInt = z := by rw [h]; exact gl_toInt hz
  have h2 : (Int64.ofInt a &&& Int64.ofInt b).toInt = ((Int64.ofInt a).toBitVec &&& (Int64.ofInt b).toBitVec).toInt := rfl
  have h3 := BitVec.toInt_eq_toNat_cond ((Int64.ofInt a).toBitVec &&& (Int64.ofInt b).toBitVec)
  rw [BitVec.toNat_and, gl_bv hb] at h3
  have h4 : (Int64.ofInt a).toBitVec.toNat &&& b.toNat ≤ b.toNat := Nat.and_le_right
  rw [← h2, h1] at h3
  split at h3 <;> omega
theorem g_landC (X : gCx p s m args meth c n0 D cA own cc nL) {a b : Int} (hd : decode cc pc = .ok (.land, 1)) (hb : 0 ≤ b ∧ b ≤ 9223372036854775807) (hn : pc + 1 = n) (kk : ∀ z : Int, 0 ≤ z ∧ z ≤ b → Int64.ofInt a &&& Int64.ofInt b = Int64.ofInt z → G p l e R s m args below meth c n0 D cA nL Q cells slots M sz n L (gV z :: st)) : G p l e R s m args below meth c n0 D cA nL Q cells slots M sz pc L (gV b :: gV a :: st) := g_landA X hd hn (fun z hz h => kk z (gl_and_rg hb hz h) h)
theorem gi_or0 (a : Int) : Int32.ofInt a ||| Int32.ofInt 0 = Int32.ofInt a := by
  rw [← gi_0]
  simp
theorem gi_xor0 (a : Int) : Int32.ofInt a ^^^ Int32.ofInt 0 = Int32.ofInt a := by
  rw [← gi_0]
  simp
/-! flags -/
theorem g_iandB (X : gCx p s m args meth c n0 D cA own cc nL) {a b : Int} (hd : decode cc pc = .ok (.iand, 1)) (ha : 0 ≤ a ∧ a ≤ 1) (hb : 0 ≤ b ∧ b ≤ 1) (hn : pc + 1 = n) (kk : ∀ z : Int, (0 ≤ z ∧ z ≤ 1) ∧ (z = 1 ↔ a = 1 ∧ b = 1) → G p l e R s m args below meth c n0 D cA nL Q cells slots M sz n L (gJ z :: st)) : G p l e R s m args below meth c n0 D cA nL Q cells slots M sz pc L (gJ b :: gJ a :: st) := by
  rcases (by omega : a = 0 ∨ a = 1) with rfl | rfl <;> rcases (by omega : b = 0 ∨ b = 1) with rfl | rfl
  · exact g_iandE (z := 0) X hd (by decide +kernel) hn (kk 0 (by decide))
  · exact g_iandE (z := 0) X hd (by decide +kernel) hn (kk 0 (by decide))
  · exact g_iandE (z := 0) X hd (by decide +kernel) hn (kk 0 (by decide))
  · exact g_iandE (z := 1) X hd (by decide +kernel) hn (kk 1 (by decide))
theorem g_iorB (X : gCx p s m args meth c n0 D cA own cc nL) {a b : Int} (hd : decode cc pc = .ok (.ior, 1)) (ha : 0 ≤ a ∧ a ≤ 1) (hb : 0 ≤ b ∧ b ≤ 1) (hn : pc + 1 = n) (kk : ∀ z : Int, (0 ≤ z ∧ z ≤ 1) ∧ (z = 1 ↔ a = 1 ∨ b = 1) → G p l e R s m args below meth c n0 D cA nL Q cells slots M sz n L (gJ z :: st)) : G p l e R s m args below meth c n0 D cA nL Q cells slots M sz pc L (gJ b :: gJ a :: st) := by
  rcases (by omega : a = 0 ∨ a = 1) with rfl | rfl <;> rcases (by omega : b = 0 ∨ b = 1) with rfl | rfl
  · exact g_iorE (z := 0) X hd (by decide +kernel) hn (kk 0 (by decide))
  · exact g_iorE (z := 1) X hd (by decide +kernel) hn (kk 1 (by decide))
  · exact g_iorE (z := 1) X hd (by decide +kernel) hn (kk 1 (by decide))
  · exact g_iorE (z := 1) X hd (by decide +kernel) hn (kk 1 (by decide))
theorem g_ixorB (X : gCx p s m args meth c n0 D cA own cc nL) {a b : Int} (hd : decode cc pc = .ok (.ixor, 1)) (ha : 0 ≤ a ∧ a ≤ 1) (hb : 0 ≤ b ∧ b ≤ 1) (hn : pc + 1 = n) (kk : ∀ z : Int, (0 ≤ z ∧ z ≤ 1) ∧ (z = 1 ↔ a ≠ b) → G p l e R s m args below meth c n0 D cA nL Q cells slots M sz n L (gJ z :: st)) : G p l e R s m args below meth c n0 D cA nL Q cells slots M sz pc L (gJ b :: gJ a :: st) := by
  rcases (by omega : a = 0 ∨ a = 1) with rfl | rfl <;> rcases (by omega : b = 0 ∨ b = 1) with rfl | rfl
  · exact g_ixorE (z := 0) X hd (by decide +kernel) hn (kk 0 (by decide))
  · exact g_ixorE (z := 1) X hd (by decide +kernel) hn (kk 1 (by decide))
  · exact g_ixorE (z := 1) X hd (by decide +kernel) hn (kk 1 (by decide))
  · exact g_ixorE (z := 0) X hd (by decide +kernel) hn (kk 0 (by decide))
theorem gWA_of2 {i : Int} (h0 : 0 ≤ i) (h1 : i < 10) : ∃ z : Int, gWA i.toNat = Int32.ofInt z ∧ (0 ≤ z ∧ z ≤ 100) ∧ (0 ≤ z) := by
  obtain ⟨z, hz, a, b, -⟩ := gWA_of h0 h1
  exact ⟨z, hz, ⟨a, b⟩, a⟩
theorem gKA_of2 {i : Int} (h0 : 0 ≤ i) (h1 : i < 5) : ∃ z : Int, gKA i.toNat = Int32.ofInt z ∧ (-1 ≤ z ∧ z ≤ 1) ∧ ((i = 0 → z = -1) ∧ (i = 4 → z = 1) ∧ (1 ≤ i → i ≤ 3 → z = 0)) := by
  rcases (by omega : i = 0 ∨ i = 1 ∨ i = 2 ∨ i = 3 ∨ i = 4) with rfl | rfl | rfl | rfl | rfl
  · exact ⟨-1, by decide +kernel, by omega, by omega⟩
  · exact ⟨0, by decide +kernel, by omega, by omega⟩
  · exact ⟨0, by decide +kernel, by omega, by omega⟩
  · exact ⟨0, by decide +kernel, by omega, by omega⟩
  · exact ⟨1, by decide +kernel, by omega, by omega⟩
end GROWS7
/-! contracts with the end told apart -/
section GMETS
variable {l : Launch} {n0 : Nat} {D : va_G} {cA : Nat → ClassId} {M : gM} {sz : Nat} {y : MethodName} {bytes : ByteArray} {maxL : Nat} {rm : Room}
theorem gMetI {Po : Int → gM → Prop} (av : List Value) (hy : plainName y.cls = true) (hav : (lg_sl av).length ≤ maxL) (hc : rm.cells = 0 ∧ rm.slots = 0) (body : ∀ (p : Program) (e : Env) (s : State) (m : MethodId) (args : Array Value) (below : List Frame) (meth : Method) (c : Code) (Q : State → Prop), gCx p s m args meth c n0 D cA y.cls bytes maxL → (∀ (z : Int) (M1 : gM) (pc : Nat) (L : List (Nat × Value)), decode bytes pc = .ok (.ireturn, 1) → Po z M1 → G p l e rm s m args below meth c n0 D cA maxL Q 0 0 M1 sz pc L [gJ z]) → G p l e rm s m args below meth c n0 D cA maxL Q 0 0 M sz 0 (lv_args 0 av) []) : Met l y (gWsOf y bytes maxL (some .int)) rm (gPc n0 D cA av M sz) (gQi n0 D cA sz Po) 0 0 (fun q => n0 ≤ q) :=
  gMet_of av hy hav (fun p e s m args below meth c X hr hm => body p e s m args below meth c _ X (fun z M1 pc L hd hP => g_ireturn X hr hd hP))
theorem gMetZ {Po : Int → gM → Prop} (av : List Value) (hy : plainName y.cls = true) (hav : (lg_sl av).length ≤ maxL) (hc : rm.cells = 0 ∧ rm.slots = 0) (body : ∀ (p : Program) (e : Env) (s : State) (m : MethodId) (args : Array Value) (below : List Frame) (meth : Method) (c : Code) (Q : State → Prop), gCx p s m args meth c n0 D cA y.cls bytes maxL → (∀ (z : Int) (M1 : gM) (pc : Nat) (L : List (Nat × Value)), decode bytes pc = .ok (.ireturn, 1) → (z = 0 ∨ z = 1) → Po z M1 → G p l e rm s m args below meth c n0 D cA maxL Q 0 0 M1 sz pc L [gJ z]) → G p l e rm s m args below meth c n0 D cA maxL Q 0 0 M sz 0 (lv_args 0 av) []) : Met l y (gWsOf y bytes maxL (some .boolean)) rm (gPc n0 D cA av M sz) (gQi n0 D cA sz Po) 0 0 (fun q => n0 ≤ q) :=
  gMet_of av hy hav (fun p e s m args below meth c X hr hm => body p e s m args below meth c _ X (fun z M1 pc L hd hz hP => g_zreturn X hz hr hd hP))
theorem gMetL {Po : Int → gM → Prop} (av : List Value) (hy : plainName y.cls = true) (hav : (lg_sl av).length ≤ maxL) (hc : rm.cells = 0 ∧ rm.slots = 0) (body : ∀ (p : Program) (e : Env) (s : State) (m : MethodId) (args : Array Value) (below : List Frame) (meth : Method) (c : Code) (Q : State → Prop), gCx p s m args meth c n0 D cA y.cls bytes maxL → (∀ (z : Int) (M1 : gM) (pc : Nat) (L : List (Nat × Value)), decode bytes pc = .ok (.lreturn, 1) → Po z M1 → G p l e rm s m args below meth c n0 D cA maxL Q 0 0 M1 sz pc L [gV z]) → G p l e rm s m args below meth c n0 D cA maxL Q 0 0 M sz 0 (lv_args 0 av) []) : Met l y (gWsOf y bytes maxL (some .long)) rm (gPc n0 D cA av M sz) (gQl n0 D cA sz Po) 0 0 (fun q => n0 ≤ q) :=
  gMet_of av hy hav (fun p e s m args below meth c X hr hm => body p e s m args below meth c _ X (fun z M1 pc L hd hP => g_lreturn X hr hd hP))
theorem gMetV {Po : gM → Prop} (av : List Value) (hy : plainName y.cls = true) (hav : (lg_sl av).length ≤ maxL) (hc : rm.cells = 0 ∧ rm.slots = 0) (body : ∀ (p : Program) (e : Env) (s : State) (m : MethodId) (args : Array Value) (below : List Frame) (meth : Method) (c : Code) (Q : State → Prop), gCx p s m args meth c n0 D cA y.cls bytes maxL → (∀ (M1 : gM) (pc : Nat) (L : List (Nat × Value)), decode bytes pc = .ok (.return_, 1) → Po M1 → G p l e rm s m args below meth c n0 D cA maxL Q 0 0 M1 sz pc L []) → G p l e rm s m args below meth c n0 D cA maxL Q 0 0 M sz 0 (lv_args 0 av) []) : Met l y (gWsOf y bytes maxL none) rm (gPc n0 D cA av M sz) (gQv n0 D cA sz Po) 0 0 (fun q => n0 ≤ q) :=
  gMet_of av hy hav (fun p e s m args below meth c X hr hm => body p e s m args below meth c _ X (fun M1 pc L hd hP => g_return X hr hd hP))
end GMETS
theorem g_aleni {p : Program} {l : Launch} {e : Env} {R : Room} {s : State} {m : MethodId} {args : Array Value} {below : List Frame} {meth : Method} {c : Code} {n0 : Nat} {D : va_G} {cA : Nat → ClassId} {nL : Nat} {Q : State → Prop} {cells slots : Nat} {M : gM} {sz pc n : Nat} {L : List (Nat × Value)} {st : List Value} {own : String} {cc : ByteArray} (X : gCx p s m args meth c n0 D cA own cc nL) {N : Nat} {o z : Int} (h0 : 0 ≤ o) (h1 : o < (sz : Int)) (hlay : glay o = (1, N)) (hv : Int32.ofNat N = Int32.ofInt z) (hd : decode cc pc = .ok (.arraylength, 1)) (hn : pc + 1 = n) (kk : G p l e R s m args below meth c n0 D cA nL Q cells slots M sz n L (gJ z :: st)) : G p l e R s m args below meth c n0 D cA nL Q cells slots M sz pc L (gA n0 o :: st) := by
  subst hn
  intro H locs ls hl hW hS
  exact va_alen X.1 X.2.1 X.2.2.2.2.2.2.1.1 hW.2 o.toNat 0 (g_hei h0 h1 hlay) rfl hv hd (kk H locs ls hl hW hS)
theorem g_alenl {p : Program} {l : Launch} {e : Env} {R : Room} {s : State} {m : MethodId} {args : Array Value} {below : List Frame} {meth : Method} {c : Code} {n0 : Nat} {D : va_G} {cA : Nat → ClassId} {nL : Nat} {Q : State → Prop} {cells slots : Nat} {M : gM} {sz pc n : Nat} {L : List (Nat × Value)} {st : List Value} {own : String} {cc : ByteArray} (X : gCx p s m args meth c n0 D cA own cc nL) {N : Nat} {o z : Int} (h0 : 0 ≤ o) (h1 : o < (sz : Int)) (hlay : glay o = (2, N)) (hv : Int32.ofNat N = Int32.ofInt z) (hd : decode cc pc = .ok (.arraylength, 1)) (hn : pc + 1 = n) (kk : G p l e R s m args below meth c n0 D cA nL Q cells slots M sz n L (gJ z :: st)) : G p l e R s m args below meth c n0 D cA nL Q cells slots M sz pc L (gA n0 o :: st) := by
  subst hn
  intro H locs ls hl hW hS
  exact va_alen X.1 X.2.1 X.2.2.2.2.2.2.1.1 hW.2 o.toNat 1 (g_hel h0 h1 hlay) rfl hv hd (kk H locs ls hl hW hS)
theorem g_alenb {p : Program} {l : Launch} {e : Env} {R : Room} {s : State} {m : MethodId} {args : Array Value} {below : List Frame} {meth : Method} {c : Code} {n0 : Nat} {D : va_G} {cA : Nat → ClassId} {nL : Nat} {Q : State → Prop} {cells slots : Nat} {M : gM} {sz pc n : Nat} {L : List (Nat × Value)} {st : List Value} {own : String} {cc : ByteArray} (X : gCx p s m args meth c n0 D cA own cc nL) {N : Nat} {o z : Int} (h0 : 0 ≤ o) (h1 : o < (sz : Int)) (hlay : glay o = (3, N)) (hv : Int32.ofNat N = Int32.ofInt z) (hd : decode cc pc = .ok (.arraylength, 1)) (hn : pc + 1 = n) (kk : G p l e R s m args below meth c n0 D cA nL Q cells slots M sz n L (gJ z :: st)) : G p l e R s m args below meth c n0 D cA nL Q cells slots M sz pc L (gA n0 o :: st) := by
  subst hn
  intro H locs ls hl hW hS
  exact va_alen X.1 X.2.1 X.2.2.2.2.2.2.1.1 hW.2 o.toNat 2 (g_heb h0 h1 hlay) rfl hv hd (kk H locs ls hl hW hS)
theorem g_alenz {p : Program} {l : Launch} {e : Env} {R : Room} {s : State} {m : MethodId} {args : Array Value} {below : List Frame} {meth : Method} {c : Code} {n0 : Nat} {D : va_G} {cA : Nat → ClassId} {nL : Nat} {Q : State → Prop} {cells slots : Nat} {M : gM} {sz pc n : Nat} {L : List (Nat × Value)} {st : List Value} {own : String} {cc : ByteArray} (X : gCx p s m args meth c n0 D cA own cc nL) {N : Nat} {o z : Int} (h0 : 0 ≤ o) (h1 : o < (sz : Int)) (hlay : glay o = (4, N)) (hv : Int32.ofNat N = Int32.ofInt z) (hd : decode cc pc = .ok (.arraylength, 1)) (hn : pc + 1 = n) (kk : G p l e R s m args below meth c n0 D cA nL Q cells slots M sz n L (gJ z :: st)) : G p l e R s m args below meth c n0 D cA nL Q cells slots M sz pc L (gA n0 o :: st) := by
  subst hn
  intro H locs ls hl hW hS
  exact va_alen X.1 X.2.1 X.2.2.2.2.2.2.1.1 hW.2 o.toNat 3 (g_hez h0 h1 hlay) rfl hv hd (kk H locs ls hl hW hS)
