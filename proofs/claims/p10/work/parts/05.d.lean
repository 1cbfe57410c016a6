noncomputable def gDrop (n : Nat) : List UInt8 → List UInt8 := Nat.rec (motive := fun _ => List UInt8 → List UInt8) (fun l => l) (fun _ ih l => List.casesOn l [] (fun _ t => ih t)) n
theorem gDrop_get (n : Nat) : ∀ (l : List UInt8) (i : Nat), (gDrop n l)[i]? = l[n + i]? := by
  induction n with
  | zero => intro l i; show l[i]? = l[0 + i]?; rw [Nat.zero_add]
  | succ n ih =>
    intro l i
    rw [show n + 1 + i = (n + i) + 1 by omega]
    cases l with
    | nil => rfl
    | cons a t => exact ih t i
noncomputable def gP1 (c : ByteArray) (pc a : Nat) : Bool := List.casesOn (gDrop pc c.data.toList) false (fun b _ => Nat.beq b.toNat a)
noncomputable def gP2 (c : ByteArray) (pc a x : Nat) : Bool := List.casesOn (gDrop pc c.data.toList) false (fun b t => List.casesOn t false (fun d _ => and (Nat.beq b.toNat a) (Nat.beq d.toNat x)))
noncomputable def gP3 (c : ByteArray) (pc a x y : Nat) : Bool := List.casesOn (gDrop pc c.data.toList) false (fun b t => List.casesOn t false (fun d u => List.casesOn u false (fun f _ => and (Nat.beq b.toNat a) (and (Nat.beq d.toNat x) (Nat.beq f.toNat y)))))
noncomputable def gSg (bits n : Nat) (z : Int) : Bool := decide (Jvm.ClassFile.Reader.signed bits n = z)
theorem gU1 {c : ByteArray} {k : Nat} {b : UInt8} (h : c.data.toList[k]? = some b) : (Jvm.ClassFile.Reader.u1 : Jvm.ClassFile.Decoder Nat) c k = .ok (b.toNat, k + 1) := by
  obtain ⟨hk, hv⟩ := List.getElem?_eq_some_iff.mp h
  have hs : k < c.size := by show k < c.data.size; rw [← Array.length_toList]; exact hk
  have hb : c[k] = b := by rw [← hv]; rfl
  show (if h : k < c.size then (do set (k + 1); pure c[k].toNat : Jvm.ClassFile.Decoder Nat) else throw (Jvm.ClassFile.HasTruncated.truncated k)) c k = _
  rw [dif_pos hs, hb]; rfl
theorem gDby {c : ByteArray} {pc : Nat} {L : List UInt8} (e : gDrop pc c.data.toList = L) (i : Nat) {b : UInt8} (h : L[i]? = some b) : (Jvm.ClassFile.Reader.u1 : Jvm.ClassFile.Decoder Nat) c (pc + i) = .ok (b.toNat, pc + i + 1) := gU1 (by rw [← gDrop_get, e]; exact h)
theorem gP1_s {c : ByteArray} {pc a : Nat} (h : gP1 c pc a = true) : (Jvm.ClassFile.Reader.u1 : Jvm.ClassFile.Decoder Nat) c pc = .ok (a, pc + 1) := by
  unfold gP1 at h
  generalize e : gDrop pc c.data.toList = L at h
  cases L with
  | nil => exact Bool.noConfusion h
  | cons b t =>
    have hb : Nat.beq b.toNat a = true := h
    rw [← Nat.eq_of_beq_eq_true hb]
    exact gDby e 0 rfl
theorem gP2_s {c : ByteArray} {pc a x : Nat} (h : gP2 c pc a x = true) : (Jvm.ClassFile.Reader.u1 : Jvm.ClassFile.Decoder Nat) c pc = .ok (a, pc + 1) ∧ (Jvm.ClassFile.Reader.u1 : Jvm.ClassFile.Decoder Nat) c (pc + 1) = .ok (x, pc + 2) := by
  unfold gP2 at h
  generalize e : gDrop pc c.data.toList = L at h
  cases L with
  | nil => exact Bool.noConfusion h
  | cons b t =>
    cases t with
    | nil => exact Bool.noConfusion h
    | cons d u =>
      have hb : (Nat.beq b.toNat a && Nat.beq d.toNat x) = true := h
      obtain ⟨h1, h2⟩ := Eq.mp (Bool.and_eq_true _ _) hb
      rw [← Nat.eq_of_beq_eq_true h1, ← Nat.eq_of_beq_eq_true h2]
      exact ⟨gDby e 0 rfl, gDby e 1 rfl⟩
theorem gP3_s {c : ByteArray} {pc a x y : Nat} (h : gP3 c pc a x y = true) : (Jvm.ClassFile.Reader.u1 : Jvm.ClassFile.Decoder Nat) c pc = .ok (a, pc + 1) ∧ (Jvm.ClassFile.Reader.u1 : Jvm.ClassFile.Decoder Nat) c (pc + 1) = .ok (x, pc + 2) ∧ (Jvm.ClassFile.Reader.u1 : Jvm.ClassFile.Decoder Nat) c (pc + 2) = .ok (y, pc + 3) := by
  unfold gP3 at h
  generalize e : gDrop pc c.data.toList = L at h
  cases L with
  | nil => exact Bool.noConfusion h
  | cons b t =>
    cases t with
    | nil => exact Bool.noConfusion h
    | cons d u =>
      cases u with
      | nil => exact Bool.noConfusion h
      | cons f w =>
        have hb : (Nat.beq b.toNat a && (Nat.beq d.toNat x && Nat.beq f.toNat y)) = true := h
        obtain ⟨h1, h2⟩ := Eq.mp (Bool.and_eq_true _ _) hb
        obtain ⟨h2, h3⟩ := Eq.mp (Bool.and_eq_true _ _) h2
        rw [← Nat.eq_of_beq_eq_true h1, ← Nat.eq_of_beq_eq_true h2, ← Nat.eq_of_beq_eq_true h3]
        exact ⟨gDby e 0 rfl, gDby e 1 rfl, gDby e 2 rfl⟩
theorem gBnd {α β : Type} {r : Jvm.ClassFile.Decoder α} {f : α → Jvm.ClassFile.Decoder β} {c : ByteArray} {k k2 : Nat} {v : α} (e : r c k = .ok (v, k2)) : (r >>= f) c k = f v c k2 := by
  show Except.bind (r c k) (fun x => f x.1 c x.2) = _
  rw [e]; rfl
theorem gU2 {c : ByteArray} {k x y : Nat} (h1 : (Jvm.ClassFile.Reader.u1 : Jvm.ClassFile.Decoder Nat) c k = .ok (x, k + 1)) (h2 : (Jvm.ClassFile.Reader.u1 : Jvm.ClassFile.Decoder Nat) c (k + 1) = .ok (y, k + 2)) : (Jvm.ClassFile.Reader.u2 : Jvm.ClassFile.Decoder Nat) c k = .ok (x * 256 + y, k + 2) := (gBnd h1).trans (gBnd h2)
theorem gMp {α β : Type} {r : Jvm.ClassFile.Decoder α} {f : α → β} {c : ByteArray} {k k2 : Nat} {v : α} (e : r c k = .ok (v, k2)) : (f <$> r : Jvm.ClassFile.Decoder β) c k = .ok (f v, k2) := by
  show Except.bind (r c k) (fun x => Except.ok (f x.1, x.2)) = _
  rw [e]; rfl
theorem gDec {c : ByteArray} {pc n : Nat} {i : Instr} (h : (Jvm.ClassFile.Decoder.instr pc) c pc = .ok (i, pc + n)) : decode c pc = .ok (i, n) := by
  show Except.bind ((Jvm.ClassFile.Decoder.instr pc) c pc) (fun x => Except.ok (x.1, x.2 - pc)) = _
  rw [h]
  show Except.ok (i, pc + n - pc) = _
  rw [Nat.add_sub_cancel_left]
set_option maxRecDepth 20000 in
theorem dc_1 {c : ByteArray} {pc : Nat} (h : gP1 c pc 1 = true) : decode c pc = .ok (.aconst_null, 1) := gDec ((gBnd (gP1_s h)).trans rfl)
set_option maxRecDepth 20000 in
theorem dc_46 {c : ByteArray} {pc : Nat} (h : gP1 c pc 46 = true) : decode c pc = .ok (.iaload, 1) := gDec ((gBnd (gP1_s h)).trans rfl)
set_option maxRecDepth 20000 in
theorem dc_47 {c : ByteArray} {pc : Nat} (h : gP1 c pc 47 = true) : decode c pc = .ok (.laload, 1) := gDec ((gBnd (gP1_s h)).trans rfl)
set_option maxRecDepth 20000 in
theorem dc_50 {c : ByteArray} {pc : Nat} (h : gP1 c pc 50 = true) : decode c pc = .ok (.aaload, 1) := gDec ((gBnd (gP1_s h)).trans rfl)
set_option maxRecDepth 20000 in
theorem dc_51 {c : ByteArray} {pc : Nat} (h : gP1 c pc 51 = true) : decode c pc = .ok (.baload, 1) := gDec ((gBnd (gP1_s h)).trans rfl)
set_option maxRecDepth 20000 in
theorem dc_79 {c : ByteArray} {pc : Nat} (h : gP1 c pc 79 = true) : decode c pc = .ok (.iastore, 1) := gDec ((gBnd (gP1_s h)).trans rfl)
set_option maxRecDepth 20000 in
theorem dc_80 {c : ByteArray} {pc : Nat} (h : gP1 c pc 80 = true) : decode c pc = .ok (.lastore, 1) := gDec ((gBnd (gP1_s h)).trans rfl)
set_option maxRecDepth 20000 in
theorem dc_83 {c : ByteArray} {pc : Nat} (h : gP1 c pc 83 = true) : decode c pc = .ok (.aastore, 1) := gDec ((gBnd (gP1_s h)).trans rfl)
set_option maxRecDepth 20000 in
theorem dc_84 {c : ByteArray} {pc : Nat} (h : gP1 c pc 84 = true) : decode c pc = .ok (.bastore, 1) := gDec ((gBnd (gP1_s h)).trans rfl)
set_option maxRecDepth 20000 in
theorem dc_87 {c : ByteArray} {pc : Nat} (h : gP1 c pc 87 = true) : decode c pc = .ok (.pop, 1) := gDec ((gBnd (gP1_s h)).trans rfl)
set_option maxRecDepth 20000 in
theorem dc_89 {c : ByteArray} {pc : Nat} (h : gP1 c pc 89 = true) : decode c pc = .ok (.dup, 1) := gDec ((gBnd (gP1_s h)).trans rfl)
set_option maxRecDepth 20000 in
theorem dc_90 {c : ByteArray} {pc : Nat} (h : gP1 c pc 90 = true) : decode c pc = .ok (.dup_x1, 1) := gDec ((gBnd (gP1_s h)).trans rfl)
set_option maxRecDepth 20000 in
theorem dc_92 {c : ByteArray} {pc : Nat} (h : gP1 c pc 92 = true) : decode c pc = .ok (.dup2, 1) := gDec ((gBnd (gP1_s h)).trans rfl)
set_option maxRecDepth 20000 in
theorem dc_96 {c : ByteArray} {pc : Nat} (h : gP1 c pc 96 = true) : decode c pc = .ok (.iadd, 1) := gDec ((gBnd (gP1_s h)).trans rfl)
set_option maxRecDepth 20000 in
theorem dc_97 {c : ByteArray} {pc : Nat} (h : gP1 c pc 97 = true) : decode c pc = .ok (.ladd, 1) := gDec ((gBnd (gP1_s h)).trans rfl)
set_option maxRecDepth 20000 in
theorem dc_100 {c : ByteArray} {pc : Nat} (h : gP1 c pc 100 = true) : decode c pc = .ok (.isub, 1) := gDec ((gBnd (gP1_s h)).trans rfl)
set_option maxRecDepth 20000 in
theorem dc_101 {c : ByteArray} {pc : Nat} (h : gP1 c pc 101 = true) : decode c pc = .ok (.lsub, 1) := gDec ((gBnd (gP1_s h)).trans rfl)
set_option maxRecDepth 20000 in
theorem dc_104 {c : ByteArray} {pc : Nat} (h : gP1 c pc 104 = true) : decode c pc = .ok (.imul, 1) := gDec ((gBnd (gP1_s h)).trans rfl)
set_option maxRecDepth 20000 in
theorem dc_105 {c : ByteArray} {pc : Nat} (h : gP1 c pc 105 = true) : decode c pc = .ok (.lmul, 1) := gDec ((gBnd (gP1_s h)).trans rfl)
set_option maxRecDepth 20000 in
theorem dc_108 {c : ByteArray} {pc : Nat} (h : gP1 c pc 108 = true) : decode c pc = .ok (.idiv, 1) := gDec ((gBnd (gP1_s h)).trans rfl)
set_option maxRecDepth 20000 in
theorem dc_109 {c : ByteArray} {pc : Nat} (h : gP1 c pc 109 = true) : decode c pc = .ok (.ldiv, 1) := gDec ((gBnd (gP1_s h)).trans rfl)
set_option maxRecDepth 20000 in
theorem dc_112 {c : ByteArray} {pc : Nat} (h : gP1 c pc 112 = true) : decode c pc = .ok (.irem, 1) := gDec ((gBnd (gP1_s h)).trans rfl)
set_option maxRecDepth 20000 in
theorem dc_113 {c : ByteArray} {pc : Nat} (h : gP1 c pc 113 = true) : decode c pc = .ok (.lrem, 1) := gDec ((gBnd (gP1_s h)).trans rfl)
set_option maxRecDepth 20000 in
theorem dc_120 {c : ByteArray} {pc : Nat} (h : gP1 c pc 120 = true) : decode c pc = .ok (.ishl, 1) := gDec ((gBnd (gP1_s h)).trans rfl)
set_option maxRecDepth 20000 in
theorem dc_121 {c : ByteArray} {pc : Nat} (h : gP1 c pc 121 = true) : decode c pc = .ok (.lshl, 1) := gDec ((gBnd (gP1_s h)).trans rfl)
set_option maxRecDepth 20000 in
theorem dc_122 {c : ByteArray} {pc : Nat} (h : gP1 c pc 122 = true) : decode c pc = .ok (.ishr, 1) := gDec ((gBnd (gP1_s h)).trans rfl)
set_option maxRecDepth 20000 in
theorem dc_123 {c : ByteArray} {pc : Nat} (h : gP1 c pc 123 = true) : decode c pc = .ok (.lshr, 1) := gDec ((gBnd (gP1_s h)).trans rfl)
set_option maxRecDepth 20000 in
theorem dc_124 {c : ByteArray} {pc : Nat} (h : gP1 c pc 124 = true) : decode c pc = .ok (.iushr, 1) := gDec ((gBnd (gP1_s h)).trans rfl)
set_option maxRecDepth 20000 in
theorem dc_125 {c : ByteArray} {pc : Nat} (h : gP1 c pc 125 = true) : decode c pc = .ok (.lushr, 1) := gDec ((gBnd (gP1_s h)).trans rfl)
set_option maxRecDepth 20000 in
theorem dc_126 {c : ByteArray} {pc : Nat} (h : gP1 c pc 126 = true) : decode c pc = .ok (.iand, 1) := gDec ((gBnd (gP1_s h)).trans rfl)
set_option maxRecDepth 20000 in
theorem dc_127 {c : ByteArray} {pc : Nat} (h : gP1 c pc 127 = true) : decode c pc = .ok (.land, 1) := gDec ((gBnd (gP1_s h)).trans rfl)
set_option maxRecDepth 20000 in
theorem dc_128 {c : ByteArray} {pc : Nat} (h : gP1 c pc 128 = true) : decode c pc = .ok (.ior, 1) := gDec ((gBnd (gP1_s h)).trans rfl)
set_option maxRecDepth 20000 in
theorem dc_129 {c : ByteArray} {pc : Nat} (h : gP1 c pc 129 = true) : decode c pc = .ok (.lor, 1) := gDec ((gBnd (gP1_s h)).trans rfl)
set_option maxRecDepth 20000 in
theorem dc_130 {c : ByteArray} {pc : Nat} (h : gP1 c pc 130 = true) : decode c pc = .ok (.ixor, 1) := gDec ((gBnd (gP1_s h)).trans rfl)
set_option maxRecDepth 20000 in
theorem dc_131 {c : ByteArray} {pc : Nat} (h : gP1 c pc 131 = true) : decode c pc = .ok (.lxor, 1) := gDec ((gBnd (gP1_s h)).trans rfl)
set_option maxRecDepth 20000 in
theorem dc_133 {c : ByteArray} {pc : Nat} (h : gP1 c pc 133 = true) : decode c pc = .ok (.i2l, 1) := gDec ((gBnd (gP1_s h)).trans rfl)
set_option maxRecDepth 20000 in
theorem dc_136 {c : ByteArray} {pc : Nat} (h : gP1 c pc 136 = true) : decode c pc = .ok (.l2i, 1) := gDec ((gBnd (gP1_s h)).trans rfl)
set_option maxRecDepth 20000 in
theorem dc_145 {c : ByteArray} {pc : Nat} (h : gP1 c pc 145 = true) : decode c pc = .ok (.i2b, 1) := gDec ((gBnd (gP1_s h)).trans rfl)
set_option maxRecDepth 20000 in
theorem dc_146 {c : ByteArray} {pc : Nat} (h : gP1 c pc 146 = true) : decode c pc = .ok (.i2c, 1) := gDec ((gBnd (gP1_s h)).trans rfl)
set_option maxRecDepth 20000 in
theorem dc_148 {c : ByteArray} {pc : Nat} (h : gP1 c pc 148 = true) : decode c pc = .ok (.lcmp, 1) := gDec ((gBnd (gP1_s h)).trans rfl)
set_option maxRecDepth 20000 in
theorem dc_172 {c : ByteArray} {pc : Nat} (h : gP1 c pc 172 = true) : decode c pc = .ok (.ireturn, 1) := gDec ((gBnd (gP1_s h)).trans rfl)
set_option maxRecDepth 20000 in
theorem dc_173 {c : ByteArray} {pc : Nat} (h : gP1 c pc 173 = true) : decode c pc = .ok (.lreturn, 1) := gDec ((gBnd (gP1_s h)).trans rfl)
set_option maxRecDepth 20000 in
theorem dc_176 {c : ByteArray} {pc : Nat} (h : gP1 c pc 176 = true) : decode c pc = .ok (.areturn, 1) := gDec ((gBnd (gP1_s h)).trans rfl)
set_option maxRecDepth 20000 in
theorem dc_177 {c : ByteArray} {pc : Nat} (h : gP1 c pc 177 = true) : decode c pc = .ok (.return_, 1) := gDec ((gBnd (gP1_s h)).trans rfl)
set_option maxRecDepth 20000 in
theorem dc_190 {c : ByteArray} {pc : Nat} (h : gP1 c pc 190 = true) : decode c pc = .ok (.arraylength, 1) := gDec ((gBnd (gP1_s h)).trans rfl)
set_option maxRecDepth 20000 in
theorem dc_26 {c : ByteArray} {pc : Nat} (h : gP1 c pc 26 = true) : decode c pc = .ok (.iload_n 0, 1) := gDec ((gBnd (gP1_s h)).trans rfl)
set_option maxRecDepth 20000 in
theorem dc_27 {c : ByteArray} {pc : Nat} (h : gP1 c pc 27 = true) : decode c pc = .ok (.iload_n 1, 1) := gDec ((gBnd (gP1_s h)).trans rfl)
set_option maxRecDepth 20000 in
theorem dc_28 {c : ByteArray} {pc : Nat} (h : gP1 c pc 28 = true) : decode c pc = .ok (.iload_n 2, 1) := gDec ((gBnd (gP1_s h)).trans rfl)
set_option maxRecDepth 20000 in
theorem dc_29 {c : ByteArray} {pc : Nat} (h : gP1 c pc 29 = true) : decode c pc = .ok (.iload_n 3, 1) := gDec ((gBnd (gP1_s h)).trans rfl)
set_option maxRecDepth 20000 in
theorem dc_30 {c : ByteArray} {pc : Nat} (h : gP1 c pc 30 = true) : decode c pc = .ok (.lload_n 0, 1) := gDec ((gBnd (gP1_s h)).trans rfl)
set_option maxRecDepth 20000 in
theorem dc_31 {c : ByteArray} {pc : Nat} (h : gP1 c pc 31 = true) : decode c pc = .ok (.lload_n 1, 1) := gDec ((gBnd (gP1_s h)).trans rfl)
set_option maxRecDepth 20000 in
theorem dc_32 {c : ByteArray} {pc : Nat} (h : gP1 c pc 32 = true) : decode c pc = .ok (.lload_n 2, 1) := gDec ((gBnd (gP1_s h)).trans rfl)
set_option maxRecDepth 20000 in
theorem dc_33 {c : ByteArray} {pc : Nat} (h : gP1 c pc 33 = true) : decode c pc = .ok (.lload_n 3, 1) := gDec ((gBnd (gP1_s h)).trans rfl)
set_option maxRecDepth 20000 in
theorem dc_42 {c : ByteArray} {pc : Nat} (h : gP1 c pc 42 = true) : decode c pc = .ok (.aload_n 0, 1) := gDec ((gBnd (gP1_s h)).trans rfl)
set_option maxRecDepth 20000 in
theorem dc_43 {c : ByteArray} {pc : Nat} (h : gP1 c pc 43 = true) : decode c pc = .ok (.aload_n 1, 1) := gDec ((gBnd (gP1_s h)).trans rfl)
set_option maxRecDepth 20000 in
theorem dc_44 {c : ByteArray} {pc : Nat} (h : gP1 c pc 44 = true) : decode c pc = .ok (.aload_n 2, 1) := gDec ((gBnd (gP1_s h)).trans rfl)
set_option maxRecDepth 20000 in
theorem dc_45 {c : ByteArray} {pc : Nat} (h : gP1 c pc 45 = true) : decode c pc = .ok (.aload_n 3, 1) := gDec ((gBnd (gP1_s h)).trans rfl)
set_option maxRecDepth 20000 in
theorem dc_59 {c : ByteArray} {pc : Nat} (h : gP1 c pc 59 = true) : decode c pc = .ok (.istore_n 0, 1) := gDec ((gBnd (gP1_s h)).trans rfl)
set_option maxRecDepth 20000 in
theorem dc_60 {c : ByteArray} {pc : Nat} (h : gP1 c pc 60 = true) : decode c pc = .ok (.istore_n 1, 1) := gDec ((gBnd (gP1_s h)).trans rfl)
set_option maxRecDepth 20000 in
theorem dc_61 {c : ByteArray} {pc : Nat} (h : gP1 c pc 61 = true) : decode c pc = .ok (.istore_n 2, 1) := gDec ((gBnd (gP1_s h)).trans rfl)
set_option maxRecDepth 20000 in
theorem dc_62 {c : ByteArray} {pc : Nat} (h : gP1 c pc 62 = true) : decode c pc = .ok (.istore_n 3, 1) := gDec ((gBnd (gP1_s h)).trans rfl)
set_option maxRecDepth 20000 in
theorem dc_63 {c : ByteArray} {pc : Nat} (h : gP1 c pc 63 = true) : decode c pc = .ok (.lstore_n 0, 1) := gDec ((gBnd (gP1_s h)).trans rfl)
set_option maxRecDepth 20000 in
theorem dc_64 {c : ByteArray} {pc : Nat} (h : gP1 c pc 64 = true) : decode c pc = .ok (.lstore_n 1, 1) := gDec ((gBnd (gP1_s h)).trans rfl)
set_option maxRecDepth 20000 in
theorem dc_65 {c : ByteArray} {pc : Nat} (h : gP1 c pc 65 = true) : decode c pc = .ok (.lstore_n 2, 1) := gDec ((gBnd (gP1_s h)).trans rfl)
set_option maxRecDepth 20000 in
theorem dc_66 {c : ByteArray} {pc : Nat} (h : gP1 c pc 66 = true) : decode c pc = .ok (.lstore_n 3, 1) := gDec ((gBnd (gP1_s h)).trans rfl)
set_option maxRecDepth 20000 in
theorem dc_75 {c : ByteArray} {pc : Nat} (h : gP1 c pc 75 = true) : decode c pc = .ok (.astore_n 0, 1) := gDec ((gBnd (gP1_s h)).trans rfl)
set_option maxRecDepth 20000 in
theorem dc_76 {c : ByteArray} {pc : Nat} (h : gP1 c pc 76 = true) : decode c pc = .ok (.astore_n 1, 1) := gDec ((gBnd (gP1_s h)).trans rfl)
set_option maxRecDepth 20000 in
theorem dc_77 {c : ByteArray} {pc : Nat} (h : gP1 c pc 77 = true) : decode c pc = .ok (.astore_n 2, 1) := gDec ((gBnd (gP1_s h)).trans rfl)
set_option maxRecDepth 20000 in
theorem dc_78 {c : ByteArray} {pc : Nat} (h : gP1 c pc 78 = true) : decode c pc = .ok (.astore_n 3, 1) := gDec ((gBnd (gP1_s h)).trans rfl)
set_option maxRecDepth 20000 in
theorem dc_2 {c : ByteArray} {pc : Nat} (h : gP1 c pc 2 = true) : decode c pc = .ok (.iconst (-1), 1) := gDec ((gBnd (gP1_s h)).trans rfl)
set_option maxRecDepth 20000 in
theorem dc_3 {c : ByteArray} {pc : Nat} (h : gP1 c pc 3 = true) : decode c pc = .ok (.iconst 0, 1) := gDec ((gBnd (gP1_s h)).trans rfl)
set_option maxRecDepth 20000 in
theorem dc_4 {c : ByteArray} {pc : Nat} (h : gP1 c pc 4 = true) : decode c pc = .ok (.iconst 1, 1) := gDec ((gBnd (gP1_s h)).trans rfl)
set_option maxRecDepth 20000 in
theorem dc_5 {c : ByteArray} {pc : Nat} (h : gP1 c pc 5 = true) : decode c pc = .ok (.iconst 2, 1) := gDec ((gBnd (gP1_s h)).trans rfl)
set_option maxRecDepth 20000 in
theorem dc_6 {c : ByteArray} {pc : Nat} (h : gP1 c pc 6 = true) : decode c pc = .ok (.iconst 3, 1) := gDec ((gBnd (gP1_s h)).trans rfl)
set_option maxRecDepth 20000 in
theorem dc_7 {c : ByteArray} {pc : Nat} (h : gP1 c pc 7 = true) : decode c pc = .ok (.iconst 4, 1) := gDec ((gBnd (gP1_s h)).trans rfl)
set_option maxRecDepth 20000 in
theorem dc_8 {c : ByteArray} {pc : Nat} (h : gP1 c pc 8 = true) : decode c pc = .ok (.iconst 5, 1) := gDec ((gBnd (gP1_s h)).trans rfl)
set_option maxRecDepth 20000 in
theorem dc_9 {c : ByteArray} {pc : Nat} (h : gP1 c pc 9 = true) : decode c pc = .ok (.lconst 0, 1) := gDec ((gBnd (gP1_s h)).trans rfl)
set_option maxRecDepth 20000 in
theorem dc_10 {c : ByteArray} {pc : Nat} (h : gP1 c pc 10 = true) : decode c pc = .ok (.lconst 1, 1) := gDec ((gBnd (gP1_s h)).trans rfl)
set_option maxRecDepth 20000 in
theorem dc_21 {c : ByteArray} {pc : Nat} (x : Nat) (h : gP2 c pc 21 x = true) : decode c pc = .ok (.iload x, 2) := gDec ((gBnd (gP2_s h).1).trans (gBnd (gP2_s h).2))
set_option maxRecDepth 20000 in
theorem dc_22 {c : ByteArray} {pc : Nat} (x : Nat) (h : gP2 c pc 22 x = true) : decode c pc = .ok (.lload x, 2) := gDec ((gBnd (gP2_s h).1).trans (gBnd (gP2_s h).2))
set_option maxRecDepth 20000 in
theorem dc_25 {c : ByteArray} {pc : Nat} (x : Nat) (h : gP2 c pc 25 x = true) : decode c pc = .ok (.aload x, 2) := gDec ((gBnd (gP2_s h).1).trans (gBnd (gP2_s h).2))
set_option maxRecDepth 20000 in
theorem dc_54 {c : ByteArray} {pc : Nat} (x : Nat) (h : gP2 c pc 54 x = true) : decode c pc = .ok (.istore x, 2) := gDec ((gBnd (gP2_s h).1).trans (gBnd (gP2_s h).2))
set_option maxRecDepth 20000 in
theorem dc_55 {c : ByteArray} {pc : Nat} (x : Nat) (h : gP2 c pc 55 x = true) : decode c pc = .ok (.lstore x, 2) := gDec ((gBnd (gP2_s h).1).trans (gBnd (gP2_s h).2))
set_option maxRecDepth 20000 in
theorem dc_58 {c : ByteArray} {pc : Nat} (x : Nat) (h : gP2 c pc 58 x = true) : decode c pc = .ok (.astore x, 2) := gDec ((gBnd (gP2_s h).1).trans (gBnd (gP2_s h).2))
set_option maxRecDepth 20000 in
theorem dc_18 {c : ByteArray} {pc : Nat} (x : Nat) (h : gP2 c pc 18 x = true) : decode c pc = .ok (.ldc x, 2) := gDec ((gBnd (gP2_s h).1).trans (gBnd (gP2_s h).2))
set_option maxRecDepth 20000 in
theorem dc_19 {c : ByteArray} {pc : Nat} (x y : Nat) (h : gP3 c pc 19 x y = true) : decode c pc = .ok (.ldc_w (x * 256 + y), 3) := gDec ((gBnd (gP3_s h).1).trans (gBnd (gU2 (gP3_s h).2.1 (gP3_s h).2.2)))
set_option maxRecDepth 20000 in
theorem dc_20 {c : ByteArray} {pc : Nat} (x y : Nat) (h : gP3 c pc 20 x y = true) : decode c pc = .ok (.ldc2_w (x * 256 + y), 3) := gDec ((gBnd (gP3_s h).1).trans (gBnd (gU2 (gP3_s h).2.1 (gP3_s h).2.2)))
set_option maxRecDepth 20000 in
theorem dc_178 {c : ByteArray} {pc : Nat} (x y : Nat) (h : gP3 c pc 178 x y = true) : decode c pc = .ok (.getstatic (x * 256 + y), 3) := gDec ((gBnd (gP3_s h).1).trans (gBnd (gU2 (gP3_s h).2.1 (gP3_s h).2.2)))
set_option maxRecDepth 20000 in
theorem dc_179 {c : ByteArray} {pc : Nat} (x y : Nat) (h : gP3 c pc 179 x y = true) : decode c pc = .ok (.putstatic (x * 256 + y), 3) := gDec ((gBnd (gP3_s h).1).trans (gBnd (gU2 (gP3_s h).2.1 (gP3_s h).2.2)))
set_option maxRecDepth 20000 in
theorem dc_180 {c : ByteArray} {pc : Nat} (x y : Nat) (h : gP3 c pc 180 x y = true) : decode c pc = .ok (.getfield (x * 256 + y), 3) := gDec ((gBnd (gP3_s h).1).trans (gBnd (gU2 (gP3_s h).2.1 (gP3_s h).2.2)))
set_option maxRecDepth 20000 in
theorem dc_181 {c : ByteArray} {pc : Nat} (x y : Nat) (h : gP3 c pc 181 x y = true) : decode c pc = .ok (.putfield (x * 256 + y), 3) := gDec ((gBnd (gP3_s h).1).trans (gBnd (gU2 (gP3_s h).2.1 (gP3_s h).2.2)))
set_option maxRecDepth 20000 in
theorem dc_182 {c : ByteArray} {pc : Nat} (x y : Nat) (h : gP3 c pc 182 x y = true) : decode c pc = .ok (.invokevirtual (x * 256 + y), 3) := gDec ((gBnd (gP3_s h).1).trans (gBnd (gU2 (gP3_s h).2.1 (gP3_s h).2.2)))
set_option maxRecDepth 20000 in
theorem dc_183 {c : ByteArray} {pc : Nat} (x y : Nat) (h : gP3 c pc 183 x y = true) : decode c pc = .ok (.invokespecial (x * 256 + y), 3) := gDec ((gBnd (gP3_s h).1).trans (gBnd (gU2 (gP3_s h).2.1 (gP3_s h).2.2)))
set_option maxRecDepth 20000 in
theorem dc_184 {c : ByteArray} {pc : Nat} (x y : Nat) (h : gP3 c pc 184 x y = true) : decode c pc = .ok (.invokestatic (x * 256 + y), 3) := gDec ((gBnd (gP3_s h).1).trans (gBnd (gU2 (gP3_s h).2.1 (gP3_s h).2.2)))
set_option maxRecDepth 20000 in
theorem dc_187 {c : ByteArray} {pc : Nat} (x y : Nat) (h : gP3 c pc 187 x y = true) : decode c pc = .ok (.new (x * 256 + y), 3) := gDec ((gBnd (gP3_s h).1).trans (gBnd (gU2 (gP3_s h).2.1 (gP3_s h).2.2)))
set_option maxRecDepth 20000 in
theorem dc_189 {c : ByteArray} {pc : Nat} (x y : Nat) (h : gP3 c pc 189 x y = true) : decode c pc = .ok (.anewarray (x * 256 + y), 3) := gDec ((gBnd (gP3_s h).1).trans (gBnd (gU2 (gP3_s h).2.1 (gP3_s h).2.2)))
set_option maxRecDepth 20000 in
theorem dc_17 {c : ByteArray} {pc : Nat} (x y : Nat) (z : Int) (h : and (gP3 c pc 17 x y) (gSg 16 (x * 256 + y) z) = true) : decode c pc = .ok (.sipush z, 3) := by
  have h := Eq.mp (Bool.and_eq_true _ _) h; rw [← of_decide_eq_true h.2]; exact gDec ((gBnd (gP3_s h.1).1).trans (gBnd (gMp (gU2 (gP3_s h.1).2.1 (gP3_s h.1).2.2))))
set_option maxRecDepth 20000 in
theorem dc_167 {c : ByteArray} {pc : Nat} (x y : Nat) (z : Int) (h : and (gP3 c pc 167 x y) (gSg 16 (x * 256 + y) z) = true) : decode c pc = .ok (.goto z, 3) := by
  have h := Eq.mp (Bool.and_eq_true _ _) h; rw [← of_decide_eq_true h.2]; exact gDec ((gBnd (gP3_s h.1).1).trans (gBnd (gMp (gU2 (gP3_s h.1).2.1 (gP3_s h.1).2.2))))
set_option maxRecDepth 20000 in
theorem dc_198 {c : ByteArray} {pc : Nat} (x y : Nat) (z : Int) (h : and (gP3 c pc 198 x y) (gSg 16 (x * 256 + y) z) = true) : decode c pc = .ok (.ifnull z, 3) := by
  have h := Eq.mp (Bool.and_eq_true _ _) h; rw [← of_decide_eq_true h.2]; exact gDec ((gBnd (gP3_s h.1).1).trans (gBnd (gMp (gU2 (gP3_s h.1).2.1 (gP3_s h.1).2.2))))
set_option maxRecDepth 20000 in
theorem dc_199 {c : ByteArray} {pc : Nat} (x y : Nat) (z : Int) (h : and (gP3 c pc 199 x y) (gSg 16 (x * 256 + y) z) = true) : decode c pc = .ok (.ifnonnull z, 3) := by
  have h := Eq.mp (Bool.and_eq_true _ _) h; rw [← of_decide_eq_true h.2]; exact gDec ((gBnd (gP3_s h.1).1).trans (gBnd (gMp (gU2 (gP3_s h.1).2.1 (gP3_s h.1).2.2))))
set_option maxRecDepth 20000 in
theorem dc_153 {c : ByteArray} {pc : Nat} (x y : Nat) (z : Int) (h : and (gP3 c pc 153 x y) (gSg 16 (x * 256 + y) z) = true) : decode c pc = .ok (.ifCond .eq z, 3) := by
  have h := Eq.mp (Bool.and_eq_true _ _) h; rw [← of_decide_eq_true h.2]; exact gDec ((gBnd (gP3_s h.1).1).trans (gBnd (gMp (gU2 (gP3_s h.1).2.1 (gP3_s h.1).2.2))))
set_option maxRecDepth 20000 in
theorem dc_154 {c : ByteArray} {pc : Nat} (x y : Nat) (z : Int) (h : and (gP3 c pc 154 x y) (gSg 16 (x * 256 + y) z) = true) : decode c pc = .ok (.ifCond .ne z, 3) := by
  have h := Eq.mp (Bool.and_eq_true _ _) h; rw [← of_decide_eq_true h.2]; exact gDec ((gBnd (gP3_s h.1).1).trans (gBnd (gMp (gU2 (gP3_s h.1).2.1 (gP3_s h.1).2.2))))
set_option maxRecDepth 20000 in
theorem dc_155 {c : ByteArray} {pc : Nat} (x y : Nat) (z : Int) (h : and (gP3 c pc 155 x y) (gSg 16 (x * 256 + y) z) = true) : decode c pc = .ok (.ifCond .lt z, 3) := by
  have h := Eq.mp (Bool.and_eq_true _ _) h; rw [← of_decide_eq_true h.2]; exact gDec ((gBnd (gP3_s h.1).1).trans (gBnd (gMp (gU2 (gP3_s h.1).2.1 (gP3_s h.1).2.2))))
set_option maxRecDepth 20000 in
theorem dc_156 {c : ByteArray} {pc : Nat} (x y : Nat) (z : Int) (h : and (gP3 c pc 156 x y) (gSg 16 (x * 256 + y) z) = true) : decode c pc = .ok (.ifCond .ge z, 3) := by
  have h := Eq.mp (Bool.and_eq_true _ _) h; rw [← of_decide_eq_true h.2]; exact gDec ((gBnd (gP3_s h.1).1).trans (gBnd (gMp (gU2 (gP3_s h.1).2.1 (gP3_s h.1).2.2))))
set_option maxRecDepth 20000 in
theorem dc_157 {c : ByteArray} {pc : Nat} (x y : Nat) (z : Int) (h : and (gP3 c pc 157 x y) (gSg 16 (x * 256 + y) z) = true) : decode c pc = .ok (.ifCond .gt z, 3) := by
  have h := Eq.mp (Bool.and_eq_true _ _) h; rw [← of_decide_eq_true h.2]; exact gDec ((gBnd (gP3_s h.1).1).trans (gBnd (gMp (gU2 (gP3_s h.1).2.1 (gP3_s h.1).2.2))))
set_option maxRecDepth 20000 in
theorem dc_158 {c : ByteArray} {pc : Nat} (x y : Nat) (z : Int) (h : and (gP3 c pc 158 x y) (gSg 16 (x * 256 + y) z) = true) : decode c pc = .ok (.ifCond .le z, 3) := by
  have h := Eq.mp (Bool.and_eq_true _ _) h; rw [← of_decide_eq_true h.2]; exact gDec ((gBnd (gP3_s h.1).1).trans (gBnd (gMp (gU2 (gP3_s h.1).2.1 (gP3_s h.1).2.2))))
set_option maxRecDepth 20000 in
theorem dc_159 {c : ByteArray} {pc : Nat} (x y : Nat) (z : Int) (h : and (gP3 c pc 159 x y) (gSg 16 (x * 256 + y) z) = true) : decode c pc = .ok (.if_icmp .eq z, 3) := by
  have h := Eq.mp (Bool.and_eq_true _ _) h; rw [← of_decide_eq_true h.2]; exact gDec ((gBnd (gP3_s h.1).1).trans (gBnd (gMp (gU2 (gP3_s h.1).2.1 (gP3_s h.1).2.2))))
set_option maxRecDepth 20000 in
theorem dc_160 {c : ByteArray} {pc : Nat} (x y : Nat) (z : Int) (h : and (gP3 c pc 160 x y) (gSg 16 (x * 256 + y) z) = true) : decode c pc = .ok (.if_icmp .ne z, 3) := by
  have h := Eq.mp (Bool.and_eq_true _ _) h; rw [← of_decide_eq_true h.2]; exact gDec ((gBnd (gP3_s h.1).1).trans (gBnd (gMp (gU2 (gP3_s h.1).2.1 (gP3_s h.1).2.2))))
set_option maxRecDepth 20000 in
theorem dc_161 {c : ByteArray} {pc : Nat} (x y : Nat) (z : Int) (h : and (gP3 c pc 161 x y) (gSg 16 (x * 256 + y) z) = true) : decode c pc = .ok (.if_icmp .lt z, 3) := by
  have h := Eq.mp (Bool.and_eq_true _ _) h; rw [← of_decide_eq_true h.2]; exact gDec ((gBnd (gP3_s h.1).1).trans (gBnd (gMp (gU2 (gP3_s h.1).2.1 (gP3_s h.1).2.2))))
set_option maxRecDepth 20000 in
theorem dc_162 {c : ByteArray} {pc : Nat} (x y : Nat) (z : Int) (h : and (gP3 c pc 162 x y) (gSg 16 (x * 256 + y) z) = true) : decode c pc = .ok (.if_icmp .ge z, 3) := by
  have h := Eq.mp (Bool.and_eq_true _ _) h; rw [← of_decide_eq_true h.2]; exact gDec ((gBnd (gP3_s h.1).1).trans (gBnd (gMp (gU2 (gP3_s h.1).2.1 (gP3_s h.1).2.2))))
set_option maxRecDepth 20000 in
theorem dc_163 {c : ByteArray} {pc : Nat} (x y : Nat) (z : Int) (h : and (gP3 c pc 163 x y) (gSg 16 (x * 256 + y) z) = true) : decode c pc = .ok (.if_icmp .gt z, 3) := by
  have h := Eq.mp (Bool.and_eq_true _ _) h; rw [← of_decide_eq_true h.2]; exact gDec ((gBnd (gP3_s h.1).1).trans (gBnd (gMp (gU2 (gP3_s h.1).2.1 (gP3_s h.1).2.2))))
set_option maxRecDepth 20000 in
theorem dc_164 {c : ByteArray} {pc : Nat} (x y : Nat) (z : Int) (h : and (gP3 c pc 164 x y) (gSg 16 (x * 256 + y) z) = true) : decode c pc = .ok (.if_icmp .le z, 3) := by
  have h := Eq.mp (Bool.and_eq_true _ _) h; rw [← of_decide_eq_true h.2]; exact gDec ((gBnd (gP3_s h.1).1).trans (gBnd (gMp (gU2 (gP3_s h.1).2.1 (gP3_s h.1).2.2))))
set_option maxRecDepth 20000 in
theorem dc_16 {c : ByteArray} {pc : Nat} (x : Nat) (z : Int) (h : and (gP2 c pc 16 x) (gSg 8 x z) = true) : decode c pc = .ok (.bipush z, 2) := by
  have h := Eq.mp (Bool.and_eq_true _ _) h; rw [← of_decide_eq_true h.2]; exact gDec ((gBnd (gP2_s h.1).1).trans (gBnd (gMp (gP2_s h.1).2)))
set_option maxRecDepth 20000 in
theorem dc_132 {c : ByteArray} {pc : Nat} (x y : Nat) (z : Int) (h : and (gP3 c pc 132 x y) (gSg 8 y z) = true) : decode c pc = .ok (.iinc x z, 3) := by
  have h := Eq.mp (Bool.and_eq_true _ _) h; rw [← of_decide_eq_true h.2]; exact gDec ((gBnd (gP3_s h.1).1).trans ((gBnd (gP3_s h.1).2.1).trans (gBnd (gMp (gP3_s h.1).2.2))))
