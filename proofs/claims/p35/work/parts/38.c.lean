/-- bits -/
def gsU (k a : Int) : Int := (((Int32.ofInt a).toUInt32 >>> ((Int32.ofInt k).toUInt32 &&& Int32.toUInt32 31)).toInt32).toInt
def gsA (a b : Int) : Int := (Int32.ofInt a &&& Int32.ofInt b).toInt
def gw32 (a : Int) : Int := (Int32.ofInt a).toInt
def gPop (a : Int) : Int := gsA ((fun x => gw32 (x + gsU 16 x)) ((fun x => gw32 (x + gsU 8 x)) ((fun x => gsA (gw32 (x + gsU 4 x)) 252645135) ((fun x => gsA x 858993459 + gsA (gsU 2 x) 858993459) (gw32 (a - gsA (gsU 1 a) 1431655765)))))) 63
theorem gi_inv {E : Int32} {v : Int} (h : E = Int32.ofInt v) (hv : -2147483648 ≤ v ∧ v ≤ 2147483647) : v = E.toInt := by rw [h]; exact (gi_toInt hv).symm
def gPs (a : Int) : Nat → Int
  | 0 => 0
  | k + 1 => gPs a k + gSel a (k : Int)
theorem gPs_s {a k : Int} (h : 0 ≤ k) : gPs a (k + 1).toNat = gPs a k.toNat + gSel a k := by
  rw [show (k + 1).toNat = k.toNat + 1 by omega]
  show gPs a k.toNat + gSel a (k.toNat : Int) = _
  rw [show (k.toNat : Int) = k by omega]
theorem gPop_N : ∀ n : Nat, n < 256 → gPop (n : Int) = gPs (n : Int) 16 := by decide +kernel
theorem gPop_eq {a : Int} (h : 0 ≤ a ∧ a ≤ 255) : gPop a = gPs a 16 := by
  have q := gPop_N a.toNat (by omega)
  rw [show (a.toNat : Int) = a by omega] at q
  exact q
theorem gSel_N : ∀ n : Nat, n < 256 → ∀ b : Nat, b < 8 → gSel (n : Int) (b : Int) = 0 ∨ gSel (n : Int) (b : Int) = 1 := by decide +kernel
theorem gSum_N : ∀ n : Nat, n < 256 → (n : Int) = gSel (n : Int) 0 + 2 * gSel (n : Int) 1 + 4 * gSel (n : Int) 2 + 8 * gSel (n : Int) 3 + 16 * gSel (n : Int) 4 + 32 * gSel (n : Int) 5 + 64 * gSel (n : Int) 6 + 128 * gSel (n : Int) 7 := by decide +kernel
theorem gBits {v w : Int} (hv : 0 ≤ v ∧ v ≤ 255) (hw : 0 ≤ w ∧ w ≤ 255) (h : ∀ b : Int, 0 ≤ b → b < 8 → (gSel v b = 1 ↔ gSel w b = 1)) : v = w := by
  have e1 := gSum_N v.toNat (by omega)
  have e2 := gSum_N w.toNat (by omega)
  have s1 := gSel_N v.toNat (by omega)
  have s2 := gSel_N w.toNat (by omega)
  rw [show (v.toNat : Int) = v by omega] at e1 s1
  rw [show (w.toNat : Int) = w by omega] at e2 s2
  have c : ∀ b : Nat, b < 8 → gSel v (b : Int) = gSel w (b : Int) := by
    intro b hb
    have i := h b (by omega) (by omega)
    rcases s1 b hb with p | p <;> rcases s2 b hb with q | q
    · rw [p, q]
    · have := i.mpr q; omega
    · have := i.mp p; omega
    · rw [p, q]
  have c0 : gSel v 0 = gSel w 0 := c 0 (by decide)
  have c1 : gSel v 1 = gSel w 1 := c 1 (by decide)
  have c2 : gSel v 2 = gSel w 2 := c 2 (by decide)
  have c3 : gSel v 3 = gSel w 3 := c 3 (by decide)
  have c4 : gSel v 4 = gSel w 4 := c 4 (by decide)
  have c5 : gSel v 5 = gSel w 5 := c 5 (by decide)
  have c6 : gSel v 6 = gSel w 6 := c 6 (by decide)
  have c7 : gSel v 7 = gSel w 7 := c 7 (by decide)
  rw [e1, e2]
  omega
theorem gOr_N : ∀ s : Nat, s < 256 → ∀ b : Nat, b < 8 → (0 ≤ (Int32.ofInt (s : Int) ||| (Int32.ofInt 1 <<< (Int32.ofInt (b : Int) &&& 31))).toInt ∧ (Int32.ofInt (s : Int) ||| (Int32.ofInt 1 <<< (Int32.ofInt (b : Int) &&& 31))).toInt ≤ 255) ∧ ∀ c : Nat, c < 8 → (gSel (Int32.ofInt (s : Int) ||| (Int32.ofInt 1 <<< (Int32.ofInt (b : Int) &&& 31))).toInt (c : Int) = 1 ↔ gSel (s : Int) (c : Int) = 1 ∨ c = b) := by decide +kernel
/-- the names that were seen -/
def gSn (N : Int → Int) (n v : Int) : Prop := (0 ≤ v ∧ v ≤ 255) ∧ ∀ b : Int, 0 ≤ b → b < 8 → (gSel v b = 1 ↔ ∃ i : Int, (0 ≤ i ∧ i < n) ∧ N i = b)
theorem gSn.z {N : Int → Int} {n v : Int} (h : n = 0) (hv : v = 0) : gSn N n v := by
  subst hv
  refine ⟨by decide, fun b h0 h1 => ⟨fun q => ?_, fun ⟨i, hi, _⟩ => by omega⟩⟩
  rcases (by omega : b = 0 ∨ b = 1 ∨ b = 2 ∨ b = 3 ∨ b = 4 ∨ b = 5 ∨ b = 6 ∨ b = 7) with rfl | rfl | rfl | rfl | rfl | rfl | rfl | rfl <;> exact absurd q (by decide +kernel)
theorem gSn.s {N : Int → Int} {n n1 s x v w : Int} (h : gSn N n s) (h0 : 0 ≤ n) (hx : N n = x) (x0 : 0 ≤ x ∧ x ≤ 7) (h1 : Int32.ofInt 1 <<< (Int32.ofInt x &&& 31) = Int32.ofInt v) (h2 : Int32.ofInt s ||| Int32.ofInt v = Int32.ofInt w) (hw : -2147483648 ≤ w ∧ w ≤ 2147483647) (e : n1 = n + 1) : gSn N n1 w := by
  have q := gOr_N s.toNat (by have := h.1; omega) x.toNat (by omega)
  rw [show (s.toNat : Int) = s by have := h.1; omega, show (x.toNat : Int) = x by omega, h1, h2, gi_toInt hw] at q
  refine ⟨q.1, fun b b0 b1 => ?_⟩
  have q2 := q.2 b.toNat (by omega)
  rw [show (b.toNat : Int) = b by omega] at q2
  refine q2.trans ⟨fun t => ?_, fun ⟨i, hi, hn⟩ => ?_⟩
  · rcases t with t | t
    · obtain ⟨i, hi, hn⟩ := (h.2 b b0 b1).mp t
      exact ⟨i, by omega, hn⟩
    · exact ⟨n, by omega, by omega⟩
  · by_cases g : i = n
    · rw [g, hx] at hn; exact Or.inr (by omega)
    · exact Or.inl ((h.2 b b0 b1).mpr ⟨i, by omega, hn⟩)
/-- the best set so far -/
def gBst (C : Int → Int → Prop) : Nat → Int → Prop
  | 0, b => b = 0
  | k + 1, b => ∃ b0 : Int, gBst C k b0 ∧ ((C (k : Int) b0 ∧ b = (k : Int)) ∨ (¬ C (k : Int) b0 ∧ b = b0))
theorem gBst.take {C : Int → Int → Prop} {k k1 b b1 : Int} (h : gBst C k.toNat b) (h0 : 0 ≤ k) (c : C k b) (e : k1 = k + 1) (hb : b1 = k) : gBst C k1.toNat b1 := by
  subst e; subst hb
  rw [show (b1 + 1).toNat = b1.toNat + 1 by omega]
  exact ⟨b, h, Or.inl ⟨by rw [show (b1.toNat : Int) = b1 by omega]; exact c, by omega⟩⟩
theorem gBst.skip {C : Int → Int → Prop} {k k1 b b1 : Int} (h : gBst C k.toNat b) (h0 : 0 ≤ k) (c : ¬ C k b) (e : k1 = k + 1) (hb : b1 = b) : gBst C k1.toNat b1 := by
  subst e; subst hb
  rw [show (k + 1).toNat = k.toNat + 1 by omega]
  exact ⟨b1, h, Or.inr ⟨by rw [show (k.toNat : Int) = k by omega]; exact c, rfl⟩⟩
theorem gBst.eq {C C2 : Int → Int → Prop} : ∀ (n : Nat), n ≤ 256 → (∀ k b : Int, 0 ≤ k → k ≤ 255 → (C k b ↔ C2 k b)) → ∀ b b2 : Int, gBst C n b → gBst C2 n b2 → b = b2 := by
  intro n
  induction n with
  | zero => intro _ _ b b2 h h2; exact (show b = 0 from h).trans (show b2 = 0 from h2).symm
  | succ n ih =>
    intro hn hc b b2 h h2
    obtain ⟨b0, g, r⟩ := h
    obtain ⟨c0, g2, r2⟩ := h2
    have e := ih (by omega) hc b0 c0 g g2
    subst e
    have i := hc (n : Int) b0 (by omega) (by omega)
    rcases r with ⟨r, e1⟩ | ⟨r, e1⟩ <;> rcases r2 with ⟨r2, e2⟩ | ⟨r2, e2⟩
    · rw [e1, e2]
    · exact absurd (i.mp r) r2
    · exact absurd (i.mpr r2) r
    · rw [e1, e2]
def gSub (k s : Int) : Int := (Int32.ofInt k &&& (Int32.ofInt s ^^^ Int32.ofInt (-1))).toInt
def gCan (s : Int) (One : Int → Prop) (k b : Int) : Prop := gSub k s = 0 ∧ 1 < gPs k 16 ∧ gPs b 16 < gPs k 16 ∧ One k
abbrev R_s_J_bit2 : Room := { frames := 0, cells := 0, slots := 0, locals := 0 }
set_option maxRecDepth 100000 in
set_option maxHeartbeats 4000000 in
theorem s_J_bit2 {l : Launch} {n0 : Nat} {D : va_G} {cA : Nat → ClassId} {M : gM} (a : Int) (r_a : 0 ≤ a ∧ a ≤ 255) {sz : Nat} (hsz : 206 ≤ sz) (I : gI sz M) (C : gC sz M)   : Met l yJ_bit (gWsOf yJ_bit cJ_bit 1 (Option.some Jvm.ClassFile.FieldType.int)) R_s_J_bit2 (gPc n0 D cA [gJ a] M sz) (gQi n0 D cA sz (fun z M1 => M = M1 ∧ (0 ≤ z ∧ z ≤ 63) ∧ (z = gPop a))) 0 0 (fun q => n0 ≤ q) := by
  refine gMetI [gJ a] (by decide) (Nat.le_of_ble_eq_true rfl) ⟨rfl, rfl⟩ ?_
  intro p e s m args below meth cd Q X hq
  have X : gCx p s m args meth cd n0 D cA "java/lang/Integer" cJ_bit 1 := X
  show G p l e R_s_J_bit2 s m args below meth cd n0 D cA 1 Q 0 0 M sz 0 [(0, gJ a)] []
  refine g_iload_n (n := 1) X 0 dJ_bit_0 rfl rfl rfl ?_
  refine g_iload_n (n := 2) X 0 dJ_bit_1 rfl rfl rfl ?_
  refine g_iconst (n := 3) X dJ_bit_2 rfl ?_
  refine g_iushrA (n := 4) X dJ_bit_3 rfl (fun v1 rv1 xv1 => ?_)
  have ev1 : v1 = gsU 1 a := by unfold gsU; exact gi_inv xv1 rv1
  refine g_ldcw (n := 7) (z := 1431655765) X dJ_bit_4 kw_3_188 (by decide +kernel) rfl ?_
  refine g_iandC (n := 8) X dJ_bit_7 (by decide) rfl (fun v2 rv2 xv2 => ?_)
  have ev2 : v2 = gsA v1 1431655765 := by unfold gsA; exact gi_inv xv2 ⟨by omega, by omega⟩
  refine g_isubA (n := 9) X dJ_bit_8 rfl (fun v3 rv3 xv3 => ?_)
  have ev3 : v3 = gw32 (a - v2) := by unfold gw32; exact gi_inv xv3 rv3
  refine g_istore_n (n := 10) (L' := [(0, gJ v3)]) X dJ_bit_9 rfl (by decide) rfl rfl ?_
  refine g_iload_n (n := 11) X 0 dJ_bit_10 rfl rfl rfl ?_
  refine g_ldcw (n := 14) (z := 858993459) X dJ_bit_11 kw_3_189 (by decide +kernel) rfl ?_
  refine g_iandC (n := 15) X dJ_bit_14 (by decide) rfl (fun v4 rv4 xv4 => ?_)
  have ev4 : v4 = gsA v3 858993459 := by unfold gsA; exact gi_inv xv4 ⟨by omega, by omega⟩
  refine g_iload_n (n := 16) X 0 dJ_bit_15 rfl rfl rfl ?_
  refine g_iconst (n := 17) X dJ_bit_16 rfl ?_
  refine g_iushrA (n := 18) X dJ_bit_17 rfl (fun v5 rv5 xv5 => ?_)
  have ev5 : v5 = gsU 2 v3 := by unfold gsU; exact gi_inv xv5 rv5
  refine g_ldcw (n := 21) (z := 858993459) X dJ_bit_18 kw_3_189 (by decide +kernel) rfl ?_
  refine g_iandC (n := 22) X dJ_bit_21 (by decide) rfl (fun v6 rv6 xv6 => ?_)
  have ev6 : v6 = gsA v5 858993459 := by unfold gsA; exact gi_inv xv6 ⟨by omega, by omega⟩
  refine g_iadd (n := 23) (z := v4 + v6) X dJ_bit_22 rfl rfl ?_
  refine g_istore_n (n := 24) (L' := [(0, gJ (v4 + v6))]) X dJ_bit_23 rfl (by decide) rfl rfl ?_
  refine g_iload_n (n := 25) X 0 dJ_bit_24 rfl rfl rfl ?_
  refine g_iload_n (n := 26) X 0 dJ_bit_25 rfl rfl rfl ?_
  refine g_iconst (n := 27) X dJ_bit_26 rfl ?_
  refine g_iushrA (n := 28) X dJ_bit_27 rfl (fun v7 rv7 xv7 => ?_)
  have ev7 : v7 = gsU 4 (v4 + v6) := by unfold gsU; exact gi_inv xv7 rv7
  refine g_iaddA (n := 29) X dJ_bit_28 rfl (fun v8 rv8 xv8 => ?_)
  have ev8 : v8 = gw32 ((v4 + v6) + v7) := by unfold gw32; exact gi_inv xv8 rv8
  refine g_ldcw (n := 32) (z := 252645135) X dJ_bit_29 kw_3_190 (by decide +kernel) rfl ?_
  refine g_iandC (n := 33) X dJ_bit_32 (by decide) rfl (fun v9 rv9 xv9 => ?_)
  have ev9 : v9 = gsA v8 252645135 := by unfold gsA; exact gi_inv xv9 ⟨by omega, by omega⟩
  refine g_istore_n (n := 34) (L' := [(0, gJ v9)]) X dJ_bit_33 rfl (by decide) rfl rfl ?_
  refine g_iload_n (n := 35) X 0 dJ_bit_34 rfl rfl rfl ?_
  refine g_iload_n (n := 36) X 0 dJ_bit_35 rfl rfl rfl ?_
  refine g_bipush (n := 38) X dJ_bit_36 (by decide +kernel) rfl ?_
  refine g_iushrA (n := 39) X dJ_bit_38 rfl (fun v10 rv10 xv10 => ?_)
  have ev10 : v10 = gsU 8 v9 := by unfold gsU; exact gi_inv xv10 rv10
  refine g_iaddA (n := 40) X dJ_bit_39 rfl (fun v11 rv11 xv11 => ?_)
  have ev11 : v11 = gw32 (v9 + v10) := by unfold gw32; exact gi_inv xv11 rv11
  refine g_istore_n (n := 41) (L' := [(0, gJ v11)]) X dJ_bit_40 rfl (by decide) rfl rfl ?_
  refine g_iload_n (n := 42) X 0 dJ_bit_41 rfl rfl rfl ?_
  refine g_iload_n (n := 43) X 0 dJ_bit_42 rfl rfl rfl ?_
  refine g_bipush (n := 45) X dJ_bit_43 (by decide +kernel) rfl ?_
  refine g_iushrA (n := 46) X dJ_bit_45 rfl (fun v12 rv12 xv12 => ?_)
  have ev12 : v12 = gsU 16 v11 := by unfold gsU; exact gi_inv xv12 rv12
  refine g_iaddA (n := 47) X dJ_bit_46 rfl (fun v13 rv13 xv13 => ?_)
  have ev13 : v13 = gw32 (v11 + v12) := by unfold gw32; exact gi_inv xv13 rv13
  refine g_istore_n (n := 48) (L' := [(0, gJ v13)]) X dJ_bit_47 rfl (by decide) rfl rfl ?_
  refine g_iload_n (n := 49) X 0 dJ_bit_48 rfl rfl rfl ?_
  refine g_bipush (n := 51) X dJ_bit_49 (by decide +kernel) rfl ?_
  refine g_iandC (n := 52) X dJ_bit_51 (by decide) rfl (fun v14 rv14 xv14 => ?_)
  have ev14 : v14 = gsA v13 63 := by unfold gsA; exact gi_inv xv14 ⟨by omega, by omega⟩
  exact hq _ _ _ _ dJ_bit_52 ⟨rfl, by omega, (by rw [ev14, ev13, ev12, ev11, ev10, ev9, ev8, ev7, ev6, ev5, ev4, ev3, ev2, ev1]; rfl)⟩
abbrev R_s_X12_many2 : Room := { frames := 0, cells := 0, slots := 0, locals := 0 }
set_option maxRecDepth 100000 in
set_option maxHeartbeats 4000000 in
theorem s_X12_many2 {l : Launch} {n0 : Nat} {D : va_G} {cA : Nat → ClassId} {M : gM} (a : Int) (r_a : 0 ≤ a ∧ a ≤ 255) {sz : Nat} (hsz : 206 ≤ sz) (I : gI sz M) (C : gC sz M)   : Met l yX12_many (gWsOf yX12_many cX12_many 3 (Option.some Jvm.ClassFile.FieldType.int)) R_s_X12_many2 (gPc n0 D cA [gJ a] M sz) (gQi n0 D cA sz (fun z M1 => M = M1 ∧ (0 ≤ z ∧ z ≤ 16) ∧ (z = gPs a 16))) 0 0 (fun q => n0 ≤ q) := by
  refine gMetI [gJ a] (by decide) (Nat.le_of_ble_eq_true rfl) ⟨rfl, rfl⟩ ?_
  intro p e s m args below meth cd Q X hq
  have X : gCx p s m args meth cd n0 D cA "ParishUnionModel" cX12_many 3 := X
  show G p l e R_s_X12_many2 s m args below meth cd n0 D cA 3 Q 0 0 M sz 0 [(0, gJ a)] []
  refine g_iconst (n := 1) X dX12_many_0 rfl ?_
  refine g_istore_n (n := 2) (L' := [(1, gJ 0), (0, gJ a)]) X dX12_many_1 rfl (by decide) rfl rfl ?_
  refine g_iconst (n := 3) X dX12_many_2 rfl ?_
  refine g_istore_n (n := 4) (L' := [(2, gJ 0), (1, gJ 0), (0, gJ a)]) X dX12_many_3 rfl (by decide) rfl rfl ?_
  have j4 : ∀ (N8 : Nat) (v1 v2 : Int) , (0 ≤ v1 ∧ v1 ≤ 16) → (0 ≤ v2 ∧ v2 ≤ 16) → (v1 = gPs a v2.toNat ∧ (0 ≤ v1 ∧ v1 ≤ v2)) → (16 - v2).toNat < N8 → G p l e R_s_X12_many2 s m args below meth cd n0 D cA 3 Q 0 0 M sz 4 [(0, gJ a), (1, gJ v1), (2, gJ v2)] [] := by
    intro N8; induction N8 with
    | zero => intro v1 v2 rv1 rv2 hp hm10; exfalso; omega
    | succ N8 ih9 =>
      intro v1 v2 rv1 rv2 hp hm10
      refine g_iload_n (n := 5) X 2 dX12_many_4 rfl rfl rfl ?_
      refine g_bipush (n := 7) X dX12_many_5 (by decide +kernel) rfl ?_
      refine g_icmp_ge (n := 10) (tgt := 24) X dX12_many_7 (by decide) (by omega) (by omega) rfl (fun c11 => ?_) (fun c11 => ?_)
      · refine g_iload_n (n := 25) X 1 dX12_many_24 rfl rfl rfl ?_
        exact hq _ _ _ _ dX12_many_25 ⟨rfl, by omega, (by have q := hp.1; rw [show v2 = 16 by omega] at q; exact q)⟩
      · refine g_iload_n (n := 11) X 1 dX12_many_10 rfl rfl rfl ?_
        refine g_iload_n (n := 12) X 0 dX12_many_11 rfl rfl rfl ?_
        refine g_iload_n (n := 13) X 2 dX12_many_12 rfl rfl rfl ?_
        refine g_ishrA (n := 14) X dX12_many_13 rfl (fun v12 rv12 xv12 => ?_)
        refine g_iconst (n := 15) X dX12_many_14 rfl ?_
        refine g_iandC (n := 16) X dX12_many_15 (by decide) rfl (fun v13 rv13 xv13 => ?_)
        have sv13 : v13 = gSel a v2 := gSel_of xv12 xv13 rv13
        refine g_iadd (n := 17) (z := v1 + v13) X dX12_many_16 rfl rfl ?_
        refine g_istore_n (n := 18) (L' := [(1, gJ (v1 + v13)), (0, gJ a), (2, gJ v2)]) X dX12_many_17 rfl (by decide) rfl rfl ?_
        refine g_iinc (n := 21) (w := v2 + 1) (L' := [(2, gJ (v2 + 1)), (1, gJ (v1 + v13)), (0, gJ a)]) X 2 dX12_many_18 rfl rfl (by decide) rfl rfl ?_
        refine g_goto (tgt := 4) X dX12_many_21 (by decide) ?_
        refine G.sub (L' := [(0, gJ a), (1, gJ (v1 + v13)), (2, gJ (v2 + 1))]) [2, 1, 0] rfl ?_
        exact ih9 (v1 + v13) (v2 + 1) (by omega) (by omega) ⟨by rw [gPs_s (by omega), ← sv13]; omega, by omega, by omega⟩ (by omega)
  refine G.sub (L' := [(0, gJ a), (1, gJ 0), (2, gJ 0)]) [2, 1, 0] rfl ?_
  exact j4 _ 0 0 (by omega) (by omega) ⟨rfl, by omega, by omega⟩ (Nat.lt_succ_self _)
abbrev R_s_X10_greatestSet2 : Room := { frames := 2, cells := 0, slots := 0, locals := 47 }
set_option maxRecDepth 100000 in
set_option maxHeartbeats 4000000 in
theorem s_X10_greatestSet2 {l : Launch} {n0 : Nat} {D : va_G} {cA : Nat → ClassId} {M : gM}  {sz : Nat} (hsz : 206 ≤ sz) (I : gI sz M) (C : gC sz M)   : Met l yX10_greatestSet (gWsOf yX10_greatestSet cX10_greatestSet 7 (Option.some Jvm.ClassFile.FieldType.int)) R_s_X10_greatestSet2 (gPc n0 D cA [gA n0 26, gA n0 2] M sz) (gQi n0 D cA sz (fun z M1 => M = M1 ∧ (0 ≤ z ∧ z ≤ 255) ∧ (∃ s : Int, gSn (M 27) (M 26 3) s ∧ gBst (gCan s (gOne (M 27) (M 28) (M 29) (M 4) (M 26 3))) 256 z))) 0 0 (fun q => n0 ≤ q) := by
  refine gMetI [gA n0 26, gA n0 2] (by decide) (Nat.le_of_ble_eq_true rfl) ⟨rfl, rfl⟩ ?_
  intro p e s m args below meth cd Q X hq
  have X : gCx p s m args meth cd n0 D cA "ParishUnion$Vagrants" cX10_greatestSet 7 := X
  show G p l e R_s_X10_greatestSet2 s m args below meth cd n0 D cA 7 Q 0 0 M sz 0 [(0, gA n0 26), (1, gA n0 2)] []
  obtain ⟨v1, hv1, rv1⟩ := gRd I (by decide) (gsz hsz (by decide)) rc_26_3.1
  refine g_iconst (n := 1) X dX10_greatestSet_0 rfl ?_
  refine g_istore_n (n := 2) (L' := [(2, gJ 0), (0, gA n0 26), (1, gA n0 2)]) X dX10_greatestSet_1 rfl (by decide) rfl rfl ?_
  refine g_iconst (n := 3) X dX10_greatestSet_2 rfl ?_
  refine g_istore_n (n := 4) (L' := [(3, gJ 0), (2, gJ 0), (0, gA n0 26), (1, gA n0 2)]) X dX10_greatestSet_3 rfl (by decide) rfl rfl ?_
  have j5 : ∀ (N258 : Nat) (v2 v3 : Int) , (-2147483648 ≤ v2 ∧ v2 ≤ 2147483647) → (0 ≤ v3 ∧ v3 ≤ 40) → (gSn (M 27) v3 v2 ∧ v3 ≤ M 26 3) → (40 - v3).toNat < N258 → G p l e R_s_X10_greatestSet2 s m args below meth cd n0 D cA 7 Q 0 0 M sz 4 [(0, gA n0 26), (1, gA n0 2), (2, gJ v2), (3, gJ v3)] [] := by
    intro N258; induction N258 with
    | zero => intro v2 v3 rv2 rv3 hs hm260; exfalso; omega
    | succ N258 ih259 =>
      intro v2 v3 rv2 rv3 hs hm260
      refine g_iload_n (n := 5) X 3 dX10_greatestSet_4 rfl rfl rfl ?_
      refine g_aload_n (n := 6) X 0 dX10_greatestSet_5 rfl rfl rfl ?_
      refine gg_10_3 (n := 9) (z := v1) X (by decide) (gsz hsz (by decide)) lay_26 kw_1_159 dX10_greatestSet_6 rfl hv1 ?_
      refine g_icmp_ge (n := 12) (tgt := 29) X dX10_greatestSet_9 (by decide) (by omega) (by omega) rfl (fun c261 => ?_) (fun c261 => ?_)
      · have hS0 : gSn (M 27) (M 26 3) v2 := by have q := hs.1; rw [show v3 = M 26 3 by have q1 := hv1; have q2 := hs.2; omega] at q; exact q
        refine g_iconst (n := 30) X dX10_greatestSet_29 rfl ?_
        refine g_istore_n (n := 31) (L' := [(3, gJ 0), (0, gA n0 26), (1, gA n0 2), (2, gJ v2)]) X dX10_greatestSet_30 rfl (by decide) rfl rfl ?_
        refine g_iconst (n := 32) X dX10_greatestSet_31 rfl ?_
        refine g_istore (n := 34) (L' := [(4, gJ 1), (3, gJ 0), (0, gA n0 26), (1, gA n0 2), (2, gJ v2)]) X dX10_greatestSet_32 (by decide) rfl rfl ?_
        refine g_iconst (n := 35) X dX10_greatestSet_34 rfl ?_
        refine g_istore (n := 37) (L' := [(5, gJ 0), (4, gJ 1), (3, gJ 0), (0, gA n0 26), (1, gA n0 2), (2, gJ v2)]) X dX10_greatestSet_35 (by decide) rfl rfl ?_
        have j266 : ∀ (N279 : Nat) (v262 v263 v264 : Int) , (0 ≤ v262 ∧ v262 ≤ 255) → (-2147483648 ≤ v263 ∧ v263 ≤ 2147483647) → (0 ≤ v264 ∧ v264 ≤ 256) → (gBst (gCan v2 (gOne (M 27) (M 28) (M 29) (M 4) (M 26 3))) v264.toNat v262 ∧ ((v263 = gPs v262 16 ∧ 1 ≤ v263) ∨ (v263 = 1 ∧ gPs v262 16 ≤ 1))) → (256 - v264).toNat < N279 → G p l e R_s_X10_greatestSet2 s m args below meth cd n0 D cA 7 Q 0 0 M sz 37 [(0, gA n0 26), (1, gA n0 2), (2, gJ v2), (3, gJ v262), (4, gJ v263), (5, gJ v264)] [] := by
          intro N279; induction N279 with
          | zero => intro v262 v263 v264 rv262 rv263 rv264 hb hm281; exfalso; omega
          | succ N279 ih280 =>
            intro v262 v263 v264 rv262 rv263 rv264 hb hm281
            refine g_iload (n := 39) X 5 dX10_greatestSet_37 rfl rfl ?_
            refine g_sipush (n := 42) X dX10_greatestSet_39 (by decide +kernel) rfl ?_
            refine g_icmp_ge (n := 45) (tgt := 91) X dX10_greatestSet_42 (by decide) (by omega) (by omega) rfl (fun c282 => ?_) (fun c282 => ?_)
            · refine g_iload_n (n := 92) X 3 dX10_greatestSet_91 rfl rfl rfl ?_
              exact hq _ _ _ _ dX10_greatestSet_92 ⟨rfl, by omega, ⟨v2, hS0, by have q := hb.1; rw [show v264 = 256 by omega] at q; exact q⟩⟩
            · refine g_iload (n := 47) X 5 dX10_greatestSet_45 rfl rfl ?_
              refine g_callSi (n := 50) (As := [gJ v264]) (rest := []) (cs1 := 0) (ss1 := 0) X (s_J_bit2 v264 (by omega) hsz I C ) okJ_bit kw_5_107 kw_3_186 ⟨rfl, rfl⟩ ⟨Nat.le_of_ble_eq_true rfl, Nat.le_of_ble_eq_true rfl⟩ rfl rfl (Nat.le_of_ble_eq_true rfl) ⟨Nat.le_of_ble_eq_true rfl, Nat.le_of_ble_eq_true rfl⟩ rfl rfl dX10_greatestSet_47 rfl (fun v283 M284 P285 => ?_)
              obtain ⟨rfl, rv283, xv283⟩ := P285
              refine g_istore (n := 52) (L' := [(6, gJ v283), (0, gA n0 26), (1, gA n0 2), (2, gJ v2), (3, gJ v262), (4, gJ v263), (5, gJ v264)]) X dX10_greatestSet_50 (by decide) rfl rfl ?_
              refine g_iload (n := 54) X 6 dX10_greatestSet_52 rfl rfl ?_
              refine g_iload_n (n := 55) X 3 dX10_greatestSet_54 rfl rfl rfl ?_
              refine g_iconst (n := 56) X dX10_greatestSet_55 rfl ?_
              refine g_ixorA (n := 57) X dX10_greatestSet_56 rfl (fun v286 rv286 xv286 => ?_)
              refine g_iandA (n := 58) X dX10_greatestSet_57 rfl (fun v287 rv287 xv287 => ?_)
              have ev287 : v287 = gSub v264 v2 := by unfold gSub; rw [xv286]; exact gi_inv xv287 rv287
              refine g_if_ne (n := 61) (tgt := 85) X dX10_greatestSet_58 (by decide) (by omega) rfl (fun c288 => ?_) (fun c288 => ?_)
              · refine g_iinc (n := 88) (w := v264 + 1) (L' := [(5, gJ (v264 + 1)), (6, gJ v283), (0, gA n0 26), (1, gA n0 2), (2, gJ v2), (3, gJ v262), (4, gJ v263)]) X 6 dX10_greatestSet_85 rfl rfl (by decide) rfl rfl ?_
                refine g_goto (tgt := 37) X dX10_greatestSet_88 (by decide) ?_
                refine G.sub (L' := [(0, gA n0 26), (1, gA n0 2), (2, gJ v2), (3, gJ v262), (4, gJ v263), (5, gJ (v264 + 1))]) [2, 3, 4, 5, 6, 0] rfl ?_
                exact ih280 v262 v263 (v264 + 1) (by omega) (by omega) (by omega) (by have xp : v283 = gPs v264 16 := xv283.trans (gPop_eq ⟨by omega, by omega⟩); have xs : v287 = gSub v264 v2 := ev287; (first | exact ⟨gBst.skip hb.1 (by omega) (fun c => by have c1 := c.1; omega) (by omega) (by omega), by have q := hb.2; omega⟩ | exact ⟨gBst.skip hb.1 (by omega) (fun c => by have c2 := c.2.1; have c3 := c.2.2.1; have q := hb.2; omega) (by omega) (by omega), by have q := hb.2; omega⟩)) (by omega)
              · refine g_iload (n := 63) X 0 dX10_greatestSet_61 rfl rfl ?_
                refine g_iload (n := 65) X 5 dX10_greatestSet_63 rfl rfl ?_
                refine g_icmp_le (n := 68) (tgt := 85) X dX10_greatestSet_65 (by decide) (by omega) (by omega) rfl (fun c289 => ?_) (fun c289 => ?_)
                · refine g_iinc (n := 88) (w := v264 + 1) (L' := [(5, gJ (v264 + 1)), (6, gJ v283), (0, gA n0 26), (1, gA n0 2), (2, gJ v2), (3, gJ v262), (4, gJ v263)]) X 6 dX10_greatestSet_85 rfl rfl (by decide) rfl rfl ?_
                  refine g_goto (tgt := 37) X dX10_greatestSet_88 (by decide) ?_
                  refine G.sub (L' := [(0, gA n0 26), (1, gA n0 2), (2, gJ v2), (3, gJ v262), (4, gJ v263), (5, gJ (v264 + 1))]) [2, 3, 4, 5, 6, 0] rfl ?_
                  exact ih280 v262 v263 (v264 + 1) (by omega) (by omega) (by omega) (by have xp : v283 = gPs v264 16 := xv283.trans (gPop_eq ⟨by omega, by omega⟩); have xs : v287 = gSub v264 v2 := ev287; (first | exact ⟨gBst.skip hb.1 (by omega) (fun c => by have c1 := c.1; omega) (by omega) (by omega), by have q := hb.2; omega⟩ | exact ⟨gBst.skip hb.1 (by omega) (fun c => by have c2 := c.2.1; have c3 := c.2.2.1; have q := hb.2; omega) (by omega) (by omega), by have q := hb.2; omega⟩)) (by omega)
                · refine g_aload_n (n := 69) X 1 dX10_greatestSet_68 rfl rfl rfl ?_
                  refine g_iload (n := 71) X 6 dX10_greatestSet_69 rfl rfl ?_
                  refine g_aload_n (n := 72) X 2 dX10_greatestSet_71 rfl rfl rfl ?_
                  refine g_callVi (n := 75) (As := [gJ v264, gA n0 2]) (rest := []) (cs1 := 0) (ss1 := 0) X (s_X10_mayBeOne2 v264 (by omega) hsz I C ) okX10_mayBeOne kw_5_108 ⟨kw_5_95, kw_5_96⟩ ⟨rfl, rfl⟩ ⟨Nat.le_of_ble_eq_true rfl, Nat.le_of_ble_eq_true rfl⟩ rfl (by decide) (gsz hsz (by decide)) lay_26 rfl rfl (Nat.le_of_ble_eq_true rfl) ⟨Nat.le_of_ble_eq_true rfl, Nat.le_of_ble_eq_true rfl⟩ rfl rfl dX10_greatestSet_72 rfl (fun v290 M291 P292 => ?_)
                  obtain ⟨rfl, rv290, xv290⟩ := P292
                  refine g_if_eq (n := 78) (tgt := 85) X dX10_greatestSet_75 (by decide) (by omega) rfl (fun c293 => ?_) (fun c293 => ?_)
                  · refine g_iinc (n := 88) (w := v264 + 1) (L' := [(5, gJ (v264 + 1)), (6, gJ v283), (0, gA n0 26), (1, gA n0 2), (2, gJ v2), (3, gJ v262), (4, gJ v263)]) X 6 dX10_greatestSet_85 rfl rfl (by decide) rfl rfl ?_
                    refine g_goto (tgt := 37) X dX10_greatestSet_88 (by decide) ?_
                    refine G.sub (L' := [(0, gA n0 26), (1, gA n0 2), (2, gJ v2), (3, gJ v262), (4, gJ v263), (5, gJ (v264 + 1))]) [2, 3, 4, 5, 6, 0] rfl ?_
                    exact ih280 v262 v263 (v264 + 1) (by omega) (by omega) (by omega) (by have xp : v283 = gPs v264 16 := xv283.trans (gPop_eq ⟨by omega, by omega⟩); have xs : v287 = gSub v264 v2 := ev287; (first | exact ⟨gBst.skip hb.1 (by omega) (fun c => by have c1 := c.1; omega) (by omega) (by omega), by have q := hb.2; omega⟩ | exact ⟨gBst.skip hb.1 (by omega) (fun c => by have c2 := c.2.1; have c3 := c.2.2.1; have q := hb.2; omega) (by omega) (by omega), by have q := hb.2; omega⟩ | exact ⟨gBst.skip hb.1 (by omega) (fun c => by rcases xv290 with ⟨q1, q2⟩ | ⟨q1, q2⟩; (exfalso; omega); (exact q2 c.2.2.2)) (by omega) (by omega), by have q := hb.2; omega⟩ | exact ⟨gBst.take hb.1 (by omega) ⟨by omega, by have q := hb.2; omega, by have q := hb.2; omega, by rcases xv290 with ⟨q1, q2⟩ | ⟨q1, q2⟩; (exact q2); (exfalso; omega)⟩ (by omega) (by omega), by have q := hb.2; omega⟩)) (by omega)
                  · refine g_iload (n := 80) X 6 dX10_greatestSet_78 rfl rfl ?_
                    refine g_istore_n (n := 81) (L' := [(3, gJ v264), (6, gJ v283), (0, gA n0 26), (1, gA n0 2), (2, gJ v2), (4, gJ v263), (5, gJ v264)]) X dX10_greatestSet_80 rfl (by decide) rfl rfl ?_
                    refine g_iload (n := 83) X 1 dX10_greatestSet_81 rfl rfl ?_
                    refine g_istore (n := 85) (L' := [(4, gJ v283), (3, gJ v264), (6, gJ v283), (0, gA n0 26), (1, gA n0 2), (2, gJ v2), (5, gJ v264)]) X dX10_greatestSet_83 (by decide) rfl rfl ?_
                    refine g_iinc (n := 88) (w := v264 + 1) (L' := [(5, gJ (v264 + 1)), (4, gJ v283), (3, gJ v264), (6, gJ v283), (0, gA n0 26), (1, gA n0 2), (2, gJ v2)]) X 6 dX10_greatestSet_85 rfl rfl (by decide) rfl rfl ?_
                    refine g_goto (tgt := 37) X dX10_greatestSet_88 (by decide) ?_
                    refine G.sub (L' := [(0, gA n0 26), (1, gA n0 2), (2, gJ v2), (3, gJ v264), (4, gJ v283), (5, gJ (v264 + 1))]) [4, 5, 6, 2, 1, 0] rfl ?_
                    exact ih280 v264 v283 (v264 + 1) (by omega) (by omega) (by omega) (by have xp : v283 = gPs v264 16 := xv283.trans (gPop_eq ⟨by omega, by omega⟩); have xs : v287 = gSub v264 v2 := ev287; (first | exact ⟨gBst.skip hb.1 (by omega) (fun c => by have c1 := c.1; omega) (by omega) (by omega), by have q := hb.2; omega⟩ | exact ⟨gBst.skip hb.1 (by omega) (fun c => by have c2 := c.2.1; have c3 := c.2.2.1; have q := hb.2; omega) (by omega) (by omega), by have q := hb.2; omega⟩ | exact ⟨gBst.skip hb.1 (by omega) (fun c => by rcases xv290 with ⟨q1, q2⟩ | ⟨q1, q2⟩; (exfalso; omega); (exact q2 c.2.2.2)) (by omega) (by omega), by have q := hb.2; omega⟩ | exact ⟨gBst.take hb.1 (by omega) ⟨by omega, by have q := hb.2; omega, by have q := hb.2; omega, by rcases xv290 with ⟨q1, q2⟩ | ⟨q1, q2⟩; (exact q2); (exfalso; omega)⟩ (by omega) (by omega), by have q := hb.2; omega⟩)) (by omega)
        refine G.sub (L' := [(0, gA n0 26), (1, gA n0 2), (2, gJ v2), (3, gJ 0), (4, gJ 1), (5, gJ 0)]) [3, 4, 5, 2, 1, 0] rfl ?_
        exact j266 _ 0 1 0 (by omega) (by omega) (by omega) ⟨rfl, Or.inr ⟨rfl, by decide +kernel⟩⟩ (Nat.lt_succ_self _)
      · refine g_iload_n (n := 13) X 2 dX10_greatestSet_12 rfl rfl rfl ?_
        refine g_iconst (n := 14) X dX10_greatestSet_13 rfl ?_
        refine g_aload_n (n := 15) X 0 dX10_greatestSet_14 rfl rfl rfl ?_
        refine gg_10_0 (n := 18) (z := 27) X (by decide) (gsz hsz (by decide)) lay_26 kw_1_156 dX10_greatestSet_15 rfl (rf_26_0 I (gsz hsz (by decide))) (by decide) ?_
        refine g_iload_n (n := 19) X 3 dX10_greatestSet_18 rfl rfl rfl ?_
        obtain ⟨v294, hv294, rv294⟩ := gRd I (by decide) (gsz hsz (by decide)) (ra_27 v3).1
        refine g_iald2 (n := 20) (v := v294) X (by decide) (gsz hsz (by decide)) lay_27 (by omega) (by omega) (by decide) dX10_greatestSet_19 rfl hv294 ?_
        refine g_ishlA (n := 21) X dX10_greatestSet_20 rfl (fun v295 rv295 xv295 => ?_)
        refine g_iorA (n := 22) X dX10_greatestSet_21 rfl (fun v296 rv296 xv296 => ?_)
        refine g_istore_n (n := 23) (L' := [(2, gJ v296), (0, gA n0 26), (1, gA n0 2), (3, gJ v3)]) X dX10_greatestSet_22 rfl (by decide) rfl rfl ?_
        refine g_iinc (n := 26) (w := v3 + 1) (L' := [(3, gJ (v3 + 1)), (2, gJ v296), (0, gA n0 26), (1, gA n0 2)]) X 3 dX10_greatestSet_23 rfl rfl (by decide) rfl rfl ?_
        refine g_goto (tgt := 4) X dX10_greatestSet_26 (by decide) ?_
        refine G.sub (L' := [(0, gA n0 26), (1, gA n0 2), (2, gJ v296), (3, gJ (v3 + 1))]) [2, 3, 1, 0] rfl ?_
        exact ih259 v296 (v3 + 1) (by omega) (by omega) ⟨gSn.s hs.1 (by omega) hv294 (by omega) xv295 xv296 rv296 (by omega), by have q1 := hv1; omega⟩ (by omega)
  refine G.sub (L' := [(0, gA n0 26), (1, gA n0 2), (2, gJ 0), (3, gJ 0)]) [2, 3, 1, 0] rfl ?_
  exact j5 _ 0 0 (by omega) (by omega) ⟨gSn.z rfl rfl, by have q1 := hv1; omega⟩ (Nat.lt_succ_self _)
abbrev R_s_X11_greatest2 : Room := { frames := 3, cells := 0, slots := 0, locals := 73 }
set_option maxRecDepth 100000 in
set_option maxHeartbeats 4000000 in
theorem s_X11_greatest2 {l : Launch} {n0 : Nat} {D : va_G} {cA : Nat → ClassId} {M : gM}  {sz : Nat} (hsz : 206 ≤ sz) (I : gI sz M) (C : gC sz M)   : Met l yX11_greatest (gWsOf yX11_greatest cX11_greatest 1 (Option.some Jvm.ClassFile.FieldType.int)) R_s_X11_greatest2 (gPc n0 D cA [gA n0 0] M sz) (gQi n0 D cA sz (fun z M1 => M = M1 ∧ (0 ≤ z ∧ z ≤ 255) ∧ (∃ s : Int, gSn (M 27) (M 26 3) s ∧ gBst (gCan s (gOne (M 27) (M 28) (M 29) (M 4) (M 26 3))) 256 z))) 0 0 (fun q => n0 ≤ q) := by
  refine gMetI [gA n0 0] (by decide) (Nat.le_of_ble_eq_true rfl) ⟨rfl, rfl⟩ ?_
  intro p e s m args below meth cd Q X hq
  have X : gCx p s m args meth cd n0 D cA "ParishUnion" cX11_greatest 1 := X
  show G p l e R_s_X11_greatest2 s m args below meth cd n0 D cA 1 Q 0 0 M sz 0 [(0, gA n0 0)] []
  refine g_aload_n (n := 1) X 0 dX11_greatest_0 rfl rfl rfl ?_
  refine gg_11_0 (n := 4) (z := 1) X (by decide) (gsz hsz (by decide)) lay_0 kw_2_231 dX11_greatest_1 rfl (rf_0_0 I (gsz hsz (by decide))) (by decide) ?_
  refine gg_9_8 (n := 7) (z := 26) X (by decide) (gsz hsz (by decide)) lay_1 kw_2_123 dX11_greatest_4 rfl (rf_1_8 I (gsz hsz (by decide))) (by decide) ?_
  refine g_aload_n (n := 8) X 0 dX11_greatest_7 rfl rfl rfl ?_
  refine gg_11_0 (n := 11) (z := 1) X (by decide) (gsz hsz (by decide)) lay_0 kw_2_231 dX11_greatest_8 rfl (rf_0_0 I (gsz hsz (by decide))) (by decide) ?_
  refine gg_9_0 (n := 14) (z := 2) X (by decide) (gsz hsz (by decide)) lay_1 kw_2_105 dX11_greatest_11 rfl (rf_1_0 I (gsz hsz (by decide))) (by decide) ?_
  refine g_callVi (n := 17) (As := [gA n0 2]) (rest := []) (cs1 := 0) (ss1 := 0) X (s_X10_greatestSet2  hsz I C ) okX10_greatestSet kw_5_103 ⟨kw_5_104, kw_5_105⟩ ⟨rfl, rfl⟩ ⟨Nat.le_of_ble_eq_true rfl, Nat.le_of_ble_eq_true rfl⟩ rfl (by decide) (gsz hsz (by decide)) lay_26 rfl rfl (Nat.le_of_ble_eq_true rfl) ⟨Nat.le_of_ble_eq_true rfl, Nat.le_of_ble_eq_true rfl⟩ rfl rfl dX11_greatest_14 rfl (fun v1 M2 P3 => ?_)
  obtain ⟨rfl, rv1, xv1⟩ := P3
  exact hq _ _ _ _ dX11_greatest_17 ⟨rfl, by omega, xv1⟩
abbrev R_s_X12_greatest2 : Room := { frames := 2, cells := 0, slots := 0, locals := 51 }
set_option maxRecDepth 100000 in
set_option maxHeartbeats 4000000 in
theorem s_X12_greatest2 {l : Launch} {n0 : Nat} {D : va_G} {cA : Nat → ClassId} {M : gM}  {sz : Nat} (hsz : 206 ≤ sz) (I : gI sz M) (C : gC sz M)   : Met l yX12_greatest (gWsOf yX12_greatest cX12_greatest 5 (Option.some Jvm.ClassFile.FieldType.int)) R_s_X12_greatest2 (gPc n0 D cA [gA n0 190] M sz) (gQi n0 D cA sz (fun z M1 => M = M1 ∧ (0 ≤ z ∧ z ≤ 255) ∧ (∃ s : Int, gSn (gRN M) (M 191 6) s ∧ gBst (gCan s (gOneR (gRN M) (gRP M) (gRK M) (gWRf M) (M 191 6))) 256 z))) 0 0 (fun q => n0 ≤ q) := by
  refine gMetI [gA n0 190] (by decide) (Nat.le_of_ble_eq_true rfl) ⟨rfl, rfl⟩ ?_
  intro p e s m args below meth cd Q X hq
  have X : gCx p s m args meth cd n0 D cA "ParishUnionModel" cX12_greatest 5 := X
  show G p l e R_s_X12_greatest2 s m args below meth cd n0 D cA 5 Q 0 0 M sz 0 [(0, gA n0 190)] []
  obtain ⟨v1, hv1, rv1⟩ := gRd I (by decide) (gsz hsz (by decide)) (rs_NN (k := 6) (by omega)).1
  refine g_iconst (n := 1) X dX12_greatest_0 rfl ?_
  refine g_istore_n (n := 2) (L' := [(1, gJ 0), (0, gA n0 190)]) X dX12_greatest_1 rfl (by decide) rfl rfl ?_
  refine g_iconst (n := 3) X dX12_greatest_2 rfl ?_
  refine g_istore_n (n := 4) (L' := [(2, gJ 0), (1, gJ 0), (0, gA n0 190)]) X dX12_greatest_3 rfl (by decide) rfl rfl ?_
  have j5 : ∀ (N576 : Nat) (v2 v3 : Int) , (-2147483648 ≤ v2 ∧ v2 ≤ 2147483647) → (0 ≤ v3 ∧ v3 ≤ 40) → (gSn (gRN M) v3 v2 ∧ v3 ≤ M 191 6) → (40 - v3).toNat < N576 → G p l e R_s_X12_greatest2 s m args below meth cd n0 D cA 5 Q 0 0 M sz 4 [(0, gA n0 190), (1, gJ v2), (2, gJ v3)] [] := by
    intro N576; induction N576 with
    | zero => intro v2 v3 rv2 rv3 hs hm578; exfalso; omega
    | succ N576 ih577 =>
      intro v2 v3 rv2 rv3 hs hm578
      refine g_iload_n (n := 5) X 2 dX12_greatest_4 rfl rfl rfl ?_
      refine g_aload_n (n := 6) X 0 dX12_greatest_5 rfl rfl rfl ?_
      refine gg_12_1 (n := 9) (z := 191) X (by decide) (gsz hsz (by decide)) lay_190 kw_6_27 dX12_greatest_6 rfl (rf_190_1 I (gsz hsz (by decide))) (by decide) ?_
      refine g_bipush (n := 11) X dX12_greatest_9 (by decide +kernel) rfl ?_
      refine g_iald2 (n := 12) (v := v1) X (by decide) (gsz hsz (by decide)) lay_191 (by omega) (by omega) (by decide) dX12_greatest_11 rfl hv1 ?_
      refine g_icmp_ge (n := 15) (tgt := 36) X dX12_greatest_12 (by decide) (by omega) (by omega) rfl (fun c579 => ?_) (fun c579 => ?_)
      · have hS0 : gSn (gRN M) (M 191 6) v2 := by have q := hs.1; rw [show v3 = M 191 6 by have q1 := hv1; have q2 := hs.2; omega] at q; exact q
        refine g_iconst (n := 37) X dX12_greatest_36 rfl ?_
        refine g_istore_n (n := 38) (L' := [(2, gJ 0), (0, gA n0 190), (1, gJ v2)]) X dX12_greatest_37 rfl (by decide) rfl rfl ?_
        refine g_iconst (n := 39) X dX12_greatest_38 rfl ?_
        refine g_istore_n (n := 40) (L' := [(3, gJ 1), (2, gJ 0), (0, gA n0 190), (1, gJ v2)]) X dX12_greatest_39 rfl (by decide) rfl rfl ?_
        have j583 : ∀ (N607 : Nat) (v580 v581 : Int) , (0 ≤ v580 ∧ v580 ≤ 255) → (0 ≤ v581 ∧ v581 ≤ 256) → (gBst (gCan v2 (gOneR (gRN M) (gRP M) (gRK M) (gWRf M) (M 191 6))) v581.toNat v580) → (256 - v581).toNat < N607 → G p l e R_s_X12_greatest2 s m args below meth cd n0 D cA 5 Q 0 0 M sz 40 [(0, gA n0 190), (1, gJ v2), (2, gJ v580), (3, gJ v581)] [] := by
          intro N607; induction N607 with
          | zero => intro v580 v581 rv580 rv581 hb hm609; exfalso; omega
          | succ N607 ih608 =>
            intro v580 v581 rv580 rv581 hb hm609
            refine g_iload_n (n := 41) X 3 dX12_greatest_40 rfl rfl rfl ?_
            refine g_sipush (n := 44) X dX12_greatest_41 (by decide +kernel) rfl ?_
            refine g_icmp_ge (n := 47) (tgt := 106) X dX12_greatest_44 (by decide) (by omega) (by omega) rfl (fun c610 => ?_) (fun c610 => ?_)
            · refine g_iload_n (n := 107) X 2 dX12_greatest_106 rfl rfl rfl ?_
              exact hq _ _ _ _ dX12_greatest_107 ⟨rfl, by omega, ⟨v2, hS0, by have q := hb; rw [show v581 = 256 by omega] at q; exact q⟩⟩
            · refine g_iload_n (n := 48) X 3 dX12_greatest_47 rfl rfl rfl ?_
              refine g_iload_n (n := 49) X 1 dX12_greatest_48 rfl rfl rfl ?_
              refine g_iconst (n := 50) X dX12_greatest_49 rfl ?_
              refine g_ixorA (n := 51) X dX12_greatest_50 rfl (fun v611 rv611 xv611 => ?_)
              refine g_iandA (n := 52) X dX12_greatest_51 rfl (fun v612 rv612 xv612 => ?_)
              have ev612 : v612 = gSub v581 v2 := by unfold gSub; rw [xv611]; exact gi_inv xv612 rv612
              refine g_if_ne (n := 55) (tgt := 78) X dX12_greatest_52 (by decide) (by omega) rfl (fun c613 => ?_) (fun c613 => ?_)
              · refine g_iconst (n := 79) X dX12_greatest_78 rfl ?_
                refine g_istore (n := 81) (L' := [(4, gJ 0), (0, gA n0 190), (1, gJ v2), (2, gJ v580), (3, gJ v581)]) X dX12_greatest_79 (by decide) rfl rfl ?_
                refine g_iload (n := 83) X 0 dX12_greatest_81 rfl rfl ?_
                refine g_if_eq (n := 86) (tgt := 98) X dX12_greatest_83 (by decide) (by omega) rfl (fun c614 => ?_) (fun c614 => by exfalso; omega)
                refine g_iload_n (n := 99) X 3 dX12_greatest_98 rfl rfl rfl ?_
                refine g_istore_n (n := 100) (L' := [(2, gJ v580), (4, gJ 0), (0, gA n0 190), (1, gJ v2), (3, gJ v581)]) X dX12_greatest_99 rfl (by decide) rfl rfl ?_
                refine g_iinc (n := 103) (w := v581 + 1) (L' := [(3, gJ (v581 + 1)), (2, gJ v580), (4, gJ 0), (0, gA n0 190), (1, gJ v2)]) X 4 dX12_greatest_100 rfl rfl (by decide) rfl rfl ?_
                refine g_goto (tgt := 40) X dX12_greatest_103 (by decide) ?_
                refine G.sub (L' := [(0, gA n0 190), (1, gJ v2), (2, gJ v580), (3, gJ (v581 + 1))]) [3, 4, 1, 0] rfl ?_
                exact ih608 v580 (v581 + 1) (by omega) (by omega) (by have xs : v612 = gSub v581 v2 := ev612; (first | exact gBst.skip hb (by omega) (fun c => by have c1 := c.1; omega) (by omega) (by omega) | exact gBst.skip hb (by omega) (fun c => by have c2 := c.2.1; have c3 := c.2.2.1; omega) (by omega) (by omega))) (by omega)
              · refine g_iload_n (n := 56) X 3 dX12_greatest_55 rfl rfl rfl ?_
                refine g_callSi (n := 59) (As := [gJ v581]) (rest := []) (cs1 := 0) (ss1 := 0) X (s_X12_many2 v581 (by omega) hsz I C ) okX12_many kw_6_224 kw_6_225 ⟨rfl, rfl⟩ ⟨Nat.le_of_ble_eq_true rfl, Nat.le_of_ble_eq_true rfl⟩ rfl rfl (Nat.le_of_ble_eq_true rfl) ⟨Nat.le_of_ble_eq_true rfl, Nat.le_of_ble_eq_true rfl⟩ rfl rfl dX12_greatest_56 rfl (fun v615 M616 P617 => ?_)
                obtain ⟨rfl, rv615, xv615⟩ := P617
                refine g_iconst (n := 60) X dX12_greatest_59 rfl ?_
                refine g_icmp_le (n := 63) (tgt := 78) X dX12_greatest_60 (by decide) (by omega) (by omega) rfl (fun c618 => ?_) (fun c618 => ?_)
                · refine g_iconst (n := 79) X dX12_greatest_78 rfl ?_
                  refine g_istore (n := 81) (L' := [(4, gJ 0), (0, gA n0 190), (1, gJ v2), (2, gJ v580), (3, gJ v581)]) X dX12_greatest_79 (by decide) rfl rfl ?_
                  refine g_iload (n := 83) X 0 dX12_greatest_81 rfl rfl ?_
                  refine g_if_eq (n := 86) (tgt := 98) X dX12_greatest_83 (by decide) (by omega) rfl (fun c619 => ?_) (fun c619 => by exfalso; omega)
                  refine g_iload_n (n := 99) X 3 dX12_greatest_98 rfl rfl rfl ?_
                  refine g_istore_n (n := 100) (L' := [(2, gJ v580), (4, gJ 0), (0, gA n0 190), (1, gJ v2), (3, gJ v581)]) X dX12_greatest_99 rfl (by decide) rfl rfl ?_
                  refine g_iinc (n := 103) (w := v581 + 1) (L' := [(3, gJ (v581 + 1)), (2, gJ v580), (4, gJ 0), (0, gA n0 190), (1, gJ v2)]) X 4 dX12_greatest_100 rfl rfl (by decide) rfl rfl ?_
                  refine g_goto (tgt := 40) X dX12_greatest_103 (by decide) ?_
                  refine G.sub (L' := [(0, gA n0 190), (1, gJ v2), (2, gJ v580), (3, gJ (v581 + 1))]) [3, 4, 1, 0] rfl ?_
                  exact ih608 v580 (v581 + 1) (by omega) (by omega) (by have xs : v612 = gSub v581 v2 := ev612; have xp0 := xv615; (first | exact gBst.skip hb (by omega) (fun c => by have c1 := c.1; omega) (by omega) (by omega) | exact gBst.skip hb (by omega) (fun c => by have c2 := c.2.1; have c3 := c.2.2.1; omega) (by omega) (by omega))) (by omega)
                · refine g_iload_n (n := 64) X 3 dX12_greatest_63 rfl rfl rfl ?_
                  refine g_callSi (n := 67) (As := [gJ v581]) (rest := []) (cs1 := 0) (ss1 := 0) X (s_X12_many2 v581 (by omega) hsz I C ) okX12_many kw_6_224 kw_6_225 ⟨rfl, rfl⟩ ⟨Nat.le_of_ble_eq_true rfl, Nat.le_of_ble_eq_true rfl⟩ rfl rfl (Nat.le_of_ble_eq_true rfl) ⟨Nat.le_of_ble_eq_true rfl, Nat.le_of_ble_eq_true rfl⟩ rfl rfl dX12_greatest_64 rfl (fun v620 M621 P622 => ?_)
                  obtain ⟨rfl, rv620, xv620⟩ := P622
                  refine g_iload_n (n := 68) X 2 dX12_greatest_67 rfl rfl rfl ?_
                  refine g_callSi (n := 71) (As := [gJ v580]) (rest := [gJ v620]) (cs1 := 0) (ss1 := 0) X (s_X12_many2 v580 (by omega) hsz I C ) okX12_many kw_6_224 kw_6_225 ⟨rfl, rfl⟩ ⟨Nat.le_of_ble_eq_true rfl, Nat.le_of_ble_eq_true rfl⟩ rfl rfl (Nat.le_of_ble_eq_true rfl) ⟨Nat.le_of_ble_eq_true rfl, Nat.le_of_ble_eq_true rfl⟩ rfl rfl dX12_greatest_68 rfl (fun v623 M624 P625 => ?_)
                  obtain ⟨rfl, rv623, xv623⟩ := P625
                  refine g_icmp_le (n := 74) (tgt := 78) X dX12_greatest_71 (by decide) (by omega) (by omega) rfl (fun c626 => ?_) (fun c626 => ?_)
                  · refine g_iconst (n := 79) X dX12_greatest_78 rfl ?_
                    refine g_istore (n := 81) (L' := [(4, gJ 0), (0, gA n0 190), (1, gJ v2), (2, gJ v580), (3, gJ v581)]) X dX12_greatest_79 (by decide) rfl rfl ?_
                    refine g_iload (n := 83) X 0 dX12_greatest_81 rfl rfl ?_
                    refine g_if_eq (n := 86) (tgt := 98) X dX12_greatest_83 (by decide) (by omega) rfl (fun c627 => ?_) (fun c627 => by exfalso; omega)
                    refine g_iload_n (n := 99) X 3 dX12_greatest_98 rfl rfl rfl ?_
                    refine g_istore_n (n := 100) (L' := [(2, gJ v580), (4, gJ 0), (0, gA n0 190), (1, gJ v2), (3, gJ v581)]) X dX12_greatest_99 rfl (by decide) rfl rfl ?_
                    refine g_iinc (n := 103) (w := v581 + 1) (L' := [(3, gJ (v581 + 1)), (2, gJ v580), (4, gJ 0), (0, gA n0 190), (1, gJ v2)]) X 4 dX12_greatest_100 rfl rfl (by decide) rfl rfl ?_
                    refine g_goto (tgt := 40) X dX12_greatest_103 (by decide) ?_
                    refine G.sub (L' := [(0, gA n0 190), (1, gJ v2), (2, gJ v580), (3, gJ (v581 + 1))]) [3, 4, 1, 0] rfl ?_
                    exact ih608 v580 (v581 + 1) (by omega) (by omega) (by have xs : v612 = gSub v581 v2 := ev612; have xp0 := xv615; have xp1 := xv620; have xp2 := xv623; (first | exact gBst.skip hb (by omega) (fun c => by have c1 := c.1; omega) (by omega) (by omega) | exact gBst.skip hb (by omega) (fun c => by have c2 := c.2.1; have c3 := c.2.2.1; omega) (by omega) (by omega))) (by omega)
                  · refine g_iconst (n := 75) X dX12_greatest_74 rfl ?_
                    refine g_goto (tgt := 79) X dX12_greatest_75 (by decide) ?_
                    refine g_istore (n := 81) (L' := [(4, gJ 1), (0, gA n0 190), (1, gJ v2), (2, gJ v580), (3, gJ v581)]) X dX12_greatest_79 (by decide) rfl rfl ?_
                    refine g_iload (n := 83) X 0 dX12_greatest_81 rfl rfl ?_
                    refine g_if_eq (n := 86) (tgt := 98) X dX12_greatest_83 (by decide) (by omega) rfl (fun c628 => by exfalso; omega) (fun c628 => ?_)
                    refine g_aload_n (n := 87) X 1 dX12_greatest_86 rfl rfl rfl ?_
                    refine g_iload_n (n := 88) X 4 dX12_greatest_87 rfl rfl rfl ?_
                    refine g_callVi (n := 91) (As := [gJ v581]) (rest := []) (cs1 := 0) (ss1 := 0) X (s_X12_isOne2 v581 (by omega) hsz I C ) okX12_isOne kw_7_208 ⟨kw_7_210, kw_0_85⟩ ⟨rfl, rfl⟩ ⟨Nat.le_of_ble_eq_true rfl, Nat.le_of_ble_eq_true rfl⟩ rfl (by decide) (gsz hsz (by decide)) lay_190 rfl rfl (Nat.le_of_ble_eq_true rfl) ⟨Nat.le_of_ble_eq_true rfl, Nat.le_of_ble_eq_true rfl⟩ rfl rfl dX12_greatest_88 rfl (fun v629 M630 P631 => ?_)
                    obtain ⟨rfl, rv629, xv629⟩ := P631
                    refine g_if_eq (n := 94) (tgt := 98) X dX12_greatest_91 (by decide) (by omega) rfl (fun c632 => ?_) (fun c632 => ?_)
                    · refine g_iload_n (n := 99) X 3 dX12_greatest_98 rfl rfl rfl ?_
                      refine g_istore_n (n := 100) (L' := [(2, gJ v580), (4, gJ 1), (0, gA n0 190), (1, gJ v2), (3, gJ v581)]) X dX12_greatest_99 rfl (by decide) rfl rfl ?_
                      refine g_iinc (n := 103) (w := v581 + 1) (L' := [(3, gJ (v581 + 1)), (2, gJ v580), (4, gJ 1), (0, gA n0 190), (1, gJ v2)]) X 4 dX12_greatest_100 rfl rfl (by decide) rfl rfl ?_
                      refine g_goto (tgt := 40) X dX12_greatest_103 (by decide) ?_
                      refine G.sub (L' := [(0, gA n0 190), (1, gJ v2), (2, gJ v580), (3, gJ (v581 + 1))]) [3, 4, 1, 0] rfl ?_
                      exact ih608 v580 (v581 + 1) (by omega) (by omega) (by have xs : v612 = gSub v581 v2 := ev612; have xp0 := xv615; have xp1 := xv620; have xp2 := xv623; (first | exact gBst.skip hb (by omega) (fun c => by have c1 := c.1; omega) (by omega) (by omega) | exact gBst.skip hb (by omega) (fun c => by have c2 := c.2.1; have c3 := c.2.2.1; omega) (by omega) (by omega) | exact gBst.skip hb (by omega) (fun c => by rcases xv629 with ⟨q1, q2⟩ | ⟨q1, q2⟩; (exfalso; omega); (exact q2 c.2.2.2)) (by omega) (by omega) | exact gBst.take hb (by omega) ⟨by omega, by omega, by omega, by rcases xv629 with ⟨q1, q2⟩ | ⟨q1, q2⟩; (exact q2); (exfalso; omega)⟩ (by omega) (by omega))) (by omega)
                    · refine g_iload_n (n := 95) X 4 dX12_greatest_94 rfl rfl rfl ?_
                      refine g_goto (tgt := 99) X dX12_greatest_95 (by decide) ?_
                      refine g_istore_n (n := 100) (L' := [(2, gJ v581), (4, gJ 1), (0, gA n0 190), (1, gJ v2), (3, gJ v581)]) X dX12_greatest_99 rfl (by decide) rfl rfl ?_
                      refine g_iinc (n := 103) (w := v581 + 1) (L' := [(3, gJ (v581 + 1)), (2, gJ v581), (4, gJ 1), (0, gA n0 190), (1, gJ v2)]) X 4 dX12_greatest_100 rfl rfl (by decide) rfl rfl ?_
                      refine g_goto (tgt := 40) X dX12_greatest_103 (by decide) ?_
                      refine G.sub (L' := [(0, gA n0 190), (1, gJ v2), (2, gJ v581), (3, gJ (v581 + 1))]) [3, 4, 1, 0] rfl ?_
                      exact ih608 v581 (v581 + 1) (by omega) (by omega) (by have xs : v612 = gSub v581 v2 := ev612; have xp0 := xv615; have xp1 := xv620; have xp2 := xv623; (first | exact gBst.skip hb (by omega) (fun c => by have c1 := c.1; omega) (by omega) (by omega) | exact gBst.skip hb (by omega) (fun c => by have c2 := c.2.1; have c3 := c.2.2.1; omega) (by omega) (by omega) | exact gBst.skip hb (by omega) (fun c => by rcases xv629 with ⟨q1, q2⟩ | ⟨q1, q2⟩; (exfalso; omega); (exact q2 c.2.2.2)) (by omega) (by omega) | exact gBst.take hb (by omega) ⟨by omega, by omega, by omega, by rcases xv629 with ⟨q1, q2⟩ | ⟨q1, q2⟩; (exact q2); (exfalso; omega)⟩ (by omega) (by omega))) (by omega)
        refine G.sub (L' := [(0, gA n0 190), (1, gJ v2), (2, gJ 0), (3, gJ 1)]) [2, 3, 1, 0] rfl ?_
        exact j583 _ 0 1 (by omega) (by omega) (gBst.skip (k := 0) (b := 0) rfl (by omega) (fun c => absurd c.2.1 (by decide +kernel)) rfl rfl) (Nat.lt_succ_self _)
      · refine g_iload_n (n := 16) X 1 dX12_greatest_15 rfl rfl rfl ?_
        refine g_iconst (n := 17) X dX12_greatest_16 rfl ?_
        refine g_aload_n (n := 18) X 0 dX12_greatest_17 rfl rfl rfl ?_
        refine gg_12_1 (n := 21) (z := 191) X (by decide) (gsz hsz (by decide)) lay_190 kw_6_27 dX12_greatest_18 rfl (rf_190_1 I (gsz hsz (by decide))) (by decide) ?_
        refine g_sipush (n := 24) X dX12_greatest_21 (by decide +kernel) rfl ?_
        refine g_iload_n (n := 25) X 2 dX12_greatest_24 rfl rfl rfl ?_
        refine g_iadd (n := 26) (z := v3 + 2440) X dX12_greatest_25 (by omega) rfl ?_
        obtain ⟨v633, hv633, rv633⟩ := gRd I (by decide) (gsz hsz (by decide)) (rs_NNAME (k := v3 + 2440) (by omega)).1
        refine g_iald2 (n := 27) (v := v633) X (by decide) (gsz hsz (by decide)) lay_191 (by omega) (by omega) (by decide) dX12_greatest_26 rfl hv633 ?_
        refine g_ishlA (n := 28) X dX12_greatest_27 rfl (fun v634 rv634 xv634 => ?_)
        refine g_iorA (n := 29) X dX12_greatest_28 rfl (fun v635 rv635 xv635 => ?_)
        refine g_istore_n (n := 30) (L' := [(1, gJ v635), (0, gA n0 190), (2, gJ v3)]) X dX12_greatest_29 rfl (by decide) rfl rfl ?_
        refine g_iinc (n := 33) (w := v3 + 1) (L' := [(2, gJ (v3 + 1)), (1, gJ v635), (0, gA n0 190)]) X 2 dX12_greatest_30 rfl rfl (by decide) rfl rfl ?_
        refine g_goto (tgt := 4) X dX12_greatest_33 (by decide) ?_
        refine G.sub (L' := [(0, gA n0 190), (1, gJ v635), (2, gJ (v3 + 1))]) [2, 1, 0] rfl ?_
        exact ih577 v635 (v3 + 1) (by omega) (by omega) ⟨gSn.s hs.1 (by omega) (show gRN M v3 = v633 from hv633) (by omega) xv634 xv635 rv635 (by omega), by have q1 := hv1; omega⟩ (by omega)
  refine G.sub (L' := [(0, gA n0 190), (1, gJ 0), (2, gJ 0)]) [2, 1, 0] rfl ?_
  exact j5 _ 0 0 (by omega) (by omega) ⟨gSn.z rfl rfl, by have q1 := hv1; omega⟩ (Nat.lt_succ_self _)
