def gS0 (i : Int) : Int := if 16 ≤ i ∧ i ≤ 21 then 100 else if 24 ≤ i ∧ i ≤ 59 then (if (i - 24) % 7 = 0 then 0 else 99) else if 60 ≤ i ∧ i ≤ 63 then 2 else if i = 9 then 1 else 0
def gZ (zb : Int) (M : gM) : Prop := ∀ o k : Int, zb ≤ o → (M o k = 0 ∨ (((gRg o k).1 ≤ M o k ∧ M o k ≤ (gRg o k).2) ∧ gCr o k = false))
theorem gZ.new {zb : Int} {M M1 : gM} {o : Int} (Z : gZ zb M) (e : M1 = gnew M o) : gZ zb M1 := by
  intro a k h
  subst e
  by_cases q : a = o
  · subst q; exact Or.inl (gnew_eq _ _ _)
  · rw [gnew_ne q]; exact Z a k h
theorem gZ.set {zb : Int} {M M1 : gM} {o k z lo hi : Int} (Z : gZ zb M) (hr : gRg o k = (lo, hi) ∧ gCr o k = false) (hz : lo ≤ z ∧ z ≤ hi) (e : M1 = gset M o k z) : gZ zb M1 := by
  intro a b h
  subst e
  rw [gset_at]
  by_cases q : a = o ∧ b = k
  · rw [if_pos q, q.1, q.2, hr.1]; exact Or.inr ⟨hz, hr.2⟩
  · rw [if_neg q]; exact Z a b h
theorem gRA_5 {k : Int} (h0 : 0 ≤ k) (h1 : k < 16) : gRg 5 k = (32 + k + 0, 32 + k + 0) ∧ gCr 5 k = false := by
  refine ⟨?_, rfl⟩
  show (if k < 0 then ((0, 0) : Int × Int) else if k < 16 then _ else _) = _; rw [if_neg (by omega), if_pos h1] <;> (try rfl)
theorem gRA_6 {k : Int} (h0 : 0 ≤ k) (h1 : k < 40) : gRg 6 k = (48 + k + 0, 48 + k + 0) ∧ gCr 6 k = false := by
  refine ⟨?_, rfl⟩
  show (if k < 0 then ((0, 0) : Int × Int) else if k < 40 then _ else _) = _; rw [if_neg (by omega), if_pos h1] <;> (try rfl)
theorem gRA_7 {k : Int} (h0 : 0 ≤ k) (h1 : k < 11) : gRg 7 k = (88 + 6 * k + 0, 88 + 6 * k + 0) ∧ gCr 7 k = false := by
  refine ⟨?_, rfl⟩
  show (if k < 0 then ((0, 0) : Int × Int) else if k < 11 then _ else _) = _; rw [if_neg (by omega), if_pos h1] <;> (try rfl)
theorem gRA_161 {k : Int} (h0 : 0 ≤ k) (h1 : k < 16) : gRg 161 k = (175 + k, 175 + k) ∧ gCr 161 k = false := by
  refine ⟨?_, rfl⟩
  show (if k < 0 then ((0, 0) : Int × Int) else if k < 16 then _ else _) = _; rw [if_neg (by omega), if_pos h1] <;> (try rfl)
theorem gRA_210 {k : Int} (h0 : 0 ≤ k) (h1 : k < 16) : gRg 210 k = (32 + k + 205, 32 + k + 205) ∧ gCr 210 k = false := by
  refine ⟨?_, rfl⟩
  show (if k < 0 then ((0, 0) : Int × Int) else if k < 16 then _ else _) = _; rw [if_neg (by omega), if_pos h1] <;> (try rfl)
theorem gRA_211 {k : Int} (h0 : 0 ≤ k) (h1 : k < 40) : gRg 211 k = (48 + k + 205, 48 + k + 205) ∧ gCr 211 k = false := by
  refine ⟨?_, rfl⟩
  show (if k < 0 then ((0, 0) : Int × Int) else if k < 40 then _ else _) = _; rw [if_neg (by omega), if_pos h1] <;> (try rfl)
theorem gRA_212 {k : Int} (h0 : 0 ≤ k) (h1 : k < 11) : gRg 212 k = (88 + 6 * k + 205, 88 + 6 * k + 205) ∧ gCr 212 k = false := by
  refine ⟨?_, rfl⟩
  show (if k < 0 then ((0, 0) : Int × Int) else if k < 11 then _ else _) = _; rw [if_neg (by omega), if_pos h1] <;> (try rfl)
theorem gRAz_0 {o : Int} (h : gAz 358 o) : gRg o 0 = (gnm o + 0 + 2 + (o - gnm o), gnm o + 0 + 2 + (o - gnm o)) ∧ gCr o 0 = false := by
  have hn := gnm_A h (j := 0) (by decide)
  rw [show o + 0 = o by omega] at hn
  refine ⟨?_, ?_⟩
  · unfold gRg gRn; rw [if_neg (by omega), if_neg (by omega), if_neg (by omega), if_pos (by omega), hn.2.2.1]; rfl
  · unfold gCr; rw [if_neg (by omega), if_neg (by omega), if_neg (by omega), if_pos (by omega), hn.2.2.1]; rfl
theorem gRAz_1 {o : Int} (h : gAz 358 o) : gRg o 1 = (gnm o + 1 + 2 + (o - gnm o), gnm o + 1 + 2 + (o - gnm o)) ∧ gCr o 1 = false := by
  have hn := gnm_A h (j := 0) (by decide)
  rw [show o + 0 = o by omega] at hn
  refine ⟨?_, ?_⟩
  · unfold gRg gRn; rw [if_neg (by omega), if_neg (by omega), if_neg (by omega), if_pos (by omega), hn.2.2.1]; rfl
  · unfold gCr; rw [if_neg (by omega), if_neg (by omega), if_neg (by omega), if_pos (by omega), hn.2.2.1]; rfl
theorem gRAz_2 {o : Int} (h : gAz 358 o) : gRg o 2 = (gnm o + 2 + 2 + (o - gnm o), gnm o + 2 + 2 + (o - gnm o)) ∧ gCr o 2 = false := by
  have hn := gnm_A h (j := 0) (by decide)
  rw [show o + 0 = o by omega] at hn
  refine ⟨?_, ?_⟩
  · unfold gRg gRn; rw [if_neg (by omega), if_neg (by omega), if_neg (by omega), if_pos (by omega), hn.2.2.1]; rfl
  · unfold gCr; rw [if_neg (by omega), if_neg (by omega), if_neg (by omega), if_pos (by omega), hn.2.2.1]; rfl
theorem gRAz_3 {o : Int} (h : gAz 358 o) : gRg o 3 = (gnm o + 3 + 2 + (o - gnm o), gnm o + 3 + 2 + (o - gnm o)) ∧ gCr o 3 = false := by
  have hn := gnm_A h (j := 0) (by decide)
  rw [show o + 0 = o by omega] at hn
  refine ⟨?_, ?_⟩
  · unfold gRg gRn; rw [if_neg (by omega), if_neg (by omega), if_neg (by omega), if_pos (by omega), hn.2.2.1]; rfl
  · unfold gCr; rw [if_neg (by omega), if_neg (by omega), if_neg (by omega), if_pos (by omega), hn.2.2.1]; rfl
theorem gRAz_4 {o : Int} (h : gAz 358 o) : gRg o 4 = (gnm o + 4 + 2 + (o - gnm o), gnm o + 4 + 2 + (o - gnm o)) ∧ gCr o 4 = false := by
  have hn := gnm_A h (j := 0) (by decide)
  rw [show o + 0 = o by omega] at hn
  refine ⟨?_, ?_⟩
  · unfold gRg gRn; rw [if_neg (by omega), if_neg (by omega), if_neg (by omega), if_pos (by omega), hn.2.2.1]; rfl
  · unfold gCr; rw [if_neg (by omega), if_neg (by omega), if_neg (by omega), if_pos (by omega), hn.2.2.1]; rfl
theorem dX3_init_0 : decode cX3_init 0 = .ok (.aload_n 0, 1) := dc_42 (by decide +kernel)
theorem dX3_init_1 : decode cX3_init 1 = .ok (.invokespecial 3, 3) := dc_183 0 3 (by decide +kernel)
theorem kw_1_40 : (Jvm.Cond.methodLink "ParishUnion$Land" (3 : Nat) ({ cls := "java/lang/Object", name := "<init>", desc := "()V" } : Jvm.MethodName)) ∈ gT := gT_of (tb_1 _ (List.mem_of_getElem? (i := 40) rfl)) rfl
theorem kw_1_27 : (Jvm.Cond.instanceMethod ({ cls := "java/lang/Object", name := "<init>", desc := "()V" } : Jvm.MethodName)) ∈ gT := gT_of (tb_1 _ (List.mem_of_getElem? (i := 27) rfl)) rfl
theorem kw_1_28 : (Jvm.Cond.code ({ cls := "java/lang/Object", name := "<init>", desc := "()V" } : Jvm.MethodName) object_method_1_code (1 : Nat) (Option.none : Option Jvm.ClassFile.FieldType)) ∈ gT := gT_of (tb_1 _ (List.mem_of_getElem? (i := 28) rfl)) rfl
theorem dX3_init_4 : decode cX3_init 4 = .ok (.aload_n 0, 1) := dc_42 (by decide +kernel)
theorem dX3_init_5 : decode cX3_init 5 = .ok (.bipush 6, 2) := dc_16 6 6 (by decide +kernel)
theorem dX3_init_7 : decode cX3_init 7 = .ok (.newarray .int, 2) := by decide +kernel
theorem kw_1_49 : (Jvm.Cond.arrayClass Jvm.ClassFile.FieldType.int) ∈ gT := gT_of (tb_1 _ (List.mem_of_getElem? (i := 49) rfl)) rfl
theorem dX3_init_9 : decode cX3_init 9 = .ok (.putfield 9, 3) := dc_181 0 9 (by decide +kernel)
theorem zr_2_0 : gRg 2 0 = (4, 4) ∧ gCr 2 0 = false := by decide +kernel
theorem dX3_init_12 : decode cX3_init 12 = .ok (.aload_n 0, 1) := dc_42 (by decide +kernel)
theorem dX3_init_13 : decode cX3_init 13 = .ok (.bipush 36, 2) := dc_16 36 36 (by decide +kernel)
theorem dX3_init_15 : decode cX3_init 15 = .ok (.newarray .int, 2) := by decide +kernel
theorem dX3_init_17 : decode cX3_init 17 = .ok (.putfield 15, 3) := dc_181 0 15 (by decide +kernel)
theorem zr_2_1 : gRg 2 1 = (5, 5) ∧ gCr 2 1 = false := by decide +kernel
theorem dX3_init_20 : decode cX3_init 20 = .ok (.iconst 0, 1) := dc_3 (by decide +kernel)
theorem dX3_init_21 : decode cX3_init 21 = .ok (.istore_n 1, 1) := dc_60 (by decide +kernel)
theorem dX3_init_22 : decode cX3_init 22 = .ok (.iload_n 1, 1) := dc_27 (by decide +kernel)
theorem dX3_init_23 : decode cX3_init 23 = .ok (.bipush 6, 2) := dc_16 6 6 (by decide +kernel)
theorem dX3_init_25 : decode cX3_init 25 = .ok (.if_icmp .ge 53, 3) := dc_162 0 53 53 (by decide +kernel)
theorem dX3_init_78 : decode cX3_init 78 = .ok (.return_, 1) := dc_177 (by decide +kernel)
theorem dX3_init_28 : decode cX3_init 28 = .ok (.aload_n 0, 1) := dc_42 (by decide +kernel)
theorem dX3_init_29 : decode cX3_init 29 = .ok (.getfield 9, 3) := dc_180 0 9 (by decide +kernel)
theorem dX3_init_32 : decode cX3_init 32 = .ok (.iload_n 1, 1) := dc_27 (by decide +kernel)
theorem dX3_init_33 : decode cX3_init 33 = .ok (.bipush 100, 2) := dc_16 100 100 (by decide +kernel)
theorem dX3_init_35 : decode cX3_init 35 = .ok (.iastore, 1) := dc_79 (by decide +kernel)
theorem za_3 (k : Int) : gRg 3 k = (0, 9999) ∧ gCr 3 k = false := ⟨rfl, rfl⟩
theorem dX3_init_36 : decode cX3_init 36 = .ok (.iconst 0, 1) := dc_3 (by decide +kernel)
theorem dX3_init_37 : decode cX3_init 37 = .ok (.istore_n 2, 1) := dc_61 (by decide +kernel)
theorem dX3_init_38 : decode cX3_init 38 = .ok (.iload_n 2, 1) := dc_28 (by decide +kernel)
theorem dX3_init_39 : decode cX3_init 39 = .ok (.bipush 6, 2) := dc_16 6 6 (by decide +kernel)
theorem dX3_init_41 : decode cX3_init 41 = .ok (.if_icmp .ge 31, 3) := dc_162 0 31 31 (by decide +kernel)
theorem dX3_init_72 : decode cX3_init 72 = .ok (.iinc 1 1, 3) := dc_132 1 1 1 (by decide +kernel)
theorem dX3_init_75 : decode cX3_init 75 = .ok (.goto (-53), 3) := dc_167 255 203 (-53) (by decide +kernel)
theorem dX3_init_44 : decode cX3_init 44 = .ok (.aload_n 0, 1) := dc_42 (by decide +kernel)
theorem dX3_init_45 : decode cX3_init 45 = .ok (.getfield 15, 3) := dc_180 0 15 (by decide +kernel)
theorem dX3_init_48 : decode cX3_init 48 = .ok (.iload_n 1, 1) := dc_27 (by decide +kernel)
theorem dX3_init_49 : decode cX3_init 49 = .ok (.bipush 6, 2) := dc_16 6 6 (by decide +kernel)
theorem dX3_init_51 : decode cX3_init 51 = .ok (.imul, 1) := dc_104 (by decide +kernel)
theorem dX3_init_52 : decode cX3_init 52 = .ok (.iload_n 2, 1) := dc_28 (by decide +kernel)
theorem dX3_init_53 : decode cX3_init 53 = .ok (.iadd, 1) := dc_96 (by decide +kernel)
theorem dX3_init_54 : decode cX3_init 54 = .ok (.iload_n 1, 1) := dc_27 (by decide +kernel)
theorem dX3_init_55 : decode cX3_init 55 = .ok (.iload_n 2, 1) := dc_28 (by decide +kernel)
theorem dX3_init_56 : decode cX3_init 56 = .ok (.if_icmp .ne 7, 3) := dc_160 0 7 7 (by decide +kernel)
theorem dX3_init_63 : decode cX3_init 63 = .ok (.bipush 99, 2) := dc_16 99 99 (by decide +kernel)
theorem dX3_init_65 : decode cX3_init 65 = .ok (.iastore, 1) := dc_79 (by decide +kernel)
theorem za_4 (k : Int) : gRg 4 k = (0, 99) ∧ gCr 4 k = false := ⟨rfl, rfl⟩
theorem dX3_init_66 : decode cX3_init 66 = .ok (.iinc 2 1, 3) := dc_132 2 1 1 (by decide +kernel)
theorem dX3_init_69 : decode cX3_init 69 = .ok (.goto (-31), 3) := dc_167 255 225 (-31) (by decide +kernel)
theorem dX3_init_59 : decode cX3_init 59 = .ok (.iconst 0, 1) := dc_3 (by decide +kernel)
theorem dX3_init_60 : decode cX3_init 60 = .ok (.goto 5, 3) := dc_167 0 5 5 (by decide +kernel)
set_option maxRecDepth 100000 in
set_option maxHeartbeats 4000000 in
theorem c_X3_init_2 {l : Launch} {n0 : Nat} {D : va_G} {cA : Nat → ClassId} {M : gM}  {zb : Int} (ZM : gZ zb M) : Met l yX3_init (gWsOf yX3_init cX3_init 3 (Option.none : Option Jvm.ClassFile.FieldType)) { frames := 4, cells := 2, slots := 42, locals := 120 } (gPc n0 D cA [gA n0 2] M 3) (gQv n0 D cA 5 (fun M1 => gZ zb M1 ∧ M1 2 0 = 4 ∧ M1 2 1 = 5 ∧ (∀ i : Int, 0 ≤ i → i < 6 → M1 3 i = 100) ∧ (∀ i : Int, 0 ≤ i → i < 36 → (i % 7 = 0 → M1 4 i = 0) ∧ (¬ i % 7 = 0 → M1 4 i = 99)) ∧ ∀ a : Int, a < 2 → M1 a = M a)) 2 42 (fun q => n0 ≤ q) := by
  refine gMet_of [gA n0 2] (by decide) (Nat.le_of_ble_eq_true rfl) ?_
  intro p e s m args below meth cd X hr hm
  have X : gCx p s m args meth cd n0 D cA "ParishUnion$Land" cX3_init 3 := X
  show G p l e ({ frames := 4, cells := 2, slots := 42, locals := 120 } : Room) s m args below meth cd n0 D cA 3 (MQ below (gQv n0 D cA 5 (fun M1 => gZ zb M1 ∧ M1 2 0 = 4 ∧ M1 2 1 = 5 ∧ (∀ i : Int, 0 ≤ i → i < 6 → M1 3 i = 100) ∧ (∀ i : Int, 0 ≤ i → i < 36 → (i % 7 = 0 → M1 4 i = 0) ∧ (¬ i % 7 = 0 → M1 4 i = 99)) ∧ ∀ a : Int, a < 2 → M1 a = M a)) args s 2 42 (fun q => n0 ≤ q)) 0 0 M 3 0 [(0, gA n0 2)] []
  refine g_aload_n (n := 1) X 0 dX3_init_0 rfl rfl rfl ?_
  refine g_objInit (n := 4) X kw_1_40 kw_1_27 kw_1_28 rfl dX3_init_1 (Nat.le_of_ble_eq_true rfl) (Nat.le_of_ble_eq_true rfl) rfl ?_
  refine g_aload_n (n := 5) X 0 dX3_init_4 rfl rfl rfl ?_
  refine g_bipush (n := 7) X dX3_init_5 (by decide +kernel) rfl ?_
  refine g_newI (n := 9) (N := 6) X (by omega) (by omega) kw_1_49 lay_3 (Nat.le_of_ble_eq_true rfl) (Nat.le_of_ble_eq_true rfl) dX3_init_7 rfl ?_
  refine G.nm (fun M1 e2 => ?_)
  have ZM1 : gZ zb M1 := gZ.new ZM e2
  refine gp_3_0 (n := 12) X (by omega) (by omega) lay_2 kw_1_41 (by omega) hm rfl dX3_init_9 rfl ?_
  refine G.nm (fun M3 e4 => ?_)
  have ZM3 : gZ zb M3 := gZ.set ZM1 zr_2_0 (by omega) e4
  refine g_aload_n (n := 13) X 0 dX3_init_12 rfl rfl rfl ?_
  refine g_bipush (n := 15) X dX3_init_13 (by decide +kernel) rfl ?_
  refine g_newI (n := 17) (N := 36) X (by omega) (by omega) kw_1_49 lay_4 (Nat.le_of_ble_eq_true rfl) (Nat.le_of_ble_eq_true rfl) dX3_init_15 rfl ?_
  refine G.nm (fun M5 e6 => ?_)
  have ZM5 : gZ zb M5 := gZ.new ZM3 e6
  refine gp_3_1 (n := 20) X (by omega) (by omega) lay_2 kw_1_43 (by omega) hm rfl dX3_init_17 rfl ?_
  refine G.nm (fun M7 e8 => ?_)
  have ZM7 : gZ zb M7 := gZ.set ZM5 zr_2_1 (by omega) e8
  refine g_iconst (n := 21) X dX3_init_20 rfl ?_
  refine g_istore_n (n := 22) (L' := [(1, gJ 0), (0, gA n0 2)]) X dX3_init_21 rfl (by decide) rfl rfl ?_
  have loop9 : ∀ (N11 : Nat) (x : Int) (M13 : gM), (∀ a : Int, a ≠ 3 → a ≠ 4 → M13 a = M7 a) → gZ zb M13 → M13 2 0 = 4 → M13 2 1 = 5 → (∀ i : Int, 0 ≤ i → i < x * 6 → (i % 7 = 0 → M13 4 i = 0) ∧ (¬ i % 7 = 0 → M13 4 i = 99)) → (∀ i : Int, 0 ≤ i → i < x → M13 3 i = 100) → (0 ≤ x ∧ x ≤ 6) → (6 - x).toNat < N11 → G p l e ({ frames := 4, cells := 2, slots := 42, locals := 120 } : Room) s m args below meth cd n0 D cA 3 (MQ below (gQv n0 D cA 5 (fun M1 => gZ zb M1 ∧ M1 2 0 = 4 ∧ M1 2 1 = 5 ∧ (∀ i : Int, 0 ≤ i → i < 6 → M1 3 i = 100) ∧ (∀ i : Int, 0 ≤ i → i < 36 → (i % 7 = 0 → M1 4 i = 0) ∧ (¬ i % 7 = 0 → M1 4 i = 99)) ∧ ∀ a : Int, a < 2 → M1 a = M a)) args s 2 42 (fun q => n0 ≤ q)) 2 42 M13 5 22 [(0, gA n0 2), (1, gJ x)] [] := by
    intro N11; induction N11 with
    | zero => intro x M13 F14 ZM13 g15 g16 iw ir ix hm12; exfalso; omega
    | succ N11 ih10 =>
      intro x M13 F14 ZM13 g15 g16 iw ir ix hm12
      refine g_iload_n (n := 23) X 1 dX3_init_22 rfl rfl rfl ?_
      refine g_bipush (n := 25) X dX3_init_23 (by decide +kernel) rfl ?_
      refine g_icmp_ge (n := 28) (tgt := 78) X dX3_init_25 (by decide) (by omega) (by omega) rfl (fun c17 => ?_) (fun c17 => ?_)
      · exact g_return X hr dX3_init_78 (by exact ⟨ZM13, g15, g16, (by intro i h0 h1; exact ir i h0 (by omega)), (by intro i h0 h1; exact iw i h0 (by omega)), fun a h0 => ((F14 a (by omega) (by omega)).trans ((congrFun e8 a).trans ((gset_off a (by omega)).trans ((congrFun e6 a).trans ((gnew_off a (by omega)).trans ((congrFun e4 a).trans ((gset_off a (by omega)).trans ((congrFun e2 a).trans ((gnew_off a (by omega)).trans rfl)))))))))⟩)
      · refine g_aload_n (n := 29) X 0 dX3_init_28 rfl rfl rfl ?_
        refine gg_3_0 (n := 32) (z := 3) X (by omega) (by omega) lay_2 kw_1_41 dX3_init_29 rfl g15 (by omega) ?_
        refine g_iload_n (n := 33) X 1 dX3_init_32 rfl rfl rfl ?_
        refine g_bipush (n := 35) X dX3_init_33 (by decide +kernel) rfl ?_
        refine g_iast (n := 36) X (by omega) (by omega) lay_3 (by omega) (by omega) (by omega) dX3_init_35 rfl ?_
        refine G.nm (fun M18 e19 => ?_)
        have ZM18 : gZ zb M18 := gZ.set ZM13 (za_3 _) (by omega) e19
        refine g_iconst (n := 37) X dX3_init_36 rfl ?_
        refine g_istore_n (n := 38) (L' := [(2, gJ 0), (0, gA n0 2), (1, gJ x)]) X dX3_init_37 rfl (by decide) rfl rfl ?_
        have loop20 : ∀ (N22 : Nat) (y : Int) (M24 : gM), (∀ a : Int, a ≠ 3 → a ≠ 4 → M24 a = M18 a) → gZ zb M24 → M24 2 0 = 4 → M24 2 1 = 5 → (∀ i : Int, 0 ≤ i → i < x * 6 + y → (i % 7 = 0 → M24 4 i = 0) ∧ (¬ i % 7 = 0 → M24 4 i = 99)) → (∀ i : Int, 0 ≤ i → i < x + 1 → M24 3 i = 100) → (0 ≤ y ∧ y ≤ 6) → (6 - y).toNat < N22 → G p l e ({ frames := 4, cells := 2, slots := 42, locals := 120 } : Room) s m args below meth cd n0 D cA 3 (MQ below (gQv n0 D cA 5 (fun M1 => gZ zb M1 ∧ M1 2 0 = 4 ∧ M1 2 1 = 5 ∧ (∀ i : Int, 0 ≤ i → i < 6 → M1 3 i = 100) ∧ (∀ i : Int, 0 ≤ i → i < 36 → (i % 7 = 0 → M1 4 i = 0) ∧ (¬ i % 7 = 0 → M1 4 i = 99)) ∧ ∀ a : Int, a < 2 → M1 a = M a)) args s 2 42 (fun q => n0 ≤ q)) 2 42 M24 5 38 [(0, gA n0 2), (1, gJ x), (2, gJ y)] [] := by
          intro N22; induction N22 with
          | zero => intro y M24 F25 ZM24 g26 g27 iw ir iy hm23; exfalso; omega
          | succ N22 ih21 =>
            intro y M24 F25 ZM24 g26 g27 iw ir iy hm23
            refine g_iload_n (n := 39) X 2 dX3_init_38 rfl rfl rfl ?_
            refine g_bipush (n := 41) X dX3_init_39 (by decide +kernel) rfl ?_
            refine g_icmp_ge (n := 44) (tgt := 72) X dX3_init_41 (by decide) (by omega) (by omega) rfl (fun c28 => ?_) (fun c28 => ?_)
            · refine g_iinc (n := 75) (w := x + 1) (L' := [(1, gJ (x + 1)), (0, gA n0 2), (2, gJ y)]) X 1 dX3_init_72 rfl rfl (by decide) rfl rfl ?_
              refine g_goto (tgt := 22) X dX3_init_75 (by decide) ?_
              refine G.sub (L' := [(0, gA n0 2), (1, gJ (x + 1))]) [1, 0] rfl ?_
              exact ih10 (x + 1) M24 (fun a h0 h1 => ((F25 a (by omega) (by omega)).trans ((congrFun e19 a).trans ((gset_off a (by omega)).trans ((F14 a (by omega) (by omega)).trans rfl))))) ZM24 (g26.trans (by omega)) (g27.trans (by omega)) (by intro i h0 h1; exact iw i h0 (by omega)) (by exact ir) (by omega) (by omega)
            · refine g_aload_n (n := 45) X 0 dX3_init_44 rfl rfl rfl ?_
              refine gg_3_1 (n := 48) (z := 4) X (by omega) (by omega) lay_2 kw_1_43 dX3_init_45 rfl g27 (by omega) ?_
              refine g_iload_n (n := 49) X 1 dX3_init_48 rfl rfl rfl ?_
              refine g_bipush (n := 51) X dX3_init_49 (by decide +kernel) rfl ?_
              refine g_imul (n := 52) (z := x * 6) X dX3_init_51 rfl rfl ?_
              refine g_iload_n (n := 53) X 2 dX3_init_52 rfl rfl rfl ?_
              refine g_iadd (n := 54) (z := (x * 6) + y) X dX3_init_53 rfl rfl ?_
              refine g_iload_n (n := 55) X 1 dX3_init_54 rfl rfl rfl ?_
              refine g_iload_n (n := 56) X 2 dX3_init_55 rfl rfl rfl ?_
              refine g_icmp_ne (n := 59) (tgt := 63) X dX3_init_56 (by decide) (by omega) (by omega) rfl (fun c29 => ?_) (fun c29 => ?_)
              · refine g_bipush (n := 65) X dX3_init_63 (by decide +kernel) rfl ?_
                refine g_iast (n := 66) X (by omega) (by omega) lay_4 (by omega) (by omega) (by omega) dX3_init_65 rfl ?_
                refine G.nm (fun M30 e31 => ?_)
                have ZM30 : gZ zb M30 := gZ.set ZM24 (za_4 _) (by omega) e31
                refine g_iinc (n := 69) (w := y + 1) (L' := [(2, gJ (y + 1)), (0, gA n0 2), (1, gJ x)]) X 2 dX3_init_66 rfl rfl (by decide) rfl rfl ?_
                refine g_goto (tgt := 38) X dX3_init_69 (by decide) ?_
                refine G.sub (L' := [(0, gA n0 2), (1, gJ x), (2, gJ (y + 1))]) [1, 2, 0] rfl ?_
                exact ih21 (y + 1) M30 (fun a h0 h1 => ((congrFun e31 a).trans ((gset_off a (by omega)).trans ((F25 a (by omega) (by omega)).trans rfl)))) ZM30 (((congrFun (congrFun e31 _) _).trans ((gset_ne (by omega)).trans g26)).trans (by omega)) (((congrFun (congrFun e31 _) _).trans ((gset_ne (by omega)).trans g27)).trans (by omega)) (by intro i h0 h1; rw [e31, gset_at]; by_cases hh : i = x * 6 + y; (rw [if_pos ⟨rfl, hh⟩]; omega); (rw [if_neg (fun q => hh q.2)]; exact iw i h0 (by omega))) (by intro i h0 h1; rw [e31, gset_ne (by omega)]; exact ir i h0 h1) (by omega) (by omega)
              · refine g_iconst (n := 60) X dX3_init_59 rfl ?_
                refine g_goto (tgt := 65) X dX3_init_60 (by decide) ?_
                refine g_iast (n := 66) X (by omega) (by omega) lay_4 (by omega) (by omega) (by omega) dX3_init_65 rfl ?_
                refine G.nm (fun M32 e33 => ?_)
                have ZM32 : gZ zb M32 := gZ.set ZM24 (za_4 _) (by omega) e33
                refine g_iinc (n := 69) (w := y + 1) (L' := [(2, gJ (y + 1)), (0, gA n0 2), (1, gJ x)]) X 2 dX3_init_66 rfl rfl (by decide) rfl rfl ?_
                refine g_goto (tgt := 38) X dX3_init_69 (by decide) ?_
                refine G.sub (L' := [(0, gA n0 2), (1, gJ x), (2, gJ (y + 1))]) [1, 2, 0] rfl ?_
                exact ih21 (y + 1) M32 (fun a h0 h1 => ((congrFun e33 a).trans ((gset_off a (by omega)).trans ((F25 a (by omega) (by omega)).trans rfl)))) ZM32 (((congrFun (congrFun e33 _) _).trans ((gset_ne (by omega)).trans g26)).trans (by omega)) (((congrFun (congrFun e33 _) _).trans ((gset_ne (by omega)).trans g27)).trans (by omega)) (by intro i h0 h1; rw [e33, gset_at]; by_cases hh : i = x * 6 + y; (rw [if_pos ⟨rfl, hh⟩]; omega); (rw [if_neg (fun q => hh q.2)]; exact iw i h0 (by omega))) (by intro i h0 h1; rw [e33, gset_ne (by omega)]; exact ir i h0 h1) (by omega) (by omega)
        refine G.sub (L' := [(0, gA n0 2), (1, gJ x), (2, gJ 0)]) [1, 2, 0] rfl ?_
        exact loop20 _ 0 M18 (fun a _ _ => rfl) ZM18 (((congrFun (congrFun e19 _) _).trans ((gset_ne (by omega)).trans g15)).trans (by omega)) (((congrFun (congrFun e19 _) _).trans ((gset_ne (by omega)).trans g16)).trans (by omega)) (by intro i h0 h1; rw [e19, gset_ne (by omega)]; exact iw i h0 (by omega)) (by intro i h0 h1; rw [e19, gset_at]; by_cases hh : i = x; (rw [if_pos ⟨rfl, hh⟩]); (rw [if_neg (fun q => hh q.2)]; exact ir i h0 (by omega))) (by omega) (Nat.lt_succ_self _)
  refine G.sub (L' := [(0, gA n0 2), (1, gJ 0)]) [1, 0] rfl ?_
  exact loop9 _ 0 M7 (fun a _ _ => rfl) ZM7 (((congrFun (congrFun e8 _) _).trans ((gset_ne (by omega)).trans ((congrFun (congrFun e6 _) _).trans ((gnew_ne (by omega)).trans ((congrFun (congrFun e4 _) _).trans (gset_eq _ _ _ _)))))).trans (by omega)) (((congrFun (congrFun e8 _) _).trans (gset_eq _ _ _ _)).trans (by omega)) (by intro i h0 h1; omega) (by intro i h0 h1; omega) (by omega) (Nat.lt_succ_self _)
theorem dX2_init_0 : decode cX2_init 0 = .ok (.aload_n 0, 1) := dc_42 (by decide +kernel)
theorem dX2_init_1 : decode cX2_init 1 = .ok (.invokespecial 3, 3) := dc_183 0 3 (by decide +kernel)
theorem kw_1_94 : (Jvm.Cond.methodLink "ParishUnion$House" (3 : Nat) ({ cls := "java/lang/Object", name := "<init>", desc := "()V" } : Jvm.MethodName)) ∈ gT := gT_of (tb_1 _ (List.mem_of_getElem? (i := 94) rfl)) rfl
theorem dX2_init_4 : decode cX2_init 4 = .ok (.aload_n 0, 1) := dc_42 (by decide +kernel)
theorem dX2_init_5 : decode cX2_init 5 = .ok (.iconst 4, 1) := dc_7 (by decide +kernel)
theorem dX2_init_6 : decode cX2_init 6 = .ok (.newarray .int, 2) := by decide +kernel
theorem dX2_init_8 : decode cX2_init 8 = .ok (.putfield 9, 3) := dc_181 0 9 (by decide +kernel)
theorem zr_15_0 : gRg 15 0 = (17, 17) ∧ gCr 15 0 = false := by decide +kernel
theorem dX2_init_11 : decode cX2_init 11 = .ok (.aload_n 0, 1) := dc_42 (by decide +kernel)
theorem dX2_init_12 : decode cX2_init 12 = .ok (.sipush 301, 3) := dc_17 1 45 301 (by decide +kernel)
theorem dX2_init_15 : decode cX2_init 15 = .ok (.newarray .int, 2) := by decide +kernel
theorem dX2_init_17 : decode cX2_init 17 = .ok (.putfield 15, 3) := dc_181 0 15 (by decide +kernel)
theorem zr_15_1 : gRg 15 1 = (18, 18) ∧ gCr 15 1 = false := by decide +kernel
theorem dX2_init_20 : decode cX2_init 20 = .ok (.aload_n 0, 1) := dc_42 (by decide +kernel)
theorem dX2_init_21 : decode cX2_init 21 = .ok (.iconst 3, 1) := dc_6 (by decide +kernel)
theorem dX2_init_22 : decode cX2_init 22 = .ok (.newarray .int, 2) := by decide +kernel
theorem dX2_init_24 : decode cX2_init 24 = .ok (.putfield 18, 3) := dc_181 0 18 (by decide +kernel)
theorem zr_15_2 : gRg 15 2 = (19, 19) ∧ gCr 15 2 = false := by decide +kernel
theorem dX2_init_27 : decode cX2_init 27 = .ok (.aload_n 0, 1) := dc_42 (by decide +kernel)
theorem dX2_init_28 : decode cX2_init 28 = .ok (.bipush 30, 2) := dc_16 30 30 (by decide +kernel)
theorem dX2_init_30 : decode cX2_init 30 = .ok (.newarray .int, 2) := by decide +kernel
theorem dX2_init_32 : decode cX2_init 32 = .ok (.putfield 21, 3) := dc_181 0 21 (by decide +kernel)
theorem zr_15_3 : gRg 15 3 = (20, 20) ∧ gCr 15 3 = false := by decide +kernel
theorem dX2_init_35 : decode cX2_init 35 = .ok (.aload_n 0, 1) := dc_42 (by decide +kernel)
theorem dX2_init_36 : decode cX2_init 36 = .ok (.bipush 6, 2) := dc_16 6 6 (by decide +kernel)
theorem dX2_init_38 : decode cX2_init 38 = .ok (.newarray .int, 2) := by decide +kernel
theorem dX2_init_40 : decode cX2_init 40 = .ok (.putfield 24, 3) := dc_181 0 24 (by decide +kernel)
theorem zr_15_4 : gRg 15 4 = (21, 21) ∧ gCr 15 4 = false := by decide +kernel
theorem dX2_init_43 : decode cX2_init 43 = .ok (.aload_n 0, 1) := dc_42 (by decide +kernel)
theorem dX2_init_44 : decode cX2_init 44 = .ok (.bipush 6, 2) := dc_16 6 6 (by decide +kernel)
theorem dX2_init_46 : decode cX2_init 46 = .ok (.newarray .int, 2) := by decide +kernel
theorem dX2_init_48 : decode cX2_init 48 = .ok (.putfield 27, 3) := dc_181 0 27 (by decide +kernel)
theorem zr_15_5 : gRg 15 5 = (22, 22) ∧ gCr 15 5 = false := by decide +kernel
theorem dX2_init_51 : decode cX2_init 51 = .ok (.aload_n 0, 1) := dc_42 (by decide +kernel)
theorem dX2_init_52 : decode cX2_init 52 = .ok (.bipush 6, 2) := dc_16 6 6 (by decide +kernel)
theorem dX2_init_54 : decode cX2_init 54 = .ok (.newarray .int, 2) := by decide +kernel
theorem dX2_init_56 : decode cX2_init 56 = .ok (.putfield 30, 3) := dc_181 0 30 (by decide +kernel)
theorem zr_15_6 : gRg 15 6 = (23, 23) ∧ gCr 15 6 = false := by decide +kernel
theorem dX2_init_59 : decode cX2_init 59 = .ok (.aload_n 0, 1) := dc_42 (by decide +kernel)
theorem dX2_init_60 : decode cX2_init 60 = .ok (.iconst 1, 1) := dc_4 (by decide +kernel)
theorem dX2_init_61 : decode cX2_init 61 = .ok (.putfield 33, 3) := dc_181 0 33 (by decide +kernel)
theorem zr_15_9 : gRg 15 9 = (-2147483648, 2147483647) ∧ gCr 15 9 = false := by decide +kernel
theorem dX2_init_64 : decode cX2_init 64 = .ok (.iconst 0, 1) := dc_3 (by decide +kernel)
theorem dX2_init_65 : decode cX2_init 65 = .ok (.istore_n 1, 1) := dc_60 (by decide +kernel)
theorem dX2_init_66 : decode cX2_init 66 = .ok (.iload_n 1, 1) := dc_27 (by decide +kernel)
theorem dX2_init_67 : decode cX2_init 67 = .ok (.iconst 4, 1) := dc_7 (by decide +kernel)
theorem dX2_init_68 : decode cX2_init 68 = .ok (.if_icmp .ge 16, 3) := dc_162 0 16 16 (by decide +kernel)
theorem dX2_init_84 : decode cX2_init 84 = .ok (.return_, 1) := dc_177 (by decide +kernel)
theorem dX2_init_71 : decode cX2_init 71 = .ok (.aload_n 0, 1) := dc_42 (by decide +kernel)
theorem dX2_init_72 : decode cX2_init 72 = .ok (.getfield 9, 3) := dc_180 0 9 (by decide +kernel)
theorem dX2_init_75 : decode cX2_init 75 = .ok (.iload_n 1, 1) := dc_27 (by decide +kernel)
theorem dX2_init_76 : decode cX2_init 76 = .ok (.iconst 2, 1) := dc_5 (by decide +kernel)
theorem dX2_init_77 : decode cX2_init 77 = .ok (.iastore, 1) := dc_79 (by decide +kernel)
theorem za_16 (k : Int) : gRg 16 k = (-2147483648, 2147483647) ∧ gCr 16 k = false := ⟨rfl, rfl⟩
theorem dX2_init_78 : decode cX2_init 78 = .ok (.iinc 1 1, 3) := dc_132 1 1 1 (by decide +kernel)
theorem dX2_init_81 : decode cX2_init 81 = .ok (.goto (-15), 3) := dc_167 255 241 (-15) (by decide +kernel)
set_option maxRecDepth 100000 in
set_option maxHeartbeats 4000000 in
theorem c_X2_init_15 {l : Launch} {n0 : Nat} {D : va_G} {cA : Nat → ClassId} {M : gM}  (f_15_7 : M 15 7 = 0) (f_15_8 : M 15 8 = 0) {zb : Int} (ZM : gZ zb M) : Met l yX2_init (gWsOf yX2_init cX2_init 2 (Option.none : Option Jvm.ClassFile.FieldType)) { frames := 4, cells := 7, slots := 356, locals := 120 } (gPc n0 D cA [gA n0 15] M 16) (gQv n0 D cA 23 (fun M1 => gZ zb M1 ∧ M1 15 0 = 17 ∧ M1 15 1 = 18 ∧ M1 15 2 = 19 ∧ M1 15 3 = 20 ∧ M1 15 4 = 21 ∧ M1 15 5 = 22 ∧ M1 15 6 = 23 ∧ M1 15 7 = 0 ∧ M1 15 8 = 0 ∧ M1 15 9 = 1 ∧ (∀ i : Int, 0 ≤ i → i < 4 → M1 16 i = 2) ∧ (∀ i : Int, M1 17 i = 0) ∧ (∀ i : Int, M1 18 i = 0) ∧ ∀ a : Int, a < 15 → M1 a = M a)) 7 356 (fun q => n0 ≤ q) := by
  refine gMet_of [gA n0 15] (by decide) (Nat.le_of_ble_eq_true rfl) ?_
  intro p e s m args below meth cd X hr hm
  have X : gCx p s m args meth cd n0 D cA "ParishUnion$House" cX2_init 2 := X
  show G p l e ({ frames := 4, cells := 7, slots := 356, locals := 120 } : Room) s m args below meth cd n0 D cA 2 (MQ below (gQv n0 D cA 23 (fun M1 => gZ zb M1 ∧ M1 15 0 = 17 ∧ M1 15 1 = 18 ∧ M1 15 2 = 19 ∧ M1 15 3 = 20 ∧ M1 15 4 = 21 ∧ M1 15 5 = 22 ∧ M1 15 6 = 23 ∧ M1 15 7 = 0 ∧ M1 15 8 = 0 ∧ M1 15 9 = 1 ∧ (∀ i : Int, 0 ≤ i → i < 4 → M1 16 i = 2) ∧ (∀ i : Int, M1 17 i = 0) ∧ (∀ i : Int, M1 18 i = 0) ∧ ∀ a : Int, a < 15 → M1 a = M a)) args s 7 356 (fun q => n0 ≤ q)) 0 0 M 16 0 [(0, gA n0 15)] []
  refine g_aload_n (n := 1) X 0 dX2_init_0 rfl rfl rfl ?_
  refine g_objInit (n := 4) X kw_1_94 kw_1_27 kw_1_28 rfl dX2_init_1 (Nat.le_of_ble_eq_true rfl) (Nat.le_of_ble_eq_true rfl) rfl ?_
  refine g_aload_n (n := 5) X 0 dX2_init_4 rfl rfl rfl ?_
  refine g_iconst (n := 6) X dX2_init_5 rfl ?_
  refine g_newI (n := 8) (N := 4) X (by omega) (by omega) kw_1_49 lay_16 (Nat.le_of_ble_eq_true rfl) (Nat.le_of_ble_eq_true rfl) dX2_init_6 rfl ?_
  refine G.nm (fun M1 e2 => ?_)
  have ZM1 : gZ zb M1 := gZ.new ZM e2
  refine gp_2_0 (n := 11) X (by omega) (by omega) lay_15 kw_1_95 (by omega) hm rfl dX2_init_8 rfl ?_
  refine G.nm (fun M3 e4 => ?_)
  have ZM3 : gZ zb M3 := gZ.set ZM1 zr_15_0 (by omega) e4
  refine g_aload_n (n := 12) X 0 dX2_init_11 rfl rfl rfl ?_
  refine g_sipush (n := 15) X dX2_init_12 (by decide +kernel) rfl ?_
  refine g_newI (n := 17) (N := 301) X (by omega) (by omega) kw_1_49 lay_17 (Nat.le_of_ble_eq_true rfl) (Nat.le_of_ble_eq_true rfl) dX2_init_15 rfl ?_
  refine G.nm (fun M5 e6 => ?_)
  have ZM5 : gZ zb M5 := gZ.new ZM3 e6
  refine gp_2_1 (n := 20) X (by omega) (by omega) lay_15 kw_1_98 (by omega) hm rfl dX2_init_17 rfl ?_
  refine G.nm (fun M7 e8 => ?_)
  have ZM7 : gZ zb M7 := gZ.set ZM5 zr_15_1 (by omega) e8
  refine g_aload_n (n := 21) X 0 dX2_init_20 rfl rfl rfl ?_
  refine g_iconst (n := 22) X dX2_init_21 rfl ?_
  refine g_newI (n := 24) (N := 3) X (by omega) (by omega) kw_1_49 lay_18 (Nat.le_of_ble_eq_true rfl) (Nat.le_of_ble_eq_true rfl) dX2_init_22 rfl ?_
  refine G.nm (fun M9 e10 => ?_)
  have ZM9 : gZ zb M9 := gZ.new ZM7 e10
  refine gp_2_2 (n := 27) X (by omega) (by omega) lay_15 kw_1_101 (by omega) hm rfl dX2_init_24 rfl ?_
  refine G.nm (fun M11 e12 => ?_)
  have ZM11 : gZ zb M11 := gZ.set ZM9 zr_15_2 (by omega) e12
  refine g_aload_n (n := 28) X 0 dX2_init_27 rfl rfl rfl ?_
  refine g_bipush (n := 30) X dX2_init_28 (by decide +kernel) rfl ?_
  refine g_newI (n := 32) (N := 30) X (by omega) (by omega) kw_1_49 lay_19 (Nat.le_of_ble_eq_true rfl) (Nat.le_of_ble_eq_true rfl) dX2_init_30 rfl ?_
  refine G.nm (fun M13 e14 => ?_)
  have ZM13 : gZ zb M13 := gZ.new ZM11 e14
  refine gp_2_3 (n := 35) X (by omega) (by omega) lay_15 kw_1_103 (by omega) hm rfl dX2_init_32 rfl ?_
  refine G.nm (fun M15 e16 => ?_)
  have ZM15 : gZ zb M15 := gZ.set ZM13 zr_15_3 (by omega) e16
  refine g_aload_n (n := 36) X 0 dX2_init_35 rfl rfl rfl ?_
  refine g_bipush (n := 38) X dX2_init_36 (by decide +kernel) rfl ?_
  refine g_newI (n := 40) (N := 6) X (by omega) (by omega) kw_1_49 lay_20 (Nat.le_of_ble_eq_true rfl) (Nat.le_of_ble_eq_true rfl) dX2_init_38 rfl ?_
  refine G.nm (fun M17 e18 => ?_)
  have ZM17 : gZ zb M17 := gZ.new ZM15 e18
  refine gp_2_4 (n := 43) X (by omega) (by omega) lay_15 kw_1_104 (by omega) hm rfl dX2_init_40 rfl ?_
  refine G.nm (fun M19 e20 => ?_)
  have ZM19 : gZ zb M19 := gZ.set ZM17 zr_15_4 (by omega) e20
  refine g_aload_n (n := 44) X 0 dX2_init_43 rfl rfl rfl ?_
  refine g_bipush (n := 46) X dX2_init_44 (by decide +kernel) rfl ?_
  refine g_newI (n := 48) (N := 6) X (by omega) (by omega) kw_1_49 lay_21 (Nat.le_of_ble_eq_true rfl) (Nat.le_of_ble_eq_true rfl) dX2_init_46 rfl ?_
  refine G.nm (fun M21 e22 => ?_)
  have ZM21 : gZ zb M21 := gZ.new ZM19 e22
  refine gp_2_5 (n := 51) X (by omega) (by omega) lay_15 kw_1_105 (by omega) hm rfl dX2_init_48 rfl ?_
  refine G.nm (fun M23 e24 => ?_)
  have ZM23 : gZ zb M23 := gZ.set ZM21 zr_15_5 (by omega) e24
  refine g_aload_n (n := 52) X 0 dX2_init_51 rfl rfl rfl ?_
  refine g_bipush (n := 54) X dX2_init_52 (by decide +kernel) rfl ?_
  refine g_newI (n := 56) (N := 6) X (by omega) (by omega) kw_1_49 lay_22 (Nat.le_of_ble_eq_true rfl) (Nat.le_of_ble_eq_true rfl) dX2_init_54 rfl ?_
  refine G.nm (fun M25 e26 => ?_)
  have ZM25 : gZ zb M25 := gZ.new ZM23 e26
  refine gp_2_6 (n := 59) X (by omega) (by omega) lay_15 kw_1_106 (by omega) hm rfl dX2_init_56 rfl ?_
  refine G.nm (fun M27 e28 => ?_)
  have ZM27 : gZ zb M27 := gZ.set ZM25 zr_15_6 (by omega) e28
  refine g_aload_n (n := 60) X 0 dX2_init_59 rfl rfl rfl ?_
  refine g_iconst (n := 61) X dX2_init_60 rfl ?_
  refine gp_2_9 (n := 64) X (by omega) (by omega) lay_15 kw_1_112 dX2_init_61 rfl ?_
  refine G.nm (fun M29 e30 => ?_)
  have ZM29 : gZ zb M29 := gZ.set ZM27 zr_15_9 (by omega) e30
  refine g_iconst (n := 65) X dX2_init_64 rfl ?_
  refine g_istore_n (n := 66) (L' := [(1, gJ 0), (0, gA n0 15)]) X dX2_init_65 rfl (by decide) rfl rfl ?_
  have loop31 : ∀ (N33 : Nat) (x : Int) (M35 : gM), (∀ a : Int, a ≠ 16 → M35 a = M29 a) → gZ zb M35 → (∀ i : Int, 0 ≤ i → i < x → M35 16 i = 2) → (0 ≤ x ∧ x ≤ 4) → (4 - x).toNat < N33 → G p l e ({ frames := 4, cells := 7, slots := 356, locals := 120 } : Room) s m args below meth cd n0 D cA 2 (MQ below (gQv n0 D cA 23 (fun M1 => gZ zb M1 ∧ M1 15 0 = 17 ∧ M1 15 1 = 18 ∧ M1 15 2 = 19 ∧ M1 15 3 = 20 ∧ M1 15 4 = 21 ∧ M1 15 5 = 22 ∧ M1 15 6 = 23 ∧ M1 15 7 = 0 ∧ M1 15 8 = 0 ∧ M1 15 9 = 1 ∧ (∀ i : Int, 0 ≤ i → i < 4 → M1 16 i = 2) ∧ (∀ i : Int, M1 17 i = 0) ∧ (∀ i : Int, M1 18 i = 0) ∧ ∀ a : Int, a < 15 → M1 a = M a)) args s 7 356 (fun q => n0 ≤ q)) 7 356 M35 23 66 [(0, gA n0 15), (1, gJ x)] [] := by
    intro N33; induction N33 with
    | zero => intro x M35 F36 ZM35 ib ix hm34; exfalso; omega
    | succ N33 ih32 =>
      intro x M35 F36 ZM35 ib ix hm34
      refine g_iload_n (n := 67) X 1 dX2_init_66 rfl rfl rfl ?_
      refine g_iconst (n := 68) X dX2_init_67 rfl ?_
      refine g_icmp_ge (n := 71) (tgt := 84) X dX2_init_68 (by decide) (by omega) (by omega) rfl (fun c37 => ?_) (fun c37 => ?_)
      · exact g_return X hr dX2_init_84 (by exact ⟨ZM35, ((congrFun (F36 15 (by omega)) _).trans ((congrFun (congrFun e30 _) _).trans ((gset_ne (by omega)).trans ((congrFun (congrFun e28 _) _).trans ((gset_ne (by omega)).trans ((congrFun (congrFun e26 _) _).trans ((gnew_ne (by omega)).trans ((congrFun (congrFun e24 _) _).trans ((gset_ne (by omega)).trans ((congrFun (congrFun e22 _) _).trans ((gnew_ne (by omega)).trans ((congrFun (congrFun e20 _) _).trans ((gset_ne (by omega)).trans ((congrFun (congrFun e18 _) _).trans ((gnew_ne (by omega)).trans ((congrFun (congrFun e16 _) _).trans ((gset_ne (by omega)).trans ((congrFun (congrFun e14 _) _).trans ((gnew_ne (by omega)).trans ((congrFun (congrFun e12 _) _).trans ((gset_ne (by omega)).trans ((congrFun (congrFun e10 _) _).trans ((gnew_ne (by omega)).trans ((congrFun (congrFun e8 _) _).trans ((gset_ne (by omega)).trans ((congrFun (congrFun e6 _) _).trans ((gnew_ne (by omega)).trans ((congrFun (congrFun e4 _) _).trans (gset_eq _ _ _ _))))))))))))))))))))))))))))), ((congrFun (F36 15 (by omega)) _).trans ((congrFun (congrFun e30 _) _).trans ((gset_ne (by omega)).trans ((congrFun (congrFun e28 _) _).trans ((gset_ne (by omega)).trans ((congrFun (congrFun e26 _) _).trans ((gnew_ne (by omega)).trans ((congrFun (congrFun e24 _) _).trans ((gset_ne (by omega)).trans ((congrFun (congrFun e22 _) _).trans ((gnew_ne (by omega)).trans ((congrFun (congrFun e20 _) _).trans ((gset_ne (by omega)).trans ((congrFun (congrFun e18 _) _).trans ((gnew_ne (by omega)).trans ((congrFun (congrFun e16 _) _).trans ((gset_ne (by omega)).trans ((congrFun (congrFun e14 _) _).trans ((gnew_ne (by omega)).trans ((congrFun (congrFun e12 _) _).trans ((gset_ne (by omega)).trans ((congrFun (congrFun e10 _) _).trans ((gnew_ne (by omega)).trans ((congrFun (congrFun e8 _) _).trans (gset_eq _ _ _ _))))))))))))))))))))))))), ((congrFun (F36 15 (by omega)) _).trans ((congrFun (congrFun e30 _) _).trans ((gset_ne (by omega)).trans ((congrFun (congrFun e28 _) _).trans ((gset_ne (by omega)).trans ((congrFun (congrFun e26 _) _).trans ((gnew_ne (by omega)).trans ((congrFun (congrFun e24 _) _).trans ((gset_ne (by omega)).trans ((congrFun (congrFun e22 _) _).trans ((gnew_ne (by omega)).trans ((congrFun (congrFun e20 _) _).trans ((gset_ne (by omega)).trans ((congrFun (congrFun e18 _) _).trans ((gnew_ne (by omega)).trans ((congrFun (congrFun e16 _) _).trans ((gset_ne (by omega)).trans ((congrFun (congrFun e14 _) _).trans ((gnew_ne (by omega)).trans ((congrFun (congrFun e12 _) _).trans (gset_eq _ _ _ _))))))))))))))))))))), ((congrFun (F36 15 (by omega)) _).trans ((congrFun (congrFun e30 _) _).trans ((gset_ne (by omega)).trans ((congrFun (congrFun e28 _) _).trans ((gset_ne (by omega)).trans ((congrFun (congrFun e26 _) _).trans ((gnew_ne (by omega)).trans ((congrFun (congrFun e24 _) _).trans ((gset_ne (by omega)).trans ((congrFun (congrFun e22 _) _).trans ((gnew_ne (by omega)).trans ((congrFun (congrFun e20 _) _).trans ((gset_ne (by omega)).trans ((congrFun (congrFun e18 _) _).trans ((gnew_ne (by omega)).trans ((congrFun (congrFun e16 _) _).trans (gset_eq _ _ _ _))))))))))))))))), ((congrFun (F36 15 (by omega)) _).trans ((congrFun (congrFun e30 _) _).trans ((gset_ne (by omega)).trans ((congrFun (congrFun e28 _) _).trans ((gset_ne (by omega)).trans ((congrFun (congrFun e26 _) _).trans ((gnew_ne (by omega)).trans ((congrFun (congrFun e24 _) _).trans ((gset_ne (by omega)).trans ((congrFun (congrFun e22 _) _).trans ((gnew_ne (by omega)).trans ((congrFun (congrFun e20 _) _).trans (gset_eq _ _ _ _))))))))))))), ((congrFun (F36 15 (by omega)) _).trans ((congrFun (congrFun e30 _) _).trans ((gset_ne (by omega)).trans ((congrFun (congrFun e28 _) _).trans ((gset_ne (by omega)).trans ((congrFun (congrFun e26 _) _).trans ((gnew_ne (by omega)).trans ((congrFun (congrFun e24 _) _).trans (gset_eq _ _ _ _))))))))), ((congrFun (F36 15 (by omega)) _).trans ((congrFun (congrFun e30 _) _).trans ((gset_ne (by omega)).trans ((congrFun (congrFun e28 _) _).trans (gset_eq _ _ _ _))))), ((congrFun (F36 15 (by omega)) _).trans ((congrFun (congrFun e30 _) _).trans ((gset_ne (by omega)).trans ((congrFun (congrFun e28 _) _).trans ((gset_ne (by omega)).trans ((congrFun (congrFun e26 _) _).trans ((gnew_ne (by omega)).trans ((congrFun (congrFun e24 _) _).trans ((gset_ne (by omega)).trans ((congrFun (congrFun e22 _) _).trans ((gnew_ne (by omega)).trans ((congrFun (congrFun e20 _) _).trans ((gset_ne (by omega)).trans ((congrFun (congrFun e18 _) _).trans ((gnew_ne (by omega)).trans ((congrFun (congrFun e16 _) _).trans ((gset_ne (by omega)).trans ((congrFun (congrFun e14 _) _).trans ((gnew_ne (by omega)).trans ((congrFun (congrFun e12 _) _).trans ((gset_ne (by omega)).trans ((congrFun (congrFun e10 _) _).trans ((gnew_ne (by omega)).trans ((congrFun (congrFun e8 _) _).trans ((gset_ne (by omega)).trans ((congrFun (congrFun e6 _) _).trans ((gnew_ne (by omega)).trans ((congrFun (congrFun e4 _) _).trans ((gset_ne (by omega)).trans ((congrFun (congrFun e2 _) _).trans ((gnew_ne (by omega)).trans f_15_7))))))))))))))))))))))))))))))), ((congrFun (F36 15 (by omega)) _).trans ((congrFun (congrFun e30 _) _).trans ((gset_ne (by omega)).trans ((congrFun (congrFun e28 _) _).trans ((gset_ne (by omega)).trans ((congrFun (congrFun e26 _) _).trans ((gnew_ne (by omega)).trans ((congrFun (congrFun e24 _) _).trans ((gset_ne (by omega)).trans ((congrFun (congrFun e22 _) _).trans ((gnew_ne (by omega)).trans ((congrFun (congrFun e20 _) _).trans ((gset_ne (by omega)).trans ((congrFun (congrFun e18 _) _).trans ((gnew_ne (by omega)).trans ((congrFun (congrFun e16 _) _).trans ((gset_ne (by omega)).trans ((congrFun (congrFun e14 _) _).trans ((gnew_ne (by omega)).trans ((congrFun (congrFun e12 _) _).trans ((gset_ne (by omega)).trans ((congrFun (congrFun e10 _) _).trans ((gnew_ne (by omega)).trans ((congrFun (congrFun e8 _) _).trans ((gset_ne (by omega)).trans ((congrFun (congrFun e6 _) _).trans ((gnew_ne (by omega)).trans ((congrFun (congrFun e4 _) _).trans ((gset_ne (by omega)).trans ((congrFun (congrFun e2 _) _).trans ((gnew_ne (by omega)).trans f_15_8))))))))))))))))))))))))))))))), ((congrFun (F36 15 (by omega)) _).trans ((congrFun (congrFun e30 _) _).trans (gset_eq _ _ _ _))), (by intro i h0 h1; exact ib i h0 (by omega)), (by intro i; rw [show M35 17 = M5 17 from ((F36 17 (by omega)).trans ((congrFun e30 _).trans ((gset_off _ (by omega)).trans ((congrFun e28 _).trans ((gset_off _ (by omega)).trans ((congrFun e26 _).trans ((gnew_off _ (by omega)).trans ((congrFun e24 _).trans ((gset_off _ (by omega)).trans ((congrFun e22 _).trans ((gnew_off _ (by omega)).trans ((congrFun e20 _).trans ((gset_off _ (by omega)).trans ((congrFun e18 _).trans ((gnew_off _ (by omega)).trans ((congrFun e16 _).trans ((gset_off _ (by omega)).trans ((congrFun e14 _).trans ((gnew_off _ (by omega)).trans ((congrFun e12 _).trans ((gset_off _ (by omega)).trans ((congrFun e10 _).trans ((gnew_off _ (by omega)).trans ((congrFun e8 _).trans ((gset_off _ (by omega)).trans rfl))))))))))))))))))))))))), e6]; exact gnew_eq _ _ _), (by intro i; rw [show M35 18 = M9 18 from ((F36 18 (by omega)).trans ((congrFun e30 _).trans ((gset_off _ (by omega)).trans ((congrFun e28 _).trans ((gset_off _ (by omega)).trans ((congrFun e26 _).trans ((gnew_off _ (by omega)).trans ((congrFun e24 _).trans ((gset_off _ (by omega)).trans ((congrFun e22 _).trans ((gnew_off _ (by omega)).trans ((congrFun e20 _).trans ((gset_off _ (by omega)).trans ((congrFun e18 _).trans ((gnew_off _ (by omega)).trans ((congrFun e16 _).trans ((gset_off _ (by omega)).trans ((congrFun e14 _).trans ((gnew_off _ (by omega)).trans ((congrFun e12 _).trans ((gset_off _ (by omega)).trans rfl))))))))))))))))))))), e10]; exact gnew_eq _ _ _), fun a h0 => ((F36 a (by omega)).trans ((congrFun e30 a).trans ((gset_off a (by omega)).trans ((congrFun e28 a).trans ((gset_off a (by omega)).trans ((congrFun e26 a).trans ((gnew_off a (by omega)).trans ((congrFun e24 a).trans ((gset_off a (by omega)).trans ((congrFun e22 a).trans ((gnew_off a (by omega)).trans ((congrFun e20 a).trans ((gset_off a (by omega)).trans ((congrFun e18 a).trans ((gnew_off a (by omega)).trans ((congrFun e16 a).trans ((gset_off a (by omega)).trans ((congrFun e14 a).trans ((gnew_off a (by omega)).trans ((congrFun e12 a).trans ((gset_off a (by omega)).trans ((congrFun e10 a).trans ((gnew_off a (by omega)).trans ((congrFun e8 a).trans ((gset_off a (by omega)).trans ((congrFun e6 a).trans ((gnew_off a (by omega)).trans ((congrFun e4 a).trans ((gset_off a (by omega)).trans ((congrFun e2 a).trans ((gnew_off a (by omega)).trans rfl)))))))))))))))))))))))))))))))⟩)
      · refine g_aload_n (n := 72) X 0 dX2_init_71 rfl rfl rfl ?_
        refine gg_2_0 (n := 75) (z := 16) X (by omega) (by omega) lay_15 kw_1_95 dX2_init_72 rfl ((congrFun (F36 15 (by omega)) _).trans ((congrFun (congrFun e30 _) _).trans ((gset_ne (by omega)).trans ((congrFun (congrFun e28 _) _).trans ((gset_ne (by omega)).trans ((congrFun (congrFun e26 _) _).trans ((gnew_ne (by omega)).trans ((congrFun (congrFun e24 _) _).trans ((gset_ne (by omega)).trans ((congrFun (congrFun e22 _) _).trans ((gnew_ne (by omega)).trans ((congrFun (congrFun e20 _) _).trans ((gset_ne (by omega)).trans ((congrFun (congrFun e18 _) _).trans ((gnew_ne (by omega)).trans ((congrFun (congrFun e16 _) _).trans ((gset_ne (by omega)).trans ((congrFun (congrFun e14 _) _).trans ((gnew_ne (by omega)).trans ((congrFun (congrFun e12 _) _).trans ((gset_ne (by omega)).trans ((congrFun (congrFun e10 _) _).trans ((gnew_ne (by omega)).trans ((congrFun (congrFun e8 _) _).trans ((gset_ne (by omega)).trans ((congrFun (congrFun e6 _) _).trans ((gnew_ne (by omega)).trans ((congrFun (congrFun e4 _) _).trans (gset_eq _ _ _ _))))))))))))))))))))))))))))) (by omega) ?_
        refine g_iload_n (n := 76) X 1 dX2_init_75 rfl rfl rfl ?_
        refine g_iconst (n := 77) X dX2_init_76 rfl ?_
        refine g_iast (n := 78) X (by omega) (by omega) lay_16 (by omega) (by omega) (by omega) dX2_init_77 rfl ?_
        refine G.nm (fun M38 e39 => ?_)
        have ZM38 : gZ zb M38 := gZ.set ZM35 (za_16 _) (by omega) e39
        refine g_iinc (n := 81) (w := x + 1) (L' := [(1, gJ (x + 1)), (0, gA n0 15)]) X 1 dX2_init_78 rfl rfl (by decide) rfl rfl ?_
        refine g_goto (tgt := 66) X dX2_init_81 (by decide) ?_
        refine G.sub (L' := [(0, gA n0 15), (1, gJ (x + 1))]) [1, 0] rfl ?_
        exact ih32 (x + 1) M38 (fun a h0 => ((congrFun e39 a).trans ((gset_off a (by omega)).trans ((F36 a (by omega)).trans rfl)))) ZM38 (by intro i h0 h1; rw [e39, gset_at]; by_cases hh : i = x; (rw [if_pos ⟨rfl, hh⟩]); (rw [if_neg (fun q => hh q.2)]; exact ib i h0 (by omega))) (by omega) (by omega)
  refine G.sub (L' := [(0, gA n0 15), (1, gJ 0)]) [1, 0] rfl ?_
  exact loop31 _ 0 M29 (fun a _ => rfl) ZM29 (by intro i h0 h1; omega) (by omega) (Nat.lt_succ_self _)
theorem zr_162_0 : gRg 162 0 = (164, 164) ∧ gCr 162 0 = false := by decide +kernel
theorem zr_162_1 : gRg 162 1 = (165, 165) ∧ gCr 162 1 = false := by decide +kernel
theorem zr_162_2 : gRg 162 2 = (166, 166) ∧ gCr 162 2 = false := by decide +kernel
theorem zr_162_3 : gRg 162 3 = (167, 167) ∧ gCr 162 3 = false := by decide +kernel
theorem zr_162_4 : gRg 162 4 = (168, 168) ∧ gCr 162 4 = false := by decide +kernel
theorem zr_162_5 : gRg 162 5 = (169, 169) ∧ gCr 162 5 = false := by decide +kernel
theorem zr_162_6 : gRg 162 6 = (170, 170) ∧ gCr 162 6 = false := by decide +kernel
theorem zr_162_9 : gRg 162 9 = (-2147483648, 2147483647) ∧ gCr 162 9 = false := by decide +kernel
theorem za_163 (k : Int) : gRg 163 k = (-2147483648, 2147483647) ∧ gCr 163 k = false := ⟨rfl, rfl⟩
set_option maxRecDepth 100000 in
set_option maxHeartbeats 4000000 in
theorem c_X2_init_162 {l : Launch} {n0 : Nat} {D : va_G} {cA : Nat → ClassId} {M : gM}  (f_162_7 : M 162 7 = 0) (f_162_8 : M 162 8 = 0) {zb : Int} (ZM : gZ zb M) : Met l yX2_init (gWsOf yX2_init cX2_init 2 (Option.none : Option Jvm.ClassFile.FieldType)) { frames := 4, cells := 7, slots := 356, locals := 120 } (gPc n0 D cA [gA n0 162] M 163) (gQv n0 D cA 170 (fun M1 => gZ zb M1 ∧ M1 162 0 = 164 ∧ M1 162 1 = 165 ∧ M1 162 2 = 166 ∧ M1 162 3 = 167 ∧ M1 162 4 = 168 ∧ M1 162 5 = 169 ∧ M1 162 6 = 170 ∧ M1 162 7 = 0 ∧ M1 162 8 = 0 ∧ M1 162 9 = 1 ∧ (∀ i : Int, 0 ≤ i → i < 4 → M1 163 i = 2) ∧ (∀ i : Int, M1 164 i = 0) ∧ (∀ i : Int, M1 165 i = 0) ∧ ∀ a : Int, a < 162 → M1 a = M a)) 7 356 (fun q => n0 ≤ q) := by
  refine gMet_of [gA n0 162] (by decide) (Nat.le_of_ble_eq_true rfl) ?_
  intro p e s m args below meth cd X hr hm
  have X : gCx p s m args meth cd n0 D cA "ParishUnion$House" cX2_init 2 := X
  show G p l e ({ frames := 4, cells := 7, slots := 356, locals := 120 } : Room) s m args below meth cd n0 D cA 2 (MQ below (gQv n0 D cA 170 (fun M1 => gZ zb M1 ∧ M1 162 0 = 164 ∧ M1 162 1 = 165 ∧ M1 162 2 = 166 ∧ M1 162 3 = 167 ∧ M1 162 4 = 168 ∧ M1 162 5 = 169 ∧ M1 162 6 = 170 ∧ M1 162 7 = 0 ∧ M1 162 8 = 0 ∧ M1 162 9 = 1 ∧ (∀ i : Int, 0 ≤ i → i < 4 → M1 163 i = 2) ∧ (∀ i : Int, M1 164 i = 0) ∧ (∀ i : Int, M1 165 i = 0) ∧ ∀ a : Int, a < 162 → M1 a = M a)) args s 7 356 (fun q => n0 ≤ q)) 0 0 M 163 0 [(0, gA n0 162)] []
  refine g_aload_n (n := 1) X 0 dX2_init_0 rfl rfl rfl ?_
  refine g_objInit (n := 4) X kw_1_94 kw_1_27 kw_1_28 rfl dX2_init_1 (Nat.le_of_ble_eq_true rfl) (Nat.le_of_ble_eq_true rfl) rfl ?_
  refine g_aload_n (n := 5) X 0 dX2_init_4 rfl rfl rfl ?_
  refine g_iconst (n := 6) X dX2_init_5 rfl ?_
  refine g_newI (n := 8) (N := 4) X (by omega) (by omega) kw_1_49 lay_163 (Nat.le_of_ble_eq_true rfl) (Nat.le_of_ble_eq_true rfl) dX2_init_6 rfl ?_
  refine G.nm (fun M1 e2 => ?_)
  have ZM1 : gZ zb M1 := gZ.new ZM e2
  refine gp_2_0 (n := 11) X (by omega) (by omega) lay_162 kw_1_95 (by omega) hm rfl dX2_init_8 rfl ?_
  refine G.nm (fun M3 e4 => ?_)
  have ZM3 : gZ zb M3 := gZ.set ZM1 zr_162_0 (by omega) e4
  refine g_aload_n (n := 12) X 0 dX2_init_11 rfl rfl rfl ?_
  refine g_sipush (n := 15) X dX2_init_12 (by decide +kernel) rfl ?_
  refine g_newI (n := 17) (N := 301) X (by omega) (by omega) kw_1_49 lay_164 (Nat.le_of_ble_eq_true rfl) (Nat.le_of_ble_eq_true rfl) dX2_init_15 rfl ?_
  refine G.nm (fun M5 e6 => ?_)
  have ZM5 : gZ zb M5 := gZ.new ZM3 e6
  refine gp_2_1 (n := 20) X (by omega) (by omega) lay_162 kw_1_98 (by omega) hm rfl dX2_init_17 rfl ?_
  refine G.nm (fun M7 e8 => ?_)
  have ZM7 : gZ zb M7 := gZ.set ZM5 zr_162_1 (by omega) e8
  refine g_aload_n (n := 21) X 0 dX2_init_20 rfl rfl rfl ?_
  refine g_iconst (n := 22) X dX2_init_21 rfl ?_
  refine g_newI (n := 24) (N := 3) X (by omega) (by omega) kw_1_49 lay_165 (Nat.le_of_ble_eq_true rfl) (Nat.le_of_ble_eq_true rfl) dX2_init_22 rfl ?_
  refine G.nm (fun M9 e10 => ?_)
  have ZM9 : gZ zb M9 := gZ.new ZM7 e10
  refine gp_2_2 (n := 27) X (by omega) (by omega) lay_162 kw_1_101 (by omega) hm rfl dX2_init_24 rfl ?_
  refine G.nm (fun M11 e12 => ?_)
  have ZM11 : gZ zb M11 := gZ.set ZM9 zr_162_2 (by omega) e12
  refine g_aload_n (n := 28) X 0 dX2_init_27 rfl rfl rfl ?_
  refine g_bipush (n := 30) X dX2_init_28 (by decide +kernel) rfl ?_
  refine g_newI (n := 32) (N := 30) X (by omega) (by omega) kw_1_49 lay_166 (Nat.le_of_ble_eq_true rfl) (Nat.le_of_ble_eq_true rfl) dX2_init_30 rfl ?_
  refine G.nm (fun M13 e14 => ?_)
  have ZM13 : gZ zb M13 := gZ.new ZM11 e14
  refine gp_2_3 (n := 35) X (by omega) (by omega) lay_162 kw_1_103 (by omega) hm rfl dX2_init_32 rfl ?_
  refine G.nm (fun M15 e16 => ?_)
  have ZM15 : gZ zb M15 := gZ.set ZM13 zr_162_3 (by omega) e16
  refine g_aload_n (n := 36) X 0 dX2_init_35 rfl rfl rfl ?_
  refine g_bipush (n := 38) X dX2_init_36 (by decide +kernel) rfl ?_
  refine g_newI (n := 40) (N := 6) X (by omega) (by omega) kw_1_49 lay_167 (Nat.le_of_ble_eq_true rfl) (Nat.le_of_ble_eq_true rfl) dX2_init_38 rfl ?_
  refine G.nm (fun M17 e18 => ?_)
  have ZM17 : gZ zb M17 := gZ.new ZM15 e18
  refine gp_2_4 (n := 43) X (by omega) (by omega) lay_162 kw_1_104 (by omega) hm rfl dX2_init_40 rfl ?_
  refine G.nm (fun M19 e20 => ?_)
  have ZM19 : gZ zb M19 := gZ.set ZM17 zr_162_4 (by omega) e20
  refine g_aload_n (n := 44) X 0 dX2_init_43 rfl rfl rfl ?_
  refine g_bipush (n := 46) X dX2_init_44 (by decide +kernel) rfl ?_
  refine g_newI (n := 48) (N := 6) X (by omega) (by omega) kw_1_49 lay_168 (Nat.le_of_ble_eq_true rfl) (Nat.le_of_ble_eq_true rfl) dX2_init_46 rfl ?_
  refine G.nm (fun M21 e22 => ?_)
  have ZM21 : gZ zb M21 := gZ.new ZM19 e22
  refine gp_2_5 (n := 51) X (by omega) (by omega) lay_162 kw_1_105 (by omega) hm rfl dX2_init_48 rfl ?_
  refine G.nm (fun M23 e24 => ?_)
  have ZM23 : gZ zb M23 := gZ.set ZM21 zr_162_5 (by omega) e24
  refine g_aload_n (n := 52) X 0 dX2_init_51 rfl rfl rfl ?_
  refine g_bipush (n := 54) X dX2_init_52 (by decide +kernel) rfl ?_
  refine g_newI (n := 56) (N := 6) X (by omega) (by omega) kw_1_49 lay_169 (Nat.le_of_ble_eq_true rfl) (Nat.le_of_ble_eq_true rfl) dX2_init_54 rfl ?_
  refine G.nm (fun M25 e26 => ?_)
  have ZM25 : gZ zb M25 := gZ.new ZM23 e26
  refine gp_2_6 (n := 59) X (by omega) (by omega) lay_162 kw_1_106 (by omega) hm rfl dX2_init_56 rfl ?_
  refine G.nm (fun M27 e28 => ?_)
  have ZM27 : gZ zb M27 := gZ.set ZM25 zr_162_6 (by omega) e28
  refine g_aload_n (n := 60) X 0 dX2_init_59 rfl rfl rfl ?_
  refine g_iconst (n := 61) X dX2_init_60 rfl ?_
  refine gp_2_9 (n := 64) X (by omega) (by omega) lay_162 kw_1_112 dX2_init_61 rfl ?_
  refine G.nm (fun M29 e30 => ?_)
  have ZM29 : gZ zb M29 := gZ.set ZM27 zr_162_9 (by omega) e30
  refine g_iconst (n := 65) X dX2_init_64 rfl ?_
  refine g_istore_n (n := 66) (L' := [(1, gJ 0), (0, gA n0 162)]) X dX2_init_65 rfl (by decide) rfl rfl ?_
  have loop31 : ∀ (N33 : Nat) (x : Int) (M35 : gM), (∀ a : Int, a ≠ 163 → M35 a = M29 a) → gZ zb M35 → (∀ i : Int, 0 ≤ i → i < x → M35 163 i = 2) → (0 ≤ x ∧ x ≤ 4) → (4 - x).toNat < N33 → G p l e ({ frames := 4, cells := 7, slots := 356, locals := 120 } : Room) s m args below meth cd n0 D cA 2 (MQ below (gQv n0 D cA 170 (fun M1 => gZ zb M1 ∧ M1 162 0 = 164 ∧ M1 162 1 = 165 ∧ M1 162 2 = 166 ∧ M1 162 3 = 167 ∧ M1 162 4 = 168 ∧ M1 162 5 = 169 ∧ M1 162 6 = 170 ∧ M1 162 7 = 0 ∧ M1 162 8 = 0 ∧ M1 162 9 = 1 ∧ (∀ i : Int, 0 ≤ i → i < 4 → M1 163 i = 2) ∧ (∀ i : Int, M1 164 i = 0) ∧ (∀ i : Int, M1 165 i = 0) ∧ ∀ a : Int, a < 162 → M1 a = M a)) args s 7 356 (fun q => n0 ≤ q)) 7 356 M35 170 66 [(0, gA n0 162), (1, gJ x)] [] := by
    intro N33; induction N33 with
    | zero => intro x M35 F36 ZM35 ib ix hm34; exfalso; omega
    | succ N33 ih32 =>
      intro x M35 F36 ZM35 ib ix hm34
      refine g_iload_n (n := 67) X 1 dX2_init_66 rfl rfl rfl ?_
      refine g_iconst (n := 68) X dX2_init_67 rfl ?_
      refine g_icmp_ge (n := 71) (tgt := 84) X dX2_init_68 (by decide) (by omega) (by omega) rfl (fun c37 => ?_) (fun c37 => ?_)
      · exact g_return X hr dX2_init_84 (by exact ⟨ZM35, ((congrFun (F36 162 (by omega)) _).trans ((congrFun (congrFun e30 _) _).trans ((gset_ne (by omega)).trans ((congrFun (congrFun e28 _) _).trans ((gset_ne (by omega)).trans ((congrFun (congrFun e26 _) _).trans ((gnew_ne (by omega)).trans ((congrFun (congrFun e24 _) _).trans ((gset_ne (by omega)).trans ((congrFun (congrFun e22 _) _).trans ((gnew_ne (by omega)).trans ((congrFun (congrFun e20 _) _).trans ((gset_ne (by omega)).trans ((congrFun (congrFun e18 _) _).trans ((gnew_ne (by omega)).trans ((congrFun (congrFun e16 _) _).trans ((gset_ne (by omega)).trans ((congrFun (congrFun e14 _) _).trans ((gnew_ne (by omega)).trans ((congrFun (congrFun e12 _) _).trans ((gset_ne (by omega)).trans ((congrFun (congrFun e10 _) _).trans ((gnew_ne (by omega)).trans ((congrFun (congrFun e8 _) _).trans ((gset_ne (by omega)).trans ((congrFun (congrFun e6 _) _).trans ((gnew_ne (by omega)).trans ((congrFun (congrFun e4 _) _).trans (gset_eq _ _ _ _))))))))))))))))))))))))))))), ((congrFun (F36 162 (by omega)) _).trans ((congrFun (congrFun e30 _) _).trans ((gset_ne (by omega)).trans ((congrFun (congrFun e28 _) _).trans ((gset_ne (by omega)).trans ((congrFun (congrFun e26 _) _).trans ((gnew_ne (by omega)).trans ((congrFun (congrFun e24 _) _).trans ((gset_ne (by omega)).trans ((congrFun (congrFun e22 _) _).trans ((gnew_ne (by omega)).trans ((congrFun (congrFun e20 _) _).trans ((gset_ne (by omega)).trans ((congrFun (congrFun e18 _) _).trans ((gnew_ne (by omega)).trans ((congrFun (congrFun e16 _) _).trans ((gset_ne (by omega)).trans ((congrFun (congrFun e14 _) _).trans ((gnew_ne (by omega)).trans ((congrFun (congrFun e12 _) _).trans ((gset_ne (by omega)).trans ((congrFun (congrFun e10 _) _).trans ((gnew_ne (by omega)).trans ((congrFun (congrFun e8 _) _).trans (gset_eq _ _ _ _))))))))))))))))))))))))), ((congrFun (F36 162 (by omega)) _).trans ((congrFun (congrFun e30 _) _).trans ((gset_ne (by omega)).trans ((congrFun (congrFun e28 _) _).trans ((gset_ne (by omega)).trans ((congrFun (congrFun e26 _) _).trans ((gnew_ne (by omega)).trans ((congrFun (congrFun e24 _) _).trans ((gset_ne (by omega)).trans ((congrFun (congrFun e22 _) _).trans ((gnew_ne (by omega)).trans ((congrFun (congrFun e20 _) _).trans ((gset_ne (by omega)).trans ((congrFun (congrFun e18 _) _).trans ((gnew_ne (by omega)).trans ((congrFun (congrFun e16 _) _).trans ((gset_ne (by omega)).trans ((congrFun (congrFun e14 _) _).trans ((gnew_ne (by omega)).trans ((congrFun (congrFun e12 _) _).trans (gset_eq _ _ _ _))))))))))))))))))))), ((congrFun (F36 162 (by omega)) _).trans ((congrFun (congrFun e30 _) _).trans ((gset_ne (by omega)).trans ((congrFun (congrFun e28 _) _).trans ((gset_ne (by omega)).trans ((congrFun (congrFun e26 _) _).trans ((gnew_ne (by omega)).trans ((congrFun (congrFun e24 _) _).trans ((gset_ne (by omega)).trans ((congrFun (congrFun e22 _) _).trans ((gnew_ne (by omega)).trans ((congrFun (congrFun e20 _) _).trans ((gset_ne (by omega)).trans ((congrFun (congrFun e18 _) _).trans ((gnew_ne (by omega)).trans ((congrFun (congrFun e16 _) _).trans (gset_eq _ _ _ _))))))))))))))))), ((congrFun (F36 162 (by omega)) _).trans ((congrFun (congrFun e30 _) _).trans ((gset_ne (by omega)).trans ((congrFun (congrFun e28 _) _).trans ((gset_ne (by omega)).trans ((congrFun (congrFun e26 _) _).trans ((gnew_ne (by omega)).trans ((congrFun (congrFun e24 _) _).trans ((gset_ne (by omega)).trans ((congrFun (congrFun e22 _) _).trans ((gnew_ne (by omega)).trans ((congrFun (congrFun e20 _) _).trans (gset_eq _ _ _ _))))))))))))), ((congrFun (F36 162 (by omega)) _).trans ((congrFun (congrFun e30 _) _).trans ((gset_ne (by omega)).trans ((congrFun (congrFun e28 _) _).trans ((gset_ne (by omega)).trans ((congrFun (congrFun e26 _) _).trans ((gnew_ne (by omega)).trans ((congrFun (congrFun e24 _) _).trans (gset_eq _ _ _ _))))))))), ((congrFun (F36 162 (by omega)) _).trans ((congrFun (congrFun e30 _) _).trans ((gset_ne (by omega)).trans ((congrFun (congrFun e28 _) _).trans (gset_eq _ _ _ _))))), ((congrFun (F36 162 (by omega)) _).trans ((congrFun (congrFun e30 _) _).trans ((gset_ne (by omega)).trans ((congrFun (congrFun e28 _) _).trans ((gset_ne (by omega)).trans ((congrFun (congrFun e26 _) _).trans ((gnew_ne (by omega)).trans ((congrFun (congrFun e24 _) _).trans ((gset_ne (by omega)).trans ((congrFun (congrFun e22 _) _).trans ((gnew_ne (by omega)).trans ((congrFun (congrFun e20 _) _).trans ((gset_ne (by omega)).trans ((congrFun (congrFun e18 _) _).trans ((gnew_ne (by omega)).trans ((congrFun (congrFun e16 _) _).trans ((gset_ne (by omega)).trans ((congrFun (congrFun e14 _) _).trans ((gnew_ne (by omega)).trans ((congrFun (congrFun e12 _) _).trans ((gset_ne (by omega)).trans ((congrFun (congrFun e10 _) _).trans ((gnew_ne (by omega)).trans ((congrFun (congrFun e8 _) _).trans ((gset_ne (by omega)).trans ((congrFun (congrFun e6 _) _).trans ((gnew_ne (by omega)).trans ((congrFun (congrFun e4 _) _).trans ((gset_ne (by omega)).trans ((congrFun (congrFun e2 _) _).trans ((gnew_ne (by omega)).trans f_162_7))))))))))))))))))))))))))))))), ((congrFun (F36 162 (by omega)) _).trans ((congrFun (congrFun e30 _) _).trans ((gset_ne (by omega)).trans ((congrFun (congrFun e28 _) _).trans ((gset_ne (by omega)).trans ((congrFun (congrFun e26 _) _).trans ((gnew_ne (by omega)).trans ((congrFun (congrFun e24 _) _).trans ((gset_ne (by omega)).trans ((congrFun (congrFun e22 _) _).trans ((gnew_ne (by omega)).trans ((congrFun (congrFun e20 _) _).trans ((gset_ne (by omega)).trans ((congrFun (congrFun e18 _) _).trans ((gnew_ne (by omega)).trans ((congrFun (congrFun e16 _) _).trans ((gset_ne (by omega)).trans ((congrFun (congrFun e14 _) _).trans ((gnew_ne (by omega)).trans ((congrFun (congrFun e12 _) _).trans ((gset_ne (by omega)).trans ((congrFun (congrFun e10 _) _).trans ((gnew_ne (by omega)).trans ((congrFun (congrFun e8 _) _).trans ((gset_ne (by omega)).trans ((congrFun (congrFun e6 _) _).trans ((gnew_ne (by omega)).trans ((congrFun (congrFun e4 _) _).trans ((gset_ne (by omega)).trans ((congrFun (congrFun e2 _) _).trans ((gnew_ne (by omega)).trans f_162_8))))))))))))))))))))))))))))))), ((congrFun (F36 162 (by omega)) _).trans ((congrFun (congrFun e30 _) _).trans (gset_eq _ _ _ _))), (by intro i h0 h1; exact ib i h0 (by omega)), (by intro i; rw [show M35 164 = M5 164 from ((F36 164 (by omega)).trans ((congrFun e30 _).trans ((gset_off _ (by omega)).trans ((congrFun e28 _).trans ((gset_off _ (by omega)).trans ((congrFun e26 _).trans ((gnew_off _ (by omega)).trans ((congrFun e24 _).trans ((gset_off _ (by omega)).trans ((congrFun e22 _).trans ((gnew_off _ (by omega)).trans ((congrFun e20 _).trans ((gset_off _ (by omega)).trans ((congrFun e18 _).trans ((gnew_off _ (by omega)).trans ((congrFun e16 _).trans ((gset_off _ (by omega)).trans ((congrFun e14 _).trans ((gnew_off _ (by omega)).trans ((congrFun e12 _).trans ((gset_off _ (by omega)).trans ((congrFun e10 _).trans ((gnew_off _ (by omega)).trans ((congrFun e8 _).trans ((gset_off _ (by omega)).trans rfl))))))))))))))))))))))))), e6]; exact gnew_eq _ _ _), (by intro i; rw [show M35 165 = M9 165 from ((F36 165 (by omega)).trans ((congrFun e30 _).trans ((gset_off _ (by omega)).trans ((congrFun e28 _).trans ((gset_off _ (by omega)).trans ((congrFun e26 _).trans ((gnew_off _ (by omega)).trans ((congrFun e24 _).trans ((gset_off _ (by omega)).trans ((congrFun e22 _).trans ((gnew_off _ (by omega)).trans ((congrFun e20 _).trans ((gset_off _ (by omega)).trans ((congrFun e18 _).trans ((gnew_off _ (by omega)).trans ((congrFun e16 _).trans ((gset_off _ (by omega)).trans ((congrFun e14 _).trans ((gnew_off _ (by omega)).trans ((congrFun e12 _).trans ((gset_off _ (by omega)).trans rfl))))))))))))))))))))), e10]; exact gnew_eq _ _ _), fun a h0 => ((F36 a (by omega)).trans ((congrFun e30 a).trans ((gset_off a (by omega)).trans ((congrFun e28 a).trans ((gset_off a (by omega)).trans ((congrFun e26 a).trans ((gnew_off a (by omega)).trans ((congrFun e24 a).trans ((gset_off a (by omega)).trans ((congrFun e22 a).trans ((gnew_off a (by omega)).trans ((congrFun e20 a).trans ((gset_off a (by omega)).trans ((congrFun e18 a).trans ((gnew_off a (by omega)).trans ((congrFun e16 a).trans ((gset_off a (by omega)).trans ((congrFun e14 a).trans ((gnew_off a (by omega)).trans ((congrFun e12 a).trans ((gset_off a (by omega)).trans ((congrFun e10 a).trans ((gnew_off a (by omega)).trans ((congrFun e8 a).trans ((gset_off a (by omega)).trans ((congrFun e6 a).trans ((gnew_off a (by omega)).trans ((congrFun e4 a).trans ((gset_off a (by omega)).trans ((congrFun e2 a).trans ((gnew_off a (by omega)).trans rfl)))))))))))))))))))))))))))))))⟩)
      · refine g_aload_n (n := 72) X 0 dX2_init_71 rfl rfl rfl ?_
        refine gg_2_0 (n := 75) (z := 163) X (by omega) (by omega) lay_162 kw_1_95 dX2_init_72 rfl ((congrFun (F36 162 (by omega)) _).trans ((congrFun (congrFun e30 _) _).trans ((gset_ne (by omega)).trans ((congrFun (congrFun e28 _) _).trans ((gset_ne (by omega)).trans ((congrFun (congrFun e26 _) _).trans ((gnew_ne (by omega)).trans ((congrFun (congrFun e24 _) _).trans ((gset_ne (by omega)).trans ((congrFun (congrFun e22 _) _).trans ((gnew_ne (by omega)).trans ((congrFun (congrFun e20 _) _).trans ((gset_ne (by omega)).trans ((congrFun (congrFun e18 _) _).trans ((gnew_ne (by omega)).trans ((congrFun (congrFun e16 _) _).trans ((gset_ne (by omega)).trans ((congrFun (congrFun e14 _) _).trans ((gnew_ne (by omega)).trans ((congrFun (congrFun e12 _) _).trans ((gset_ne (by omega)).trans ((congrFun (congrFun e10 _) _).trans ((gnew_ne (by omega)).trans ((congrFun (congrFun e8 _) _).trans ((gset_ne (by omega)).trans ((congrFun (congrFun e6 _) _).trans ((gnew_ne (by omega)).trans ((congrFun (congrFun e4 _) _).trans (gset_eq _ _ _ _))))))))))))))))))))))))))))) (by omega) ?_
        refine g_iload_n (n := 76) X 1 dX2_init_75 rfl rfl rfl ?_
        refine g_iconst (n := 77) X dX2_init_76 rfl ?_
        refine g_iast (n := 78) X (by omega) (by omega) lay_163 (by omega) (by omega) (by omega) dX2_init_77 rfl ?_
        refine G.nm (fun M38 e39 => ?_)
        have ZM38 : gZ zb M38 := gZ.set ZM35 (za_163 _) (by omega) e39
        refine g_iinc (n := 81) (w := x + 1) (L' := [(1, gJ (x + 1)), (0, gA n0 162)]) X 1 dX2_init_78 rfl rfl (by decide) rfl rfl ?_
        refine g_goto (tgt := 66) X dX2_init_81 (by decide) ?_
        refine G.sub (L' := [(0, gA n0 162), (1, gJ (x + 1))]) [1, 0] rfl ?_
        exact ih32 (x + 1) M38 (fun a h0 => ((congrFun e39 a).trans ((gset_off a (by omega)).trans ((F36 a (by omega)).trans rfl)))) ZM38 (by intro i h0 h1; rw [e39, gset_at]; by_cases hh : i = x; (rw [if_pos ⟨rfl, hh⟩]); (rw [if_neg (fun q => hh q.2)]; exact ib i h0 (by omega))) (by omega) (by omega)
  refine G.sub (L' := [(0, gA n0 162), (1, gJ 0)]) [1, 0] rfl ?_
  exact loop31 _ 0 M29 (fun a _ => rfl) ZM29 (by intro i h0 h1; omega) (by omega) (Nat.lt_succ_self _)
theorem dX4_init_0 : decode cX4_init 0 = .ok (.aload_n 0, 1) := dc_42 (by decide +kernel)
theorem dX4_init_1 : decode cX4_init 1 = .ok (.invokespecial 3, 3) := dc_183 0 3 (by decide +kernel)
theorem kw_1_61 : (Jvm.Cond.methodLink "ParishUnion$Orders" (3 : Nat) ({ cls := "java/lang/Object", name := "<init>", desc := "()V" } : Jvm.MethodName)) ∈ gT := gT_of (tb_1 _ (List.mem_of_getElem? (i := 61) rfl)) rfl
theorem dX4_init_4 : decode cX4_init 4 = .ok (.aload_n 0, 1) := dc_42 (by decide +kernel)
theorem dX4_init_5 : decode cX4_init 5 = .ok (.bipush 20, 2) := dc_16 20 20 (by decide +kernel)
theorem dX4_init_7 : decode cX4_init 7 = .ok (.newarray .int, 2) := by decide +kernel
theorem dX4_init_9 : decode cX4_init 9 = .ok (.putfield 9, 3) := dc_181 0 9 (by decide +kernel)
theorem zr_9_0 : gRg 9 0 = (11, 11) ∧ gCr 9 0 = false := by decide +kernel
theorem dX4_init_12 : decode cX4_init 12 = .ok (.aload_n 0, 1) := dc_42 (by decide +kernel)
theorem dX4_init_13 : decode cX4_init 13 = .ok (.bipush 20, 2) := dc_16 20 20 (by decide +kernel)
theorem dX4_init_15 : decode cX4_init 15 = .ok (.newarray .int, 2) := by decide +kernel
theorem dX4_init_17 : decode cX4_init 17 = .ok (.putfield 15, 3) := dc_181 0 15 (by decide +kernel)
theorem zr_9_1 : gRg 9 1 = (12, 12) ∧ gCr 9 1 = false := by decide +kernel
theorem dX4_init_20 : decode cX4_init 20 = .ok (.aload_n 0, 1) := dc_42 (by decide +kernel)
theorem dX4_init_21 : decode cX4_init 21 = .ok (.bipush 20, 2) := dc_16 20 20 (by decide +kernel)
theorem dX4_init_23 : decode cX4_init 23 = .ok (.newarray .int, 2) := by decide +kernel
theorem dX4_init_25 : decode cX4_init 25 = .ok (.putfield 18, 3) := dc_181 0 18 (by decide +kernel)
theorem zr_9_2 : gRg 9 2 = (13, 13) ∧ gCr 9 2 = false := by decide +kernel
theorem dX4_init_28 : decode cX4_init 28 = .ok (.aload_n 0, 1) := dc_42 (by decide +kernel)
theorem dX4_init_29 : decode cX4_init 29 = .ok (.bipush 20, 2) := dc_16 20 20 (by decide +kernel)
theorem dX4_init_31 : decode cX4_init 31 = .ok (.newarray .int, 2) := by decide +kernel
theorem dX4_init_33 : decode cX4_init 33 = .ok (.putfield 21, 3) := dc_181 0 21 (by decide +kernel)
theorem zr_9_3 : gRg 9 3 = (14, 14) ∧ gCr 9 3 = false := by decide +kernel
theorem dX4_init_36 : decode cX4_init 36 = .ok (.aload_n 0, 1) := dc_42 (by decide +kernel)
theorem dX4_init_37 : decode cX4_init 37 = .ok (.bipush 20, 2) := dc_16 20 20 (by decide +kernel)
theorem dX4_init_39 : decode cX4_init 39 = .ok (.newarray .boolean, 2) := by decide +kernel
theorem kw_1_88 : (Jvm.Cond.arrayClass Jvm.ClassFile.FieldType.boolean) ∈ gT := gT_of (tb_1 _ (List.mem_of_getElem? (i := 88) rfl)) rfl
theorem dX4_init_41 : decode cX4_init 41 = .ok (.putfield 24, 3) := dc_181 0 24 (by decide +kernel)
theorem zr_9_4 : gRg 9 4 = (15, 15) ∧ gCr 9 4 = false := by decide +kernel
theorem dX4_init_44 : decode cX4_init 44 = .ok (.return_, 1) := dc_177 (by decide +kernel)
set_option maxRecDepth 100000 in
set_option maxHeartbeats 4000000 in
theorem c_X4_init_9 {l : Launch} {n0 : Nat} {D : va_G} {cA : Nat → ClassId} {M : gM}  (f_9_5 : M 9 5 = 0) {zb : Int} (ZM : gZ zb M) : Met l yX4_init (gWsOf yX4_init cX4_init 1 (Option.none : Option Jvm.ClassFile.FieldType)) { frames := 4, cells := 5, slots := 100, locals := 120 } (gPc n0 D cA [gA n0 9] M 10) (gQv n0 D cA 15 (fun M1 => gZ zb M1 ∧ M1 9 0 = 11 ∧ M1 9 1 = 12 ∧ M1 9 2 = 13 ∧ M1 9 3 = 14 ∧ M1 9 4 = 15 ∧ M1 9 5 = 0 ∧ (∀ i : Int, M1 14 i = 0) ∧ ∀ a : Int, a < 9 → M1 a = M a)) 5 100 (fun q => n0 ≤ q) := by
  refine gMet_of [gA n0 9] (by decide) (Nat.le_of_ble_eq_true rfl) ?_
  intro p e s m args below meth cd X hr hm
  have X : gCx p s m args meth cd n0 D cA "ParishUnion$Orders" cX4_init 1 := X
  show G p l e ({ frames := 4, cells := 5, slots := 100, locals := 120 } : Room) s m args below meth cd n0 D cA 1 (MQ below (gQv n0 D cA 15 (fun M1 => gZ zb M1 ∧ M1 9 0 = 11 ∧ M1 9 1 = 12 ∧ M1 9 2 = 13 ∧ M1 9 3 = 14 ∧ M1 9 4 = 15 ∧ M1 9 5 = 0 ∧ (∀ i : Int, M1 14 i = 0) ∧ ∀ a : Int, a < 9 → M1 a = M a)) args s 5 100 (fun q => n0 ≤ q)) 0 0 M 10 0 [(0, gA n0 9)] []
  refine g_aload_n (n := 1) X 0 dX4_init_0 rfl rfl rfl ?_
  refine g_objInit (n := 4) X kw_1_61 kw_1_27 kw_1_28 rfl dX4_init_1 (Nat.le_of_ble_eq_true rfl) (Nat.le_of_ble_eq_true rfl) rfl ?_
  refine g_aload_n (n := 5) X 0 dX4_init_4 rfl rfl rfl ?_
  refine g_bipush (n := 7) X dX4_init_5 (by decide +kernel) rfl ?_
  refine g_newI (n := 9) (N := 20) X (by omega) (by omega) kw_1_49 lay_10 (Nat.le_of_ble_eq_true rfl) (Nat.le_of_ble_eq_true rfl) dX4_init_7 rfl ?_
  refine G.nm (fun M1 e2 => ?_)
  have ZM1 : gZ zb M1 := gZ.new ZM e2
  refine gp_4_0 (n := 12) X (by omega) (by omega) lay_9 kw_1_62 (by omega) hm rfl dX4_init_9 rfl ?_
  refine G.nm (fun M3 e4 => ?_)
  have ZM3 : gZ zb M3 := gZ.set ZM1 zr_9_0 (by omega) e4
  refine g_aload_n (n := 13) X 0 dX4_init_12 rfl rfl rfl ?_
  refine g_bipush (n := 15) X dX4_init_13 (by decide +kernel) rfl ?_
  refine g_newI (n := 17) (N := 20) X (by omega) (by omega) kw_1_49 lay_11 (Nat.le_of_ble_eq_true rfl) (Nat.le_of_ble_eq_true rfl) dX4_init_15 rfl ?_
  refine G.nm (fun M5 e6 => ?_)
  have ZM5 : gZ zb M5 := gZ.new ZM3 e6
  refine gp_4_1 (n := 20) X (by omega) (by omega) lay_9 kw_1_64 (by omega) hm rfl dX4_init_17 rfl ?_
  refine G.nm (fun M7 e8 => ?_)
  have ZM7 : gZ zb M7 := gZ.set ZM5 zr_9_1 (by omega) e8
  refine g_aload_n (n := 21) X 0 dX4_init_20 rfl rfl rfl ?_
  refine g_bipush (n := 23) X dX4_init_21 (by decide +kernel) rfl ?_
  refine g_newI (n := 25) (N := 20) X (by omega) (by omega) kw_1_49 lay_12 (Nat.le_of_ble_eq_true rfl) (Nat.le_of_ble_eq_true rfl) dX4_init_23 rfl ?_
  refine G.nm (fun M9 e10 => ?_)
  have ZM9 : gZ zb M9 := gZ.new ZM7 e10
  refine gp_4_2 (n := 28) X (by omega) (by omega) lay_9 kw_1_66 (by omega) hm rfl dX4_init_25 rfl ?_
  refine G.nm (fun M11 e12 => ?_)
  have ZM11 : gZ zb M11 := gZ.set ZM9 zr_9_2 (by omega) e12
  refine g_aload_n (n := 29) X 0 dX4_init_28 rfl rfl rfl ?_
  refine g_bipush (n := 31) X dX4_init_29 (by decide +kernel) rfl ?_
  refine g_newI (n := 33) (N := 20) X (by omega) (by omega) kw_1_49 lay_13 (Nat.le_of_ble_eq_true rfl) (Nat.le_of_ble_eq_true rfl) dX4_init_31 rfl ?_
  refine G.nm (fun M13 e14 => ?_)
  have ZM13 : gZ zb M13 := gZ.new ZM11 e14
  refine gp_4_3 (n := 36) X (by omega) (by omega) lay_9 kw_1_68 (by omega) hm rfl dX4_init_33 rfl ?_
  refine G.nm (fun M15 e16 => ?_)
  have ZM15 : gZ zb M15 := gZ.set ZM13 zr_9_3 (by omega) e16
  refine g_aload_n (n := 37) X 0 dX4_init_36 rfl rfl rfl ?_
  refine g_bipush (n := 39) X dX4_init_37 (by decide +kernel) rfl ?_
  refine g_newZ (n := 41) (N := 20) X (by omega) (by omega) kw_1_88 lay_14 (Nat.le_of_ble_eq_true rfl) (Nat.le_of_ble_eq_true rfl) dX4_init_39 rfl ?_
  refine G.nm (fun M17 e18 => ?_)
  have ZM17 : gZ zb M17 := gZ.new ZM15 e18
  refine gp_4_4 (n := 44) X (by omega) (by omega) lay_9 kw_1_70 (by omega) hm rfl dX4_init_41 rfl ?_
  refine G.nm (fun M19 e20 => ?_)
  have ZM19 : gZ zb M19 := gZ.set ZM17 zr_9_4 (by omega) e20
  exact g_return X hr dX4_init_44 (by exact ⟨ZM19, ((congrFun (congrFun e20 _) _).trans ((gset_ne (by omega)).trans ((congrFun (congrFun e18 _) _).trans ((gnew_ne (by omega)).trans ((congrFun (congrFun e16 _) _).trans ((gset_ne (by omega)).trans ((congrFun (congrFun e14 _) _).trans ((gnew_ne (by omega)).trans ((congrFun (congrFun e12 _) _).trans ((gset_ne (by omega)).trans ((congrFun (congrFun e10 _) _).trans ((gnew_ne (by omega)).trans ((congrFun (congrFun e8 _) _).trans ((gset_ne (by omega)).trans ((congrFun (congrFun e6 _) _).trans ((gnew_ne (by omega)).trans ((congrFun (congrFun e4 _) _).trans (gset_eq _ _ _ _)))))))))))))))))), ((congrFun (congrFun e20 _) _).trans ((gset_ne (by omega)).trans ((congrFun (congrFun e18 _) _).trans ((gnew_ne (by omega)).trans ((congrFun (congrFun e16 _) _).trans ((gset_ne (by omega)).trans ((congrFun (congrFun e14 _) _).trans ((gnew_ne (by omega)).trans ((congrFun (congrFun e12 _) _).trans ((gset_ne (by omega)).trans ((congrFun (congrFun e10 _) _).trans ((gnew_ne (by omega)).trans ((congrFun (congrFun e8 _) _).trans (gset_eq _ _ _ _)))))))))))))), ((congrFun (congrFun e20 _) _).trans ((gset_ne (by omega)).trans ((congrFun (congrFun e18 _) _).trans ((gnew_ne (by omega)).trans ((congrFun (congrFun e16 _) _).trans ((gset_ne (by omega)).trans ((congrFun (congrFun e14 _) _).trans ((gnew_ne (by omega)).trans ((congrFun (congrFun e12 _) _).trans (gset_eq _ _ _ _)))))))))), ((congrFun (congrFun e20 _) _).trans ((gset_ne (by omega)).trans ((congrFun (congrFun e18 _) _).trans ((gnew_ne (by omega)).trans ((congrFun (congrFun e16 _) _).trans (gset_eq _ _ _ _)))))), ((congrFun (congrFun e20 _) _).trans (gset_eq _ _ _ _)), ((congrFun (congrFun e20 _) _).trans ((gset_ne (by omega)).trans ((congrFun (congrFun e18 _) _).trans ((gnew_ne (by omega)).trans ((congrFun (congrFun e16 _) _).trans ((gset_ne (by omega)).trans ((congrFun (congrFun e14 _) _).trans ((gnew_ne (by omega)).trans ((congrFun (congrFun e12 _) _).trans ((gset_ne (by omega)).trans ((congrFun (congrFun e10 _) _).trans ((gnew_ne (by omega)).trans ((congrFun (congrFun e8 _) _).trans ((gset_ne (by omega)).trans ((congrFun (congrFun e6 _) _).trans ((gnew_ne (by omega)).trans ((congrFun (congrFun e4 _) _).trans ((gset_ne (by omega)).trans ((congrFun (congrFun e2 _) _).trans ((gnew_ne (by omega)).trans f_9_5)))))))))))))))))))), (by intro i; rw [show M19 14 = M17 14 from ((congrFun e20 _).trans ((gset_off _ (by omega)).trans rfl)), e18]; exact gnew_eq _ _ _), fun a h0 => ((congrFun e20 a).trans ((gset_off a (by omega)).trans ((congrFun e18 a).trans ((gnew_off a (by omega)).trans ((congrFun e16 a).trans ((gset_off a (by omega)).trans ((congrFun e14 a).trans ((gnew_off a (by omega)).trans ((congrFun e12 a).trans ((gset_off a (by omega)).trans ((congrFun e10 a).trans ((gnew_off a (by omega)).trans ((congrFun e8 a).trans ((gset_off a (by omega)).trans ((congrFun e6 a).trans ((gnew_off a (by omega)).trans ((congrFun e4 a).trans ((gset_off a (by omega)).trans ((congrFun e2 a).trans ((gnew_off a (by omega)).trans rfl))))))))))))))))))))⟩)
theorem dX5_init_0 : decode cX5_init 0 = .ok (.aload_n 0, 1) := dc_42 (by decide +kernel)
theorem dX5_init_1 : decode cX5_init 1 = .ok (.invokespecial 3, 3) := dc_183 0 3 (by decide +kernel)
theorem kw_1_141 : (Jvm.Cond.methodLink "ParishUnion$Past" (3 : Nat) ({ cls := "java/lang/Object", name := "<init>", desc := "()V" } : Jvm.MethodName)) ∈ gT := gT_of (tb_1 _ (List.mem_of_getElem? (i := 141) rfl)) rfl
theorem dX5_init_4 : decode cX5_init 4 = .ok (.aload_n 0, 1) := dc_42 (by decide +kernel)
theorem dX5_init_5 : decode cX5_init 5 = .ok (.sipush 2100, 3) := dc_17 8 52 2100 (by decide +kernel)
theorem dX5_init_8 : decode cX5_init 8 = .ok (.newarray .int, 2) := by decide +kernel
theorem dX5_init_10 : decode cX5_init 10 = .ok (.putfield 9, 3) := dc_181 0 9 (by decide +kernel)
theorem zr_23_0 : gRg 23 0 = (25, 25) ∧ gCr 23 0 = false := by decide +kernel
theorem dX5_init_13 : decode cX5_init 13 = .ok (.aload_n 0, 1) := dc_42 (by decide +kernel)
theorem dX5_init_14 : decode cX5_init 14 = .ok (.sipush 4800, 3) := dc_17 18 192 4800 (by decide +kernel)
theorem dX5_init_17 : decode cX5_init 17 = .ok (.newarray .long, 2) := by decide +kernel
theorem kw_1_149 : (Jvm.Cond.arrayClass Jvm.ClassFile.FieldType.long) ∈ gT := gT_of (tb_1 _ (List.mem_of_getElem? (i := 149) rfl)) rfl
theorem dX5_init_19 : decode cX5_init 19 = .ok (.putfield 15, 3) := dc_181 0 15 (by decide +kernel)
theorem zr_23_1 : gRg 23 1 = (26, 26) ∧ gCr 23 1 = false := by decide +kernel
theorem dX5_init_22 : decode cX5_init 22 = .ok (.return_, 1) := dc_177 (by decide +kernel)
set_option maxRecDepth 100000 in
set_option maxHeartbeats 4000000 in
theorem c_X5_init_23 {l : Launch} {n0 : Nat} {D : va_G} {cA : Nat → ClassId} {M : gM}  {zb : Int} (ZM : gZ zb M) : Met l yX5_init (gWsOf yX5_init cX5_init 1 (Option.none : Option Jvm.ClassFile.FieldType)) { frames := 4, cells := 2, slots := 6900, locals := 120 } (gPc n0 D cA [gA n0 23] M 24) (gQv n0 D cA 26 (fun M1 => gZ zb M1 ∧ M1 23 0 = 25 ∧ M1 23 1 = 26 ∧ ∀ a : Int, a < 23 → M1 a = M a)) 2 6900 (fun q => n0 ≤ q) := by
  refine gMet_of [gA n0 23] (by decide) (Nat.le_of_ble_eq_true rfl) ?_
  intro p e s m args below meth cd X hr hm
  have X : gCx p s m args meth cd n0 D cA "ParishUnion$Past" cX5_init 1 := X
  show G p l e ({ frames := 4, cells := 2, slots := 6900, locals := 120 } : Room) s m args below meth cd n0 D cA 1 (MQ below (gQv n0 D cA 26 (fun M1 => gZ zb M1 ∧ M1 23 0 = 25 ∧ M1 23 1 = 26 ∧ ∀ a : Int, a < 23 → M1 a = M a)) args s 2 6900 (fun q => n0 ≤ q)) 0 0 M 24 0 [(0, gA n0 23)] []
  refine g_aload_n (n := 1) X 0 dX5_init_0 rfl rfl rfl ?_
  refine g_objInit (n := 4) X kw_1_141 kw_1_27 kw_1_28 rfl dX5_init_1 (Nat.le_of_ble_eq_true rfl) (Nat.le_of_ble_eq_true rfl) rfl ?_
  refine g_aload_n (n := 5) X 0 dX5_init_4 rfl rfl rfl ?_
  refine g_sipush (n := 8) X dX5_init_5 (by decide +kernel) rfl ?_
  refine g_newI (n := 10) (N := 2100) X (by omega) (by omega) kw_1_49 lay_24 (Nat.le_of_ble_eq_true rfl) (Nat.le_of_ble_eq_true rfl) dX5_init_8 rfl ?_
  refine G.nm (fun M1 e2 => ?_)
  have ZM1 : gZ zb M1 := gZ.new ZM e2
  refine gp_5_0 (n := 13) X (by omega) (by omega) lay_23 kw_1_142 (by omega) hm rfl dX5_init_10 rfl ?_
  refine G.nm (fun M3 e4 => ?_)
  have ZM3 : gZ zb M3 := gZ.set ZM1 zr_23_0 (by omega) e4
  refine g_aload_n (n := 14) X 0 dX5_init_13 rfl rfl rfl ?_
  refine g_sipush (n := 17) X dX5_init_14 (by decide +kernel) rfl ?_
  refine g_newL (n := 19) (N := 4800) X (by omega) (by omega) kw_1_149 lay_25 (Nat.le_of_ble_eq_true rfl) (Nat.le_of_ble_eq_true rfl) dX5_init_17 rfl ?_
  refine G.nm (fun M5 e6 => ?_)
  have ZM5 : gZ zb M5 := gZ.new ZM3 e6
  refine gp_5_1 (n := 22) X (by omega) (by omega) lay_23 kw_1_143 (by omega) hm rfl dX5_init_19 rfl ?_
  refine G.nm (fun M7 e8 => ?_)
  have ZM7 : gZ zb M7 := gZ.set ZM5 zr_23_1 (by omega) e8
  exact g_return X hr dX5_init_22 (by exact ⟨ZM7, ((congrFun (congrFun e8 _) _).trans ((gset_ne (by omega)).trans ((congrFun (congrFun e6 _) _).trans ((gnew_ne (by omega)).trans ((congrFun (congrFun e4 _) _).trans (gset_eq _ _ _ _)))))), ((congrFun (congrFun e8 _) _).trans (gset_eq _ _ _ _)), fun a h0 => ((congrFun e8 a).trans ((gset_off a (by omega)).trans ((congrFun e6 a).trans ((gnew_off a (by omega)).trans ((congrFun e4 a).trans ((gset_off a (by omega)).trans ((congrFun e2 a).trans ((gnew_off a (by omega)).trans rfl))))))))⟩)
theorem dX10_init_0 : decode cX10_init 0 = .ok (.aload_n 0, 1) := dc_42 (by decide +kernel)
theorem dX10_init_1 : decode cX10_init 1 = .ok (.invokespecial 3, 3) := dc_183 0 3 (by decide +kernel)
theorem kw_1_155 : (Jvm.Cond.methodLink "ParishUnion$Vagrants" (3 : Nat) ({ cls := "java/lang/Object", name := "<init>", desc := "()V" } : Jvm.MethodName)) ∈ gT := gT_of (tb_1 _ (List.mem_of_getElem? (i := 155) rfl)) rfl
theorem dX10_init_4 : decode cX10_init 4 = .ok (.aload_n 0, 1) := dc_42 (by decide +kernel)
theorem dX10_init_5 : decode cX10_init 5 = .ok (.bipush 40, 2) := dc_16 40 40 (by decide +kernel)
theorem dX10_init_7 : decode cX10_init 7 = .ok (.newarray .int, 2) := by decide +kernel
theorem dX10_init_9 : decode cX10_init 9 = .ok (.putfield 9, 3) := dc_181 0 9 (by decide +kernel)
theorem zr_26_0 : gRg 26 0 = (28, 28) ∧ gCr 26 0 = false := by decide +kernel
theorem dX10_init_12 : decode cX10_init 12 = .ok (.aload_n 0, 1) := dc_42 (by decide +kernel)
theorem dX10_init_13 : decode cX10_init 13 = .ok (.bipush 40, 2) := dc_16 40 40 (by decide +kernel)
theorem dX10_init_15 : decode cX10_init 15 = .ok (.newarray .int, 2) := by decide +kernel
theorem dX10_init_17 : decode cX10_init 17 = .ok (.putfield 15, 3) := dc_181 0 15 (by decide +kernel)
theorem zr_26_1 : gRg 26 1 = (29, 29) ∧ gCr 26 1 = false := by decide +kernel
theorem dX10_init_20 : decode cX10_init 20 = .ok (.aload_n 0, 1) := dc_42 (by decide +kernel)
theorem dX10_init_21 : decode cX10_init 21 = .ok (.bipush 40, 2) := dc_16 40 40 (by decide +kernel)
theorem dX10_init_23 : decode cX10_init 23 = .ok (.newarray .int, 2) := by decide +kernel
theorem dX10_init_25 : decode cX10_init 25 = .ok (.putfield 18, 3) := dc_181 0 18 (by decide +kernel)
theorem zr_26_2 : gRg 26 2 = (30, 30) ∧ gCr 26 2 = false := by decide +kernel
theorem dX10_init_28 : decode cX10_init 28 = .ok (.return_, 1) := dc_177 (by decide +kernel)
set_option maxRecDepth 100000 in
set_option maxHeartbeats 4000000 in
theorem c_X10_init_26 {l : Launch} {n0 : Nat} {D : va_G} {cA : Nat → ClassId} {M : gM}  (f_26_3 : M 26 3 = 0) {zb : Int} (ZM : gZ zb M) : Met l yX10_init (gWsOf yX10_init cX10_init 1 (Option.none : Option Jvm.ClassFile.FieldType)) { frames := 4, cells := 3, slots := 120, locals := 120 } (gPc n0 D cA [gA n0 26] M 27) (gQv n0 D cA 30 (fun M1 => gZ zb M1 ∧ M1 26 0 = 28 ∧ M1 26 1 = 29 ∧ M1 26 2 = 30 ∧ M1 26 3 = 0 ∧ ∀ a : Int, a < 26 → M1 a = M a)) 3 120 (fun q => n0 ≤ q) := by
  refine gMet_of [gA n0 26] (by decide) (Nat.le_of_ble_eq_true rfl) ?_
  intro p e s m args below meth cd X hr hm
  have X : gCx p s m args meth cd n0 D cA "ParishUnion$Vagrants" cX10_init 1 := X
  show G p l e ({ frames := 4, cells := 3, slots := 120, locals := 120 } : Room) s m args below meth cd n0 D cA 1 (MQ below (gQv n0 D cA 30 (fun M1 => gZ zb M1 ∧ M1 26 0 = 28 ∧ M1 26 1 = 29 ∧ M1 26 2 = 30 ∧ M1 26 3 = 0 ∧ ∀ a : Int, a < 26 → M1 a = M a)) args s 3 120 (fun q => n0 ≤ q)) 0 0 M 27 0 [(0, gA n0 26)] []
  refine g_aload_n (n := 1) X 0 dX10_init_0 rfl rfl rfl ?_
  refine g_objInit (n := 4) X kw_1_155 kw_1_27 kw_1_28 rfl dX10_init_1 (Nat.le_of_ble_eq_true rfl) (Nat.le_of_ble_eq_true rfl) rfl ?_
  refine g_aload_n (n := 5) X 0 dX10_init_4 rfl rfl rfl ?_
  refine g_bipush (n := 7) X dX10_init_5 (by decide +kernel) rfl ?_
  refine g_newI (n := 9) (N := 40) X (by omega) (by omega) kw_1_49 lay_27 (Nat.le_of_ble_eq_true rfl) (Nat.le_of_ble_eq_true rfl) dX10_init_7 rfl ?_
  refine G.nm (fun M1 e2 => ?_)
  have ZM1 : gZ zb M1 := gZ.new ZM e2
  refine gp_10_0 (n := 12) X (by omega) (by omega) lay_26 kw_1_156 (by omega) hm rfl dX10_init_9 rfl ?_
  refine G.nm (fun M3 e4 => ?_)
  have ZM3 : gZ zb M3 := gZ.set ZM1 zr_26_0 (by omega) e4
  refine g_aload_n (n := 13) X 0 dX10_init_12 rfl rfl rfl ?_
  refine g_bipush (n := 15) X dX10_init_13 (by decide +kernel) rfl ?_
  refine g_newI (n := 17) (N := 40) X (by omega) (by omega) kw_1_49 lay_28 (Nat.le_of_ble_eq_true rfl) (Nat.le_of_ble_eq_true rfl) dX10_init_15 rfl ?_
  refine G.nm (fun M5 e6 => ?_)
  have ZM5 : gZ zb M5 := gZ.new ZM3 e6
  refine gp_10_1 (n := 20) X (by omega) (by omega) lay_26 kw_1_157 (by omega) hm rfl dX10_init_17 rfl ?_
  refine G.nm (fun M7 e8 => ?_)
  have ZM7 : gZ zb M7 := gZ.set ZM5 zr_26_1 (by omega) e8
  refine g_aload_n (n := 21) X 0 dX10_init_20 rfl rfl rfl ?_
  refine g_bipush (n := 23) X dX10_init_21 (by decide +kernel) rfl ?_
  refine g_newI (n := 25) (N := 40) X (by omega) (by omega) kw_1_49 lay_29 (Nat.le_of_ble_eq_true rfl) (Nat.le_of_ble_eq_true rfl) dX10_init_23 rfl ?_
  refine G.nm (fun M9 e10 => ?_)
  have ZM9 : gZ zb M9 := gZ.new ZM7 e10
  refine gp_10_2 (n := 28) X (by omega) (by omega) lay_26 kw_1_158 (by omega) hm rfl dX10_init_25 rfl ?_
  refine G.nm (fun M11 e12 => ?_)
  have ZM11 : gZ zb M11 := gZ.set ZM9 zr_26_2 (by omega) e12
  exact g_return X hr dX10_init_28 (by exact ⟨ZM11, ((congrFun (congrFun e12 _) _).trans ((gset_ne (by omega)).trans ((congrFun (congrFun e10 _) _).trans ((gnew_ne (by omega)).trans ((congrFun (congrFun e8 _) _).trans ((gset_ne (by omega)).trans ((congrFun (congrFun e6 _) _).trans ((gnew_ne (by omega)).trans ((congrFun (congrFun e4 _) _).trans (gset_eq _ _ _ _)))))))))), ((congrFun (congrFun e12 _) _).trans ((gset_ne (by omega)).trans ((congrFun (congrFun e10 _) _).trans ((gnew_ne (by omega)).trans ((congrFun (congrFun e8 _) _).trans (gset_eq _ _ _ _)))))), ((congrFun (congrFun e12 _) _).trans (gset_eq _ _ _ _)), ((congrFun (congrFun e12 _) _).trans ((gset_ne (by omega)).trans ((congrFun (congrFun e10 _) _).trans ((gnew_ne (by omega)).trans ((congrFun (congrFun e8 _) _).trans ((gset_ne (by omega)).trans ((congrFun (congrFun e6 _) _).trans ((gnew_ne (by omega)).trans ((congrFun (congrFun e4 _) _).trans ((gset_ne (by omega)).trans ((congrFun (congrFun e2 _) _).trans ((gnew_ne (by omega)).trans f_26_3)))))))))))), fun a h0 => ((congrFun e12 a).trans ((gset_off a (by omega)).trans ((congrFun e10 a).trans ((gnew_off a (by omega)).trans ((congrFun e8 a).trans ((gset_off a (by omega)).trans ((congrFun e6 a).trans ((gnew_off a (by omega)).trans ((congrFun e4 a).trans ((gset_off a (by omega)).trans ((congrFun e2 a).trans ((gnew_off a (by omega)).trans rfl))))))))))))⟩)
theorem dX1_init_0 : decode cX1_init 0 = .ok (.aload_n 0, 1) := dc_42 (by decide +kernel)
theorem dX1_init_1 : decode cX1_init 1 = .ok (.invokespecial 3, 3) := dc_183 0 3 (by decide +kernel)
theorem kw_2_178 : (Jvm.Cond.methodLink "ParishUnion$Bench" (3 : Nat) ({ cls := "java/lang/Object", name := "<init>", desc := "()V" } : Jvm.MethodName)) ∈ gT := gT_of (tb_2 _ (List.mem_of_getElem? (i := 178) rfl)) rfl
theorem dX1_init_4 : decode cX1_init 4 = .ok (.aload_n 0, 1) := dc_42 (by decide +kernel)
theorem dX1_init_5 : decode cX1_init 5 = .ok (.bipush 40, 2) := dc_16 40 40 (by decide +kernel)
theorem dX1_init_7 : decode cX1_init 7 = .ok (.newarray .int, 2) := by decide +kernel
theorem dX1_init_9 : decode cX1_init 9 = .ok (.putfield 9, 3) := dc_181 0 9 (by decide +kernel)
theorem zr_153_0 : gRg 153 0 = (155, 155) ∧ gCr 153 0 = false := by decide +kernel
theorem dX1_init_12 : decode cX1_init 12 = .ok (.aload_n 0, 1) := dc_42 (by decide +kernel)
theorem dX1_init_13 : decode cX1_init 13 = .ok (.bipush 40, 2) := dc_16 40 40 (by decide +kernel)
theorem dX1_init_15 : decode cX1_init 15 = .ok (.newarray .boolean, 2) := by decide +kernel
theorem dX1_init_17 : decode cX1_init 17 = .ok (.putfield 15, 3) := dc_181 0 15 (by decide +kernel)
theorem zr_153_1 : gRg 153 1 = (156, 156) ∧ gCr 153 1 = false := by decide +kernel
theorem dX1_init_20 : decode cX1_init 20 = .ok (.aload_n 0, 1) := dc_42 (by decide +kernel)
theorem dX1_init_21 : decode cX1_init 21 = .ok (.bipush 10, 2) := dc_16 10 10 (by decide +kernel)
theorem dX1_init_23 : decode cX1_init 23 = .ok (.newarray .int, 2) := by decide +kernel
theorem dX1_init_25 : decode cX1_init 25 = .ok (.putfield 19, 3) := dc_181 0 19 (by decide +kernel)
theorem zr_153_2 : gRg 153 2 = (157, 157) ∧ gCr 153 2 = false := by decide +kernel
theorem dX1_init_28 : decode cX1_init 28 = .ok (.aload_n 0, 1) := dc_42 (by decide +kernel)
theorem dX1_init_29 : decode cX1_init 29 = .ok (.bipush 10, 2) := dc_16 10 10 (by decide +kernel)
theorem dX1_init_31 : decode cX1_init 31 = .ok (.newarray .int, 2) := by decide +kernel
theorem dX1_init_33 : decode cX1_init 33 = .ok (.putfield 22, 3) := dc_181 0 22 (by decide +kernel)
theorem zr_153_3 : gRg 153 3 = (158, 158) ∧ gCr 153 3 = false := by decide +kernel
theorem dX1_init_36 : decode cX1_init 36 = .ok (.aload_n 0, 1) := dc_42 (by decide +kernel)
theorem dX1_init_37 : decode cX1_init 37 = .ok (.bipush 10, 2) := dc_16 10 10 (by decide +kernel)
theorem dX1_init_39 : decode cX1_init 39 = .ok (.newarray .int, 2) := by decide +kernel
theorem dX1_init_41 : decode cX1_init 41 = .ok (.putfield 25, 3) := dc_181 0 25 (by decide +kernel)
theorem zr_153_4 : gRg 153 4 = (159, 159) ∧ gCr 153 4 = false := by decide +kernel
theorem dX1_init_44 : decode cX1_init 44 = .ok (.return_, 1) := dc_177 (by decide +kernel)
set_option maxRecDepth 100000 in
set_option maxHeartbeats 4000000 in
theorem c_X1_init_153 {l : Launch} {n0 : Nat} {D : va_G} {cA : Nat → ClassId} {M : gM}  {zb : Int} (ZM : gZ zb M) : Met l yX1_init (gWsOf yX1_init cX1_init 1 (Option.none : Option Jvm.ClassFile.FieldType)) { frames := 4, cells := 5, slots := 110, locals := 120 } (gPc n0 D cA [gA n0 153] M 154) (gQv n0 D cA 159 (fun M1 => gZ zb M1 ∧ M1 153 0 = 155 ∧ M1 153 1 = 156 ∧ M1 153 2 = 157 ∧ M1 153 3 = 158 ∧ M1 153 4 = 159 ∧ ∀ a : Int, a < 153 → M1 a = M a)) 5 110 (fun q => n0 ≤ q) := by
  refine gMet_of [gA n0 153] (by decide) (Nat.le_of_ble_eq_true rfl) ?_
  intro p e s m args below meth cd X hr hm
  have X : gCx p s m args meth cd n0 D cA "ParishUnion$Bench" cX1_init 1 := X
  show G p l e ({ frames := 4, cells := 5, slots := 110, locals := 120 } : Room) s m args below meth cd n0 D cA 1 (MQ below (gQv n0 D cA 159 (fun M1 => gZ zb M1 ∧ M1 153 0 = 155 ∧ M1 153 1 = 156 ∧ M1 153 2 = 157 ∧ M1 153 3 = 158 ∧ M1 153 4 = 159 ∧ ∀ a : Int, a < 153 → M1 a = M a)) args s 5 110 (fun q => n0 ≤ q)) 0 0 M 154 0 [(0, gA n0 153)] []
  refine g_aload_n (n := 1) X 0 dX1_init_0 rfl rfl rfl ?_
  refine g_objInit (n := 4) X kw_2_178 kw_1_27 kw_1_28 rfl dX1_init_1 (Nat.le_of_ble_eq_true rfl) (Nat.le_of_ble_eq_true rfl) rfl ?_
  refine g_aload_n (n := 5) X 0 dX1_init_4 rfl rfl rfl ?_
  refine g_bipush (n := 7) X dX1_init_5 (by decide +kernel) rfl ?_
  refine g_newI (n := 9) (N := 40) X (by omega) (by omega) kw_1_49 lay_154 (Nat.le_of_ble_eq_true rfl) (Nat.le_of_ble_eq_true rfl) dX1_init_7 rfl ?_
  refine G.nm (fun M1 e2 => ?_)
  have ZM1 : gZ zb M1 := gZ.new ZM e2
  refine gp_1_0 (n := 12) X (by omega) (by omega) lay_153 kw_2_179 (by omega) hm rfl dX1_init_9 rfl ?_
  refine G.nm (fun M3 e4 => ?_)
  have ZM3 : gZ zb M3 := gZ.set ZM1 zr_153_0 (by omega) e4
  refine g_aload_n (n := 13) X 0 dX1_init_12 rfl rfl rfl ?_
  refine g_bipush (n := 15) X dX1_init_13 (by decide +kernel) rfl ?_
  refine g_newZ (n := 17) (N := 40) X (by omega) (by omega) kw_1_88 lay_155 (Nat.le_of_ble_eq_true rfl) (Nat.le_of_ble_eq_true rfl) dX1_init_15 rfl ?_
  refine G.nm (fun M5 e6 => ?_)
  have ZM5 : gZ zb M5 := gZ.new ZM3 e6
  refine gp_1_1 (n := 20) X (by omega) (by omega) lay_153 kw_2_180 (by omega) hm rfl dX1_init_17 rfl ?_
  refine G.nm (fun M7 e8 => ?_)
  have ZM7 : gZ zb M7 := gZ.set ZM5 zr_153_1 (by omega) e8
  refine g_aload_n (n := 21) X 0 dX1_init_20 rfl rfl rfl ?_
  refine g_bipush (n := 23) X dX1_init_21 (by decide +kernel) rfl ?_
  refine g_newI (n := 25) (N := 10) X (by omega) (by omega) kw_1_49 lay_156 (Nat.le_of_ble_eq_true rfl) (Nat.le_of_ble_eq_true rfl) dX1_init_23 rfl ?_
  refine G.nm (fun M9 e10 => ?_)
  have ZM9 : gZ zb M9 := gZ.new ZM7 e10
  refine gp_1_2 (n := 28) X (by omega) (by omega) lay_153 kw_2_181 (by omega) hm rfl dX1_init_25 rfl ?_
  refine G.nm (fun M11 e12 => ?_)
  have ZM11 : gZ zb M11 := gZ.set ZM9 zr_153_2 (by omega) e12
  refine g_aload_n (n := 29) X 0 dX1_init_28 rfl rfl rfl ?_
  refine g_bipush (n := 31) X dX1_init_29 (by decide +kernel) rfl ?_
  refine g_newI (n := 33) (N := 10) X (by omega) (by omega) kw_1_49 lay_157 (Nat.le_of_ble_eq_true rfl) (Nat.le_of_ble_eq_true rfl) dX1_init_31 rfl ?_
  refine G.nm (fun M13 e14 => ?_)
  have ZM13 : gZ zb M13 := gZ.new ZM11 e14
  refine gp_1_3 (n := 36) X (by omega) (by omega) lay_153 kw_2_182 (by omega) hm rfl dX1_init_33 rfl ?_
  refine G.nm (fun M15 e16 => ?_)
  have ZM15 : gZ zb M15 := gZ.set ZM13 zr_153_3 (by omega) e16
  refine g_aload_n (n := 37) X 0 dX1_init_36 rfl rfl rfl ?_
  refine g_bipush (n := 39) X dX1_init_37 (by decide +kernel) rfl ?_
  refine g_newI (n := 41) (N := 10) X (by omega) (by omega) kw_1_49 lay_158 (Nat.le_of_ble_eq_true rfl) (Nat.le_of_ble_eq_true rfl) dX1_init_39 rfl ?_
  refine G.nm (fun M17 e18 => ?_)
  have ZM17 : gZ zb M17 := gZ.new ZM15 e18
  refine gp_1_4 (n := 44) X (by omega) (by omega) lay_153 kw_2_183 (by omega) hm rfl dX1_init_41 rfl ?_
  refine G.nm (fun M19 e20 => ?_)
  have ZM19 : gZ zb M19 := gZ.set ZM17 zr_153_4 (by omega) e20
  exact g_return X hr dX1_init_44 (by exact ⟨ZM19, ((congrFun (congrFun e20 _) _).trans ((gset_ne (by omega)).trans ((congrFun (congrFun e18 _) _).trans ((gnew_ne (by omega)).trans ((congrFun (congrFun e16 _) _).trans ((gset_ne (by omega)).trans ((congrFun (congrFun e14 _) _).trans ((gnew_ne (by omega)).trans ((congrFun (congrFun e12 _) _).trans ((gset_ne (by omega)).trans ((congrFun (congrFun e10 _) _).trans ((gnew_ne (by omega)).trans ((congrFun (congrFun e8 _) _).trans ((gset_ne (by omega)).trans ((congrFun (congrFun e6 _) _).trans ((gnew_ne (by omega)).trans ((congrFun (congrFun e4 _) _).trans (gset_eq _ _ _ _)))))))))))))))))), ((congrFun (congrFun e20 _) _).trans ((gset_ne (by omega)).trans ((congrFun (congrFun e18 _) _).trans ((gnew_ne (by omega)).trans ((congrFun (congrFun e16 _) _).trans ((gset_ne (by omega)).trans ((congrFun (congrFun e14 _) _).trans ((gnew_ne (by omega)).trans ((congrFun (congrFun e12 _) _).trans ((gset_ne (by omega)).trans ((congrFun (congrFun e10 _) _).trans ((gnew_ne (by omega)).trans ((congrFun (congrFun e8 _) _).trans (gset_eq _ _ _ _)))))))))))))), ((congrFun (congrFun e20 _) _).trans ((gset_ne (by omega)).trans ((congrFun (congrFun e18 _) _).trans ((gnew_ne (by omega)).trans ((congrFun (congrFun e16 _) _).trans ((gset_ne (by omega)).trans ((congrFun (congrFun e14 _) _).trans ((gnew_ne (by omega)).trans ((congrFun (congrFun e12 _) _).trans (gset_eq _ _ _ _)))))))))), ((congrFun (congrFun e20 _) _).trans ((gset_ne (by omega)).trans ((congrFun (congrFun e18 _) _).trans ((gnew_ne (by omega)).trans ((congrFun (congrFun e16 _) _).trans (gset_eq _ _ _ _)))))), ((congrFun (congrFun e20 _) _).trans (gset_eq _ _ _ _)), fun a h0 => ((congrFun e20 a).trans ((gset_off a (by omega)).trans ((congrFun e18 a).trans ((gnew_off a (by omega)).trans ((congrFun e16 a).trans ((gset_off a (by omega)).trans ((congrFun e14 a).trans ((gnew_off a (by omega)).trans ((congrFun e12 a).trans ((gset_off a (by omega)).trans ((congrFun e10 a).trans ((gnew_off a (by omega)).trans ((congrFun e8 a).trans ((gset_off a (by omega)).trans ((congrFun e6 a).trans ((gnew_off a (by omega)).trans ((congrFun e4 a).trans ((gset_off a (by omega)).trans ((congrFun e2 a).trans ((gnew_off a (by omega)).trans rfl))))))))))))))))))))⟩)
theorem dX7_init_0 : decode cX7_init 0 = .ok (.aload_n 0, 1) := dc_42 (by decide +kernel)
theorem dX7_init_1 : decode cX7_init 1 = .ok (.invokespecial 3, 3) := dc_183 0 3 (by decide +kernel)
theorem kw_2_210 : (Jvm.Cond.methodLink "ParishUnion$Reader" (3 : Nat) ({ cls := "java/lang/Object", name := "<init>", desc := "()V" } : Jvm.MethodName)) ∈ gT := gT_of (tb_2 _ (List.mem_of_getElem? (i := 210) rfl)) rfl
theorem dX7_init_4 : decode cX7_init 4 = .ok (.aload_n 0, 1) := dc_42 (by decide +kernel)
theorem dX7_init_5 : decode cX7_init 5 = .ok (.iconst 0, 1) := dc_3 (by decide +kernel)
theorem dX7_init_6 : decode cX7_init 6 = .ok (.newarray .byte, 2) := by decide +kernel
theorem kw_1_87 : (Jvm.Cond.arrayClass Jvm.ClassFile.FieldType.byte) ∈ gT := gT_of (tb_1 _ (List.mem_of_getElem? (i := 87) rfl)) rfl
theorem dX7_init_8 : decode cX7_init 8 = .ok (.putfield 9, 3) := dc_181 0 9 (by decide +kernel)
theorem zr_159_0 : gRg 159 0 = (0, 400) ∧ gCr 159 0 = false := by decide +kernel
theorem dX7_init_11 : decode cX7_init 11 = .ok (.return_, 1) := dc_177 (by decide +kernel)
set_option maxRecDepth 100000 in
set_option maxHeartbeats 4000000 in
theorem c_X7_init_159 {l : Launch} {n0 : Nat} {D : va_G} {cA : Nat → ClassId} {M : gM}  {zb : Int} (ZM : gZ zb M) : Met l yX7_init (gWsOf yX7_init cX7_init 1 (Option.none : Option Jvm.ClassFile.FieldType)) { frames := 4, cells := 1, slots := 0, locals := 120 } (gPc n0 D cA [gA n0 159] M 160) (gQv n0 D cA 161 (fun M1 => gZ zb M1 ∧ M1 159 0 = 161 ∧ ∀ a : Int, a < 159 → M1 a = M a)) 1 0 (fun q => n0 ≤ q) := by
  refine gMet_of [gA n0 159] (by decide) (Nat.le_of_ble_eq_true rfl) ?_
  intro p e s m args below meth cd X hr hm
  have X : gCx p s m args meth cd n0 D cA "ParishUnion$Reader" cX7_init 1 := X
  show G p l e ({ frames := 4, cells := 1, slots := 0, locals := 120 } : Room) s m args below meth cd n0 D cA 1 (MQ below (gQv n0 D cA 161 (fun M1 => gZ zb M1 ∧ M1 159 0 = 161 ∧ ∀ a : Int, a < 159 → M1 a = M a)) args s 1 0 (fun q => n0 ≤ q)) 0 0 M 160 0 [(0, gA n0 159)] []
  refine g_aload_n (n := 1) X 0 dX7_init_0 rfl rfl rfl ?_
  refine g_objInit (n := 4) X kw_2_210 kw_1_27 kw_1_28 rfl dX7_init_1 (Nat.le_of_ble_eq_true rfl) (Nat.le_of_ble_eq_true rfl) rfl ?_
  refine g_aload_n (n := 5) X 0 dX7_init_4 rfl rfl rfl ?_
  refine g_iconst (n := 6) X dX7_init_5 rfl ?_
  refine g_newB (n := 8) (N := 0) X (by omega) (by omega) kw_1_87 lay_160 (Nat.le_of_ble_eq_true rfl) (Nat.le_of_ble_eq_true rfl) dX7_init_6 rfl ?_
  refine G.nm (fun M1 e2 => ?_)
  have ZM1 : gZ zb M1 := gZ.new ZM e2
  refine gp_7_0 (n := 11) X (by omega) (by omega) lay_159 kw_2_211 (by omega) dX7_init_8 rfl ?_
  refine G.nm (fun M3 e4 => ?_)
  have ZM3 : gZ zb M3 := gZ.set ZM1 zr_159_0 (by omega) e4
  exact g_return X hr dX7_init_11 (by exact ⟨ZM3, ((congrFun (congrFun e4 _) _).trans (gset_eq _ _ _ _)), fun a h0 => ((congrFun e4 a).trans ((gset_off a (by omega)).trans ((congrFun e2 a).trans ((gnew_off a (by omega)).trans rfl))))⟩)
