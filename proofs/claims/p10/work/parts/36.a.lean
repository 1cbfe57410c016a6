theorem gFr.obj {S : Nat} {M M1 : gM} {o : Int} (h : ∀ a b : Int, ¬ a = o → M1 a b = M a b) (hg : ∀ b : Int, S.testBit (gG o b) = true) : gFr S M M1 := by
  intro a b q
  by_cases e : a = o
  · rw [e, hg b] at q; cases q
  · exact h a b e
abbrev R_X12_keep : Room := { frames := 0, cells := 0, slots := 0, locals := 0 }
theorem dX12_keep_0 : decode cX12_keep 0 = .ok (.iconst 0, 1) := dc_3 (by decide +kernel)
theorem dX12_keep_1 : decode cX12_keep 1 = .ok (.istore_n 3, 1) := dc_62 (by decide +kernel)
theorem dX12_keep_2 : decode cX12_keep 2 = .ok (.iload_n 3, 1) := dc_29 (by decide +kernel)
theorem dX12_keep_3 : decode cX12_keep 3 = .ok (.sipush 25301, 3) := dc_17 98 213 25301 (by decide +kernel)
theorem dX12_keep_6 : decode cX12_keep 6 = .ok (.if_icmp .ge 15, 3) := dc_162 0 15 15 (by decide +kernel)
theorem dX12_keep_21 : decode cX12_keep 21 = .ok (.return_, 1) := dc_177 (by decide +kernel)
theorem dX12_keep_9 : decode cX12_keep 9 = .ok (.aload_n 1, 1) := dc_43 (by decide +kernel)
theorem dX12_keep_10 : decode cX12_keep 10 = .ok (.iload_n 3, 1) := dc_29 (by decide +kernel)
theorem dX12_keep_11 : decode cX12_keep 11 = .ok (.aload_n 2, 1) := dc_44 (by decide +kernel)
theorem dX12_keep_12 : decode cX12_keep 12 = .ok (.iload_n 3, 1) := dc_29 (by decide +kernel)
theorem dX12_keep_13 : decode cX12_keep 13 = .ok (.iaload, 1) := dc_46 (by decide +kernel)
theorem dX12_keep_14 : decode cX12_keep 14 = .ok (.iastore, 1) := dc_79 (by decide +kernel)
theorem dX12_keep_15 : decode cX12_keep 15 = .ok (.iinc 3 1, 3) := dc_132 3 1 1 (by decide +kernel)
theorem dX12_keep_18 : decode cX12_keep 18 = .ok (.goto (-16), 3) := dc_167 255 240 (-16) (by decide +kernel)
set_option maxHeartbeats 4000000 in
theorem s_X12_keep_192_191 {l : Launch} {n0 : Nat} {D : va_G} {cA : Nat → ClassId} {M : gM} {sz : Nat} (hsz : 206 ≤ sz) (I : gI sz M) (C : gC sz M) : Met l yX12_keep (gWsOf yX12_keep cX12_keep 4 (Option.none : Option Jvm.ClassFile.FieldType)) R_X12_keep (gPc n0 D cA [gA n0 190, gA n0 192, gA n0 191] M sz) (gQv n0 D cA sz (fun M1 => gI sz M1 ∧ gC sz M1 ∧ (∀ a b : Int, ¬ a = 192 → M1 a b = M a b) ∧ (∀ b : Int, 0 ≤ b → b < 25301 → M1 192 b = M 191 b))) 0 0 (fun q => n0 ≤ q) := by
  refine gMetV [gA n0 190, gA n0 192, gA n0 191] (by decide) (Nat.le_of_ble_eq_true rfl) ⟨rfl, rfl⟩ ?_
  intro p e s m args below meth cd Q X hq
  have X : gCx p s m args meth cd n0 D cA "ParishUnionModel" cX12_keep 4 := X
  show G p l e R_X12_keep s m args below meth cd n0 D cA 4 Q 0 0 M sz 0 [(0, gA n0 190), (1, gA n0 192), (2, gA n0 191)] []
  refine g_iconst (n := 1) X dX12_keep_0 rfl ?_
  refine g_istore_n (n := 2) (L' := [(3, gJ 0), (0, gA n0 190), (1, gA n0 192), (2, gA n0 191)]) X dX12_keep_1 rfl (by decide) rfl rfl ?_
  have j : ∀ (N : Nat) (k : Int) (M5 : gM), (0 ≤ k ∧ k ≤ 25301) → gI sz M5 → gC sz M5 → (∀ a b : Int, ¬ a = 192 → M5 a b = M a b) → (∀ b : Int, 0 ≤ b → b < k → M5 192 b = M 191 b) → (25301 - k).toNat < N → G p l e R_X12_keep s m args below meth cd n0 D cA 4 Q 0 0 M5 sz 2 [(0, gA n0 190), (1, gA n0 192), (2, gA n0 191), (3, gJ k)] [] := by
    intro N; induction N with
    | zero => intro k M5 r I5 C5 F5 E5 hm; exfalso; omega
    | succ N ih =>
      intro k M5 r I5 C5 F5 E5 hm
      refine g_iload_n (n := 3) X 3 dX12_keep_2 rfl rfl rfl ?_
      refine g_sipush (n := 6) X dX12_keep_3 (by decide +kernel) rfl ?_
      refine g_icmp_ge (n := 9) (tgt := 21) X dX12_keep_6 (by decide) (by omega) (by omega) rfl (fun c1 => ?_) (fun c1 => ?_)
      · exact hq _ _ _ dX12_keep_21 ⟨I5, C5, F5, fun b h0 h1 => E5 b h0 (by omega)⟩
      · refine g_aload_n (n := 10) X 1 dX12_keep_9 rfl rfl rfl ?_
        refine g_iload_n (n := 11) X 3 dX12_keep_10 rfl rfl rfl ?_
        refine g_aload_n (n := 12) X 2 dX12_keep_11 rfl rfl rfl ?_
        refine g_iload_n (n := 13) X 3 dX12_keep_12 rfl rfl rfl ?_
        obtain ⟨v, hv⟩ : ∃ v : Int, M5 191 k = v := ⟨_, rfl⟩
        refine g_iald2 (n := 14) (v := v) X (by decide) (gsz hsz (by decide)) lay_191 (by omega) (by omega) (by decide) dX12_keep_13 rfl hv ?_
        refine g_iast (n := 15) X (by decide) (gsz hsz (by decide)) lay_192 (by omega) (by omega) (by decide) dX12_keep_14 rfl ?_
        refine G.nm (fun M6 e6 => ?_)
        have I6 : gI sz M6 := gI.setc I5 (by decide) (gsz hsz (by decide)) (show gRg 192 k = gRg 191 k from rfl) hv e6
        have C6 : gC sz M6 := gC.set C5 (show gCr 192 k = false from rfl) e6
        refine g_iinc (n := 18) (w := k + 1) (L' := [(3, gJ (k + 1)), (0, gA n0 190), (1, gA n0 192), (2, gA n0 191)]) X 3 dX12_keep_15 rfl rfl (by decide) rfl rfl ?_
        refine g_goto (tgt := 2) X dX12_keep_18 (by decide) ?_
        refine G.sub (L' := [(0, gA n0 190), (1, gA n0 192), (2, gA n0 191), (3, gJ (k + 1))]) [1, 2, 3, 0] rfl ?_
        exact ih (k + 1) M6 (by omega) I6 C6 (fun a b h => by rw [e6, gset_ne (fun q => h q.1)]; exact F5 a b h) (fun b h0 h1 => by
          by_cases q : b = k
          · rw [q, e6, gset_eq, ← hv]; exact F5 191 k (by decide)
          · rw [e6, gset_ne (fun z => q z.2)]; exact E5 b h0 (by omega)) (by omega)
  refine G.sub (L' := [(0, gA n0 190), (1, gA n0 192), (2, gA n0 191), (3, gJ 0)]) [1, 2, 3, 0] rfl ?_
  exact j _ 0 M (by omega) I C (fun a b _ => rfl) (fun b h0 h1 => by exfalso; omega) (Nat.lt_succ_self _)
set_option maxHeartbeats 4000000 in
theorem s_X12_keep_191_192 {l : Launch} {n0 : Nat} {D : va_G} {cA : Nat → ClassId} {M : gM} {sz : Nat} (hsz : 206 ≤ sz) (I : gI sz M) (C : gC sz M) : Met l yX12_keep (gWsOf yX12_keep cX12_keep 4 (Option.none : Option Jvm.ClassFile.FieldType)) R_X12_keep (gPc n0 D cA [gA n0 190, gA n0 191, gA n0 192] M sz) (gQv n0 D cA sz (fun M1 => gI sz M1 ∧ gC sz M1 ∧ (∀ a b : Int, ¬ a = 191 → M1 a b = M a b) ∧ (∀ b : Int, 0 ≤ b → b < 25301 → M1 191 b = M 192 b))) 0 0 (fun q => n0 ≤ q) := by
  refine gMetV [gA n0 190, gA n0 191, gA n0 192] (by decide) (Nat.le_of_ble_eq_true rfl) ⟨rfl, rfl⟩ ?_
  intro p e s m args below meth cd Q X hq
  have X : gCx p s m args meth cd n0 D cA "ParishUnionModel" cX12_keep 4 := X
  show G p l e R_X12_keep s m args below meth cd n0 D cA 4 Q 0 0 M sz 0 [(0, gA n0 190), (1, gA n0 191), (2, gA n0 192)] []
  refine g_iconst (n := 1) X dX12_keep_0 rfl ?_
  refine g_istore_n (n := 2) (L' := [(3, gJ 0), (0, gA n0 190), (1, gA n0 191), (2, gA n0 192)]) X dX12_keep_1 rfl (by decide) rfl rfl ?_
  have j : ∀ (N : Nat) (k : Int) (M5 : gM), (0 ≤ k ∧ k ≤ 25301) → gI sz M5 → gC sz M5 → (∀ a b : Int, ¬ a = 191 → M5 a b = M a b) → (∀ b : Int, 0 ≤ b → b < k → M5 191 b = M 192 b) → (25301 - k).toNat < N → G p l e R_X12_keep s m args below meth cd n0 D cA 4 Q 0 0 M5 sz 2 [(0, gA n0 190), (1, gA n0 191), (2, gA n0 192), (3, gJ k)] [] := by
    intro N; induction N with
    | zero => intro k M5 r I5 C5 F5 E5 hm; exfalso; omega
    | succ N ih =>
      intro k M5 r I5 C5 F5 E5 hm
      refine g_iload_n (n := 3) X 3 dX12_keep_2 rfl rfl rfl ?_
      refine g_sipush (n := 6) X dX12_keep_3 (by decide +kernel) rfl ?_
      refine g_icmp_ge (n := 9) (tgt := 21) X dX12_keep_6 (by decide) (by omega) (by omega) rfl (fun c1 => ?_) (fun c1 => ?_)
      · exact hq _ _ _ dX12_keep_21 ⟨I5, C5, F5, fun b h0 h1 => E5 b h0 (by omega)⟩
      · refine g_aload_n (n := 10) X 1 dX12_keep_9 rfl rfl rfl ?_
        refine g_iload_n (n := 11) X 3 dX12_keep_10 rfl rfl rfl ?_
        refine g_aload_n (n := 12) X 2 dX12_keep_11 rfl rfl rfl ?_
        refine g_iload_n (n := 13) X 3 dX12_keep_12 rfl rfl rfl ?_
        obtain ⟨v, hv⟩ : ∃ v : Int, M5 192 k = v := ⟨_, rfl⟩
        refine g_iald2 (n := 14) (v := v) X (by decide) (gsz hsz (by decide)) lay_192 (by omega) (by omega) (by decide) dX12_keep_13 rfl hv ?_
        refine g_iast (n := 15) X (by decide) (gsz hsz (by decide)) lay_191 (by omega) (by omega) (by decide) dX12_keep_14 rfl ?_
        refine G.nm (fun M6 e6 => ?_)
        have I6 : gI sz M6 := gI.setc I5 (by decide) (gsz hsz (by decide)) (show gRg 191 k = gRg 192 k from rfl) hv e6
        have C6 : gC sz M6 := gC.set C5 (show gCr 191 k = false from rfl) e6
        refine g_iinc (n := 18) (w := k + 1) (L' := [(3, gJ (k + 1)), (0, gA n0 190), (1, gA n0 191), (2, gA n0 192)]) X 3 dX12_keep_15 rfl rfl (by decide) rfl rfl ?_
        refine g_goto (tgt := 2) X dX12_keep_18 (by decide) ?_
        refine G.sub (L' := [(0, gA n0 190), (1, gA n0 191), (2, gA n0 192), (3, gJ (k + 1))]) [1, 2, 3, 0] rfl ?_
        exact ih (k + 1) M6 (by omega) I6 C6 (fun a b h => by rw [e6, gset_ne (fun q => h q.1)]; exact F5 a b h) (fun b h0 h1 => by
          by_cases q : b = k
          · rw [q, e6, gset_eq, ← hv]; exact F5 192 k (by decide)
          · rw [e6, gset_ne (fun z => q z.2)]; exact E5 b h0 (by omega)) (by omega)
  refine G.sub (L' := [(0, gA n0 190), (1, gA n0 191), (2, gA n0 192), (3, gJ 0)]) [1, 2, 3, 0] rfl ?_
  exact j _ 0 M (by omega) I C (fun a b _ => rfl) (fun b h0 h1 => by exfalso; omega) (Nat.lt_succ_self _)
set_option maxHeartbeats 4000000 in
theorem s_X12_keep_193_191 {l : Launch} {n0 : Nat} {D : va_G} {cA : Nat → ClassId} {M : gM} {sz : Nat} (hsz : 206 ≤ sz) (I : gI sz M) (C : gC sz M) : Met l yX12_keep (gWsOf yX12_keep cX12_keep 4 (Option.none : Option Jvm.ClassFile.FieldType)) R_X12_keep (gPc n0 D cA [gA n0 190, gA n0 193, gA n0 191] M sz) (gQv n0 D cA sz (fun M1 => gI sz M1 ∧ gC sz M1 ∧ (∀ a b : Int, ¬ a = 193 → M1 a b = M a b) ∧ (∀ b : Int, 0 ≤ b → b < 25301 → M1 193 b = M 191 b))) 0 0 (fun q => n0 ≤ q) := by
  refine gMetV [gA n0 190, gA n0 193, gA n0 191] (by decide) (Nat.le_of_ble_eq_true rfl) ⟨rfl, rfl⟩ ?_
  intro p e s m args below meth cd Q X hq
  have X : gCx p s m args meth cd n0 D cA "ParishUnionModel" cX12_keep 4 := X
  show G p l e R_X12_keep s m args below meth cd n0 D cA 4 Q 0 0 M sz 0 [(0, gA n0 190), (1, gA n0 193), (2, gA n0 191)] []
  refine g_iconst (n := 1) X dX12_keep_0 rfl ?_
  refine g_istore_n (n := 2) (L' := [(3, gJ 0), (0, gA n0 190), (1, gA n0 193), (2, gA n0 191)]) X dX12_keep_1 rfl (by decide) rfl rfl ?_
  have j : ∀ (N : Nat) (k : Int) (M5 : gM), (0 ≤ k ∧ k ≤ 25301) → gI sz M5 → gC sz M5 → (∀ a b : Int, ¬ a = 193 → M5 a b = M a b) → (∀ b : Int, 0 ≤ b → b < k → M5 193 b = M 191 b) → (25301 - k).toNat < N → G p l e R_X12_keep s m args below meth cd n0 D cA 4 Q 0 0 M5 sz 2 [(0, gA n0 190), (1, gA n0 193), (2, gA n0 191), (3, gJ k)] [] := by
    intro N; induction N with
    | zero => intro k M5 r I5 C5 F5 E5 hm; exfalso; omega
    | succ N ih =>
      intro k M5 r I5 C5 F5 E5 hm
      refine g_iload_n (n := 3) X 3 dX12_keep_2 rfl rfl rfl ?_
      refine g_sipush (n := 6) X dX12_keep_3 (by decide +kernel) rfl ?_
      refine g_icmp_ge (n := 9) (tgt := 21) X dX12_keep_6 (by decide) (by omega) (by omega) rfl (fun c1 => ?_) (fun c1 => ?_)
      · exact hq _ _ _ dX12_keep_21 ⟨I5, C5, F5, fun b h0 h1 => E5 b h0 (by omega)⟩
      · refine g_aload_n (n := 10) X 1 dX12_keep_9 rfl rfl rfl ?_
        refine g_iload_n (n := 11) X 3 dX12_keep_10 rfl rfl rfl ?_
        refine g_aload_n (n := 12) X 2 dX12_keep_11 rfl rfl rfl ?_
        refine g_iload_n (n := 13) X 3 dX12_keep_12 rfl rfl rfl ?_
        obtain ⟨v, hv⟩ : ∃ v : Int, M5 191 k = v := ⟨_, rfl⟩
        refine g_iald2 (n := 14) (v := v) X (by decide) (gsz hsz (by decide)) lay_191 (by omega) (by omega) (by decide) dX12_keep_13 rfl hv ?_
        refine g_iast (n := 15) X (by decide) (gsz hsz (by decide)) lay_193 (by omega) (by omega) (by decide) dX12_keep_14 rfl ?_
        refine G.nm (fun M6 e6 => ?_)
        have I6 : gI sz M6 := gI.setc I5 (by decide) (gsz hsz (by decide)) (show gRg 193 k = gRg 191 k from rfl) hv e6
        have C6 : gC sz M6 := gC.set C5 (show gCr 193 k = false from rfl) e6
        refine g_iinc (n := 18) (w := k + 1) (L' := [(3, gJ (k + 1)), (0, gA n0 190), (1, gA n0 193), (2, gA n0 191)]) X 3 dX12_keep_15 rfl rfl (by decide) rfl rfl ?_
        refine g_goto (tgt := 2) X dX12_keep_18 (by decide) ?_
        refine G.sub (L' := [(0, gA n0 190), (1, gA n0 193), (2, gA n0 191), (3, gJ (k + 1))]) [1, 2, 3, 0] rfl ?_
        exact ih (k + 1) M6 (by omega) I6 C6 (fun a b h => by rw [e6, gset_ne (fun q => h q.1)]; exact F5 a b h) (fun b h0 h1 => by
          by_cases q : b = k
          · rw [q, e6, gset_eq, ← hv]; exact F5 191 k (by decide)
          · rw [e6, gset_ne (fun z => q z.2)]; exact E5 b h0 (by omega)) (by omega)
  refine G.sub (L' := [(0, gA n0 190), (1, gA n0 193), (2, gA n0 191), (3, gJ 0)]) [1, 2, 3, 0] rfl ?_
  exact j _ 0 M (by omega) I C (fun a b _ => rfl) (fun b h0 h1 => by exfalso; omega) (Nat.lt_succ_self _)
set_option maxHeartbeats 4000000 in
theorem s_X12_keep_191_193 {l : Launch} {n0 : Nat} {D : va_G} {cA : Nat → ClassId} {M : gM} {sz : Nat} (hsz : 206 ≤ sz) (I : gI sz M) (C : gC sz M) : Met l yX12_keep (gWsOf yX12_keep cX12_keep 4 (Option.none : Option Jvm.ClassFile.FieldType)) R_X12_keep (gPc n0 D cA [gA n0 190, gA n0 191, gA n0 193] M sz) (gQv n0 D cA sz (fun M1 => gI sz M1 ∧ gC sz M1 ∧ (∀ a b : Int, ¬ a = 191 → M1 a b = M a b) ∧ (∀ b : Int, 0 ≤ b → b < 25301 → M1 191 b = M 193 b))) 0 0 (fun q => n0 ≤ q) := by
  refine gMetV [gA n0 190, gA n0 191, gA n0 193] (by decide) (Nat.le_of_ble_eq_true rfl) ⟨rfl, rfl⟩ ?_
  intro p e s m args below meth cd Q X hq
  have X : gCx p s m args meth cd n0 D cA "ParishUnionModel" cX12_keep 4 := X
  show G p l e R_X12_keep s m args below meth cd n0 D cA 4 Q 0 0 M sz 0 [(0, gA n0 190), (1, gA n0 191), (2, gA n0 193)] []
  refine g_iconst (n := 1) X dX12_keep_0 rfl ?_
  refine g_istore_n (n := 2) (L' := [(3, gJ 0), (0, gA n0 190), (1, gA n0 191), (2, gA n0 193)]) X dX12_keep_1 rfl (by decide) rfl rfl ?_
  have j : ∀ (N : Nat) (k : Int) (M5 : gM), (0 ≤ k ∧ k ≤ 25301) → gI sz M5 → gC sz M5 → (∀ a b : Int, ¬ a = 191 → M5 a b = M a b) → (∀ b : Int, 0 ≤ b → b < k → M5 191 b = M 193 b) → (25301 - k).toNat < N → G p l e R_X12_keep s m args below meth cd n0 D cA 4 Q 0 0 M5 sz 2 [(0, gA n0 190), (1, gA n0 191), (2, gA n0 193), (3, gJ k)] [] := by
    intro N; induction N with
    | zero => intro k M5 r I5 C5 F5 E5 hm; exfalso; omega
    | succ N ih =>
      intro k M5 r I5 C5 F5 E5 hm
      refine g_iload_n (n := 3) X 3 dX12_keep_2 rfl rfl rfl ?_
      refine g_sipush (n := 6) X dX12_keep_3 (by decide +kernel) rfl ?_
      refine g_icmp_ge (n := 9) (tgt := 21) X dX12_keep_6 (by decide) (by omega) (by omega) rfl (fun c1 => ?_) (fun c1 => ?_)
      · exact hq _ _ _ dX12_keep_21 ⟨I5, C5, F5, fun b h0 h1 => E5 b h0 (by omega)⟩
      · refine g_aload_n (n := 10) X 1 dX12_keep_9 rfl rfl rfl ?_
        refine g_iload_n (n := 11) X 3 dX12_keep_10 rfl rfl rfl ?_
        refine g_aload_n (n := 12) X 2 dX12_keep_11 rfl rfl rfl ?_
        refine g_iload_n (n := 13) X 3 dX12_keep_12 rfl rfl rfl ?_
        obtain ⟨v, hv⟩ : ∃ v : Int, M5 193 k = v := ⟨_, rfl⟩
        refine g_iald2 (n := 14) (v := v) X (by decide) (gsz hsz (by decide)) lay_193 (by omega) (by omega) (by decide) dX12_keep_13 rfl hv ?_
        refine g_iast (n := 15) X (by decide) (gsz hsz (by decide)) lay_191 (by omega) (by omega) (by decide) dX12_keep_14 rfl ?_
        refine G.nm (fun M6 e6 => ?_)
        have I6 : gI sz M6 := gI.setc I5 (by decide) (gsz hsz (by decide)) (show gRg 191 k = gRg 193 k from rfl) hv e6
        have C6 : gC sz M6 := gC.set C5 (show gCr 191 k = false from rfl) e6
        refine g_iinc (n := 18) (w := k + 1) (L' := [(3, gJ (k + 1)), (0, gA n0 190), (1, gA n0 191), (2, gA n0 193)]) X 3 dX12_keep_15 rfl rfl (by decide) rfl rfl ?_
        refine g_goto (tgt := 2) X dX12_keep_18 (by decide) ?_
        refine G.sub (L' := [(0, gA n0 190), (1, gA n0 191), (2, gA n0 193), (3, gJ (k + 1))]) [1, 2, 3, 0] rfl ?_
        exact ih (k + 1) M6 (by omega) I6 C6 (fun a b h => by rw [e6, gset_ne (fun q => h q.1)]; exact F5 a b h) (fun b h0 h1 => by
          by_cases q : b = k
          · rw [q, e6, gset_eq, ← hv]; exact F5 193 k (by decide)
          · rw [e6, gset_ne (fun z => q z.2)]; exact E5 b h0 (by omega)) (by omega)
  refine G.sub (L' := [(0, gA n0 190), (1, gA n0 191), (2, gA n0 193), (3, gJ 0)]) [1, 2, 3, 0] rfl ?_
  exact j _ 0 M (by omega) I C (fun a b _ => rfl) (fun b h0 h1 => by exfalso; omega) (Nat.lt_succ_self _)
abbrev RW (d : Nat) : Room := { frames := 2 * d + 6, cells := 0, slots := 0, locals := 80 * d + 300 }
abbrev RG (d : Nat) : Room := { frames := 2 * d + 7, cells := 0, slots := 0, locals := 80 * d + 340 }
theorem dX12_gives_0 : decode cX12_gives 0 = .ok (.aload_n 0, 1) := dc_42 (by decide +kernel)
theorem dX12_gives_1 : decode cX12_gives 1 = .ok (.getfield 7, 3) := dc_180 0 7 (by decide +kernel)
theorem dX12_gives_4 : decode cX12_gives 4 = .ok (.sipush 416, 3) := dc_17 1 160 416 (by decide +kernel)
theorem dX12_gives_7 : decode cX12_gives 7 = .ok (.iload_n 1, 1) := dc_27 (by decide +kernel)
theorem dX12_gives_8 : decode cX12_gives 8 = .ok (.iadd, 1) := dc_96 (by decide +kernel)
theorem dX12_gives_9 : decode cX12_gives 9 = .ok (.iaload, 1) := dc_46 (by decide +kernel)
theorem dX12_gives_10 : decode cX12_gives 10 = .ok (.ifCond .ge 7, 3) := dc_156 0 7 7 (by decide +kernel)
theorem dX12_gives_17 : decode cX12_gives 17 = .ok (.aload_n 0, 1) := dc_42 (by decide +kernel)
theorem dX12_gives_18 : decode cX12_gives 18 = .ok (.getfield 7, 3) := dc_180 0 7 (by decide +kernel)
theorem dX12_gives_21 : decode cX12_gives 21 = .ok (.sipush 416, 3) := dc_17 1 160 416 (by decide +kernel)
theorem dX12_gives_24 : decode cX12_gives 24 = .ok (.iload_n 1, 1) := dc_27 (by decide +kernel)
theorem dX12_gives_25 : decode cX12_gives 25 = .ok (.iadd, 1) := dc_96 (by decide +kernel)
theorem dX12_gives_26 : decode cX12_gives 26 = .ok (.iaload, 1) := dc_46 (by decide +kernel)
theorem dX12_gives_27 : decode cX12_gives 27 = .ok (.istore_n 3, 1) := dc_62 (by decide +kernel)
theorem dX12_gives_28 : decode cX12_gives 28 = .ok (.aload_n 0, 1) := dc_42 (by decide +kernel)
theorem dX12_gives_29 : decode cX12_gives 29 = .ok (.getfield 7, 3) := dc_180 0 7 (by decide +kernel)
theorem dX12_gives_32 : decode cX12_gives 32 = .ok (.sipush 256, 3) := dc_17 1 0 256 (by decide +kernel)
theorem dX12_gives_35 : decode cX12_gives 35 = .ok (.iload_n 1, 1) := dc_27 (by decide +kernel)
theorem dX12_gives_36 : decode cX12_gives 36 = .ok (.iadd, 1) := dc_96 (by decide +kernel)
theorem dX12_gives_37 : decode cX12_gives 37 = .ok (.iaload, 1) := dc_46 (by decide +kernel)
theorem dX12_gives_38 : decode cX12_gives 38 = .ok (.istore 4, 2) := dc_54 4 (by decide +kernel)
theorem dX12_gives_40 : decode cX12_gives 40 = .ok (.iload 4, 2) := dc_21 4 (by decide +kernel)
theorem dX12_gives_42 : decode cX12_gives 42 = .ok (.iconst 3, 1) := dc_6 (by decide +kernel)
theorem dX12_gives_43 : decode cX12_gives 43 = .ok (.if_icmp .ne 58, 3) := dc_160 0 58 58 (by decide +kernel)
theorem dX12_gives_101 : decode cX12_gives 101 = .ok (.aload_n 0, 1) := dc_42 (by decide +kernel)
theorem dX12_gives_102 : decode cX12_gives 102 = .ok (.iload 4, 2) := dc_21 4 (by decide +kernel)
theorem dX12_gives_104 : decode cX12_gives 104 = .ok (.iconst 2, 1) := dc_5 (by decide +kernel)
theorem dX12_gives_105 : decode cX12_gives 105 = .ok (.if_icmp .ne 7, 3) := dc_160 0 7 7 (by decide +kernel)
theorem dX12_gives_112 : decode cX12_gives 112 = .ok (.iconst 0, 1) := dc_3 (by decide +kernel)
theorem dX12_gives_113 : decode cX12_gives 113 = .ok (.iload_n 3, 1) := dc_29 (by decide +kernel)
theorem dX12_gives_114 : decode cX12_gives 114 = .ok (.invokevirtual 101, 3) := dc_182 0 101 (by decide +kernel)
theorem dX12_gives_117 : decode cX12_gives 117 = .ok (.aload_n 0, 1) := dc_42 (by decide +kernel)
theorem dX12_gives_118 : decode cX12_gives 118 = .ok (.iload_n 1, 1) := dc_27 (by decide +kernel)
theorem dX12_gives_119 : decode cX12_gives 119 = .ok (.invokevirtual 97, 3) := dc_182 0 97 (by decide +kernel)
theorem dX12_gives_122 : decode cX12_gives 122 = .ok (.if_icmp .gt 16, 3) := dc_163 0 16 16 (by decide +kernel)
theorem dX12_gives_138 : decode cX12_gives 138 = .ok (.iload_n 2, 1) := dc_28 (by decide +kernel)
theorem dX12_gives_139 : decode cX12_gives 139 = .ok (.ireturn, 1) := dc_172 (by decide +kernel)
theorem dX12_gives_125 : decode cX12_gives 125 = .ok (.aload_n 0, 1) := dc_42 (by decide +kernel)
theorem dX12_gives_126 : decode cX12_gives 126 = .ok (.getfield 7, 3) := dc_180 0 7 (by decide +kernel)
theorem dX12_gives_129 : decode cX12_gives 129 = .ok (.sipush 336, 3) := dc_17 1 80 336 (by decide +kernel)
theorem dX12_gives_132 : decode cX12_gives 132 = .ok (.iload_n 1, 1) := dc_27 (by decide +kernel)
theorem dX12_gives_133 : decode cX12_gives 133 = .ok (.iadd, 1) := dc_96 (by decide +kernel)
theorem dX12_gives_134 : decode cX12_gives 134 = .ok (.iaload, 1) := dc_46 (by decide +kernel)
theorem dX12_gives_135 : decode cX12_gives 135 = .ok (.goto 4, 3) := dc_167 0 4 4 (by decide +kernel)
theorem dX12_gives_108 : decode cX12_gives 108 = .ok (.iconst 1, 1) := dc_4 (by decide +kernel)
theorem dX12_gives_109 : decode cX12_gives 109 = .ok (.goto 4, 3) := dc_167 0 4 4 (by decide +kernel)
theorem dX12_gives_46 : decode cX12_gives 46 = .ok (.aload_n 0, 1) := dc_42 (by decide +kernel)
theorem dX12_gives_47 : decode cX12_gives 47 = .ok (.iconst 5, 1) := dc_8 (by decide +kernel)
theorem dX12_gives_48 : decode cX12_gives 48 = .ok (.iload_n 3, 1) := dc_29 (by decide +kernel)
theorem dX12_gives_49 : decode cX12_gives 49 = .ok (.invokevirtual 101, 3) := dc_182 0 101 (by decide +kernel)
theorem dX12_gives_52 : decode cX12_gives 52 = .ok (.iconst 1, 1) := dc_4 (by decide +kernel)
theorem dX12_gives_53 : decode cX12_gives 53 = .ok (.if_icmp .ne 30, 3) := dc_160 0 30 30 (by decide +kernel)
theorem dX12_gives_83 : decode cX12_gives 83 = .ok (.bipush (-5), 2) := dc_16 251 (-5) (by decide +kernel)
theorem dX12_gives_85 : decode cX12_gives 85 = .ok (.istore 5, 2) := dc_54 5 (by decide +kernel)
theorem dX12_gives_87 : decode cX12_gives 87 = .ok (.iload 5, 2) := dc_21 5 (by decide +kernel)
theorem dX12_gives_89 : decode cX12_gives 89 = .ok (.bipush (-5), 2) := dc_16 251 (-5) (by decide +kernel)
theorem dX12_gives_91 : decode cX12_gives 91 = .ok (.if_icmp .ne 7, 3) := dc_160 0 7 7 (by decide +kernel)
theorem dX12_gives_94 : decode cX12_gives 94 = .ok (.iload_n 2, 1) := dc_28 (by decide +kernel)
theorem dX12_gives_95 : decode cX12_gives 95 = .ok (.goto 5, 3) := dc_167 0 5 5 (by decide +kernel)
theorem dX12_gives_100 : decode cX12_gives 100 = .ok (.ireturn, 1) := dc_172 (by decide +kernel)
theorem dX12_gives_56 : decode cX12_gives 56 = .ok (.aload_n 0, 1) := dc_42 (by decide +kernel)
theorem dX12_gives_57 : decode cX12_gives 57 = .ok (.aload_n 0, 1) := dc_42 (by decide +kernel)
theorem dX12_gives_58 : decode cX12_gives 58 = .ok (.getfield 7, 3) := dc_180 0 7 (by decide +kernel)
theorem dX12_gives_61 : decode cX12_gives 61 = .ok (.sipush 336, 3) := dc_17 1 80 336 (by decide +kernel)
theorem dX12_gives_64 : decode cX12_gives 64 = .ok (.iload_n 1, 1) := dc_27 (by decide +kernel)
theorem dX12_gives_65 : decode cX12_gives 65 = .ok (.iadd, 1) := dc_96 (by decide +kernel)
theorem dX12_gives_66 : decode cX12_gives 66 = .ok (.iaload, 1) := dc_46 (by decide +kernel)
theorem dX12_gives_67 : decode cX12_gives 67 = .ok (.aload_n 0, 1) := dc_42 (by decide +kernel)
theorem dX12_gives_68 : decode cX12_gives 68 = .ok (.getfield 7, 3) := dc_180 0 7 (by decide +kernel)
theorem dX12_gives_71 : decode cX12_gives 71 = .ok (.sipush 416, 3) := dc_17 1 160 416 (by decide +kernel)
theorem dX12_gives_74 : decode cX12_gives 74 = .ok (.iload_n 1, 1) := dc_27 (by decide +kernel)
theorem dX12_gives_75 : decode cX12_gives 75 = .ok (.iadd, 1) := dc_96 (by decide +kernel)
theorem dX12_gives_76 : decode cX12_gives 76 = .ok (.iaload, 1) := dc_46 (by decide +kernel)
theorem dX12_gives_77 : decode cX12_gives 77 = .ok (.invokevirtual 104, 3) := dc_182 0 104 (by decide +kernel)
theorem kw_6_189 : (Jvm.Cond.methodLink "ParishUnionModel" (104 : Nat) ({ cls := "ParishUnionModel", name := "whose", desc := "(II)I" } : Jvm.MethodName)) ∈ gT := gT_of (tb_6 _ (List.mem_of_getElem? (i := 189) rfl)) rfl
theorem kw_6_192 : (Jvm.Cond.code ({ cls := "ParishUnionModel", name := "whose", desc := "(II)I" } : Jvm.MethodName) prog_14_method_27_code (6 : Nat) (Option.some Jvm.ClassFile.FieldType.int)) ∈ gT := gT_of (tb_6 _ (List.mem_of_getElem? (i := 192) rfl)) rfl
theorem okX12_whose : gQok yX12_whose cX12_whose 6 (Option.some Jvm.ClassFile.FieldType.int) 2 := ⟨kw_6_192, kw_1_13, by decide +kernel, by decide +kernel, by decide +kernel⟩
theorem kw_6_191 : (Jvm.Cond.instanceMethod ({ cls := "ParishUnionModel", name := "whose", desc := "(II)I" } : Jvm.MethodName)) ∈ gT := gT_of (tb_6 _ (List.mem_of_getElem? (i := 191) rfl)) rfl
theorem kw_0_48 : (Jvm.Cond.selects "ParishUnionModel" ({ cls := "ParishUnionModel", name := "whose", desc := "(II)I" } : Jvm.MethodName) ({ cls := "ParishUnionModel", name := "whose", desc := "(II)I" } : Jvm.MethodName)) ∈ gT := gT_of (tb_0 _ (List.mem_of_getElem? (i := 48) rfl)) rfl
theorem dX12_gives_80 : decode cX12_gives 80 = .ok (.goto 5, 3) := dc_167 0 5 5 (by decide +kernel)
theorem dX12_gives_98 : decode cX12_gives 98 = .ok (.iload 5, 2) := dc_21 5 (by decide +kernel)
theorem dX12_gives_13 : decode cX12_gives 13 = .ok (.iconst 0, 1) := dc_3 (by decide +kernel)
theorem dX12_gives_14 : decode cX12_gives 14 = .ok (.goto 13, 3) := dc_167 0 13 13 (by decide +kernel)
set_option maxRecDepth 100000 in
set_option maxHeartbeats 4000000 in
theorem s_X12_givesR {l : Launch} {n0 : Nat} {D : va_G} {cA : Nat → ClassId} {M : gM} (a : Int) (r_a : 0 ≤ a ∧ a ≤ 39) (b : Int) (r_b : 0 ≤ b ∧ b ≤ 5) {sz : Nat} (hsz : 206 ≤ sz) (I : gI sz M) (C : gC sz M) (W : gW 191 M) (d : Nat) (hd : M 191 (a + 256) = 3 → 16 ≤ (d : Int)) (hwh : (∀ (p w : Int), 0 ≤ p → p < M 191 1 → -3000 ≤ w ∧ w ≤ 300 → p + 17 * M 191 (p + 80) < (d : Int) → Met l yX12_whose (gWsOf yX12_whose cX12_whose 6 (Option.some Jvm.ClassFile.FieldType.int)) (RW d) (gPc n0 D cA [gA n0 190, gJ p, gJ w] M sz) (gQi n0 D cA sz (fun z M1 => M = M1 ∧ (-5 ≤ z ∧ z ≤ 5) ∧ (z = -5 ∨ 0 ≤ z))) 0 0 (fun q => n0 ≤ q))) : Met l yX12_gives (gWsOf yX12_gives cX12_gives 6 (Option.some Jvm.ClassFile.FieldType.int)) (RG d) (gPc n0 D cA [gA n0 190, gJ a, gJ b] M sz) (gQi n0 D cA sz (fun z M1 => M = M1 ∧ (0 ≤ z ∧ z ≤ 5))) 0 0 (fun q => n0 ≤ q) := by
  refine gMetI [gA n0 190, gJ a, gJ b] (by decide) (Nat.le_of_ble_eq_true rfl) ⟨rfl, rfl⟩ ?_
  intro p e s m args below meth cd Q X hq
  have X : gCx p s m args meth cd n0 D cA "ParishUnionModel" cX12_gives 6 := X
  show G p l e (RG d) s m args below meth cd n0 D cA 6 Q 0 0 M sz 0 [(0, gA n0 190), (1, gJ a), (2, gJ b)] []
  refine g_aload_n (n := 1) X 0 dX12_gives_0 rfl rfl rfl ?_
  refine gg_12_1 (n := 4) (z := 191) X (by decide) (gsz hsz (by decide)) lay_190 kw_6_27 dX12_gives_1 rfl (rf_190_1 I (gsz hsz (by decide))) (by decide) ?_
  refine g_sipush (n := 7) X dX12_gives_4 (by decide +kernel) rfl ?_
  refine g_iload_n (n := 8) X 1 dX12_gives_7 rfl rfl rfl ?_
  refine g_iadd (n := 9) (z := a + 416) X dX12_gives_8 (by omega) rfl ?_
  obtain ⟨v1, hv1, rv1⟩ := gRd I (by decide) (gsz hsz (by decide)) (rs_RWEEK (k := a + 416) (by omega)).1
  refine g_iald2 (n := 10) (v := v1) X (by decide) (gsz hsz (by decide)) lay_191 (by omega) (by omega) (by decide) dX12_gives_9 rfl hv1 ?_
  refine g_if_ge (n := 13) (tgt := 17) X dX12_gives_10 (by decide) (by omega) rfl (fun c2 => ?_) (fun c2 => ?_)
  · refine g_aload_n (n := 18) X 0 dX12_gives_17 rfl rfl rfl ?_
    refine gg_12_1 (n := 21) (z := 191) X (by decide) (gsz hsz (by decide)) lay_190 kw_6_27 dX12_gives_18 rfl (rf_190_1 I (gsz hsz (by decide))) (by decide) ?_
    refine g_sipush (n := 24) X dX12_gives_21 (by decide +kernel) rfl ?_
    refine g_iload_n (n := 25) X 1 dX12_gives_24 rfl rfl rfl ?_
    refine g_iadd (n := 26) (z := a + 416) X dX12_gives_25 (by omega) rfl ?_
    refine g_iald2 (n := 27) (v := v1) X (by decide) (gsz hsz (by decide)) lay_191 (by omega) (by omega) (by decide) dX12_gives_26 rfl hv1 ?_
    refine g_istore_n (n := 28) (L' := [(3, gJ v1), (0, gA n0 190), (1, gJ a), (2, gJ b)]) X dX12_gives_27 rfl (by decide) rfl rfl ?_
    refine g_aload_n (n := 29) X 1 dX12_gives_28 rfl rfl rfl ?_
    refine gg_12_1 (n := 32) (z := 191) X (by decide) (gsz hsz (by decide)) lay_190 kw_6_27 dX12_gives_29 rfl (rf_190_1 I (gsz hsz (by decide))) (by decide) ?_
    refine g_sipush (n := 35) X dX12_gives_32 (by decide +kernel) rfl ?_
    refine g_iload_n (n := 36) X 2 dX12_gives_35 rfl rfl rfl ?_
    refine g_iadd (n := 37) (z := a + 256) X dX12_gives_36 (by omega) rfl ?_
    obtain ⟨v3, hv3, rv3⟩ := gRd I (by decide) (gsz hsz (by decide)) (rs_RKIND (k := a + 256) (by omega)).1
    refine g_iald2 (n := 38) (v := v3) X (by decide) (gsz hsz (by decide)) lay_191 (by omega) (by omega) (by decide) dX12_gives_37 rfl hv3 ?_
    refine g_istore (n := 40) (L' := [(4, gJ v3), (3, gJ v1), (0, gA n0 190), (1, gJ a), (2, gJ b)]) X dX12_gives_38 (by decide) rfl rfl ?_
    refine g_iload (n := 42) X 0 dX12_gives_40 rfl rfl ?_
    refine g_iconst (n := 43) X dX12_gives_42 rfl ?_
    refine g_icmp_ne (n := 46) (tgt := 101) X dX12_gives_43 (by decide) (by omega) (by omega) rfl (fun c4 => ?_) (fun c4 => ?_)
    · refine g_aload_n (n := 102) X 2 dX12_gives_101 rfl rfl rfl ?_
      refine g_iload (n := 104) X 0 dX12_gives_102 rfl rfl ?_
      refine g_iconst (n := 105) X dX12_gives_104 rfl ?_
      refine g_icmp_ne (n := 108) (tgt := 112) X dX12_gives_105 (by decide) (by omega) (by omega) rfl (fun c5 => ?_) (fun c5 => ?_)
      · refine g_iconst (n := 113) X dX12_gives_112 rfl ?_
        refine g_iload_n (n := 114) X 1 dX12_gives_113 rfl rfl rfl ?_
        refine g_callVi (n := 117) (As := [gJ 0, gJ v1]) (rest := []) (cs1 := 0) (ss1 := 0) X (s_X12_law 0 (by omega) v1 (by omega) hsz I C ) okX12_law kw_6_193 ⟨kw_6_195, kw_0_49⟩ ⟨rfl, rfl⟩ (by first | exact ⟨Nat.le_of_ble_eq_true rfl, Nat.le_of_ble_eq_true rfl⟩ | (refine ⟨?_, ?_⟩ <;> (simp only [RW, RG, R_X12_law, R_X12_counted, R_X12_counts]; omega))) rfl (by decide) (gsz hsz (by decide)) lay_190 rfl rfl (Nat.le_of_ble_eq_true rfl) ⟨Nat.le_of_ble_eq_true rfl, Nat.le_of_ble_eq_true rfl⟩ rfl rfl dX12_gives_114 rfl (fun v6 M7 P8 => ?_)
        obtain ⟨rfl, rv6⟩ := P8
        refine g_aload_n (n := 118) X 2 dX12_gives_117 rfl rfl rfl ?_
        refine g_iload_n (n := 119) X 3 dX12_gives_118 rfl rfl rfl ?_
        refine g_callVi (n := 122) (As := [gJ a]) (rest := [gJ v6]) (cs1 := 0) (ss1 := 0) X (s_X12_counted a (by omega) hsz I C ) okX12_counted kw_6_173 ⟨kw_6_175, kw_0_45⟩ ⟨rfl, rfl⟩ (by first | exact ⟨Nat.le_of_ble_eq_true rfl, Nat.le_of_ble_eq_true rfl⟩ | (refine ⟨?_, ?_⟩ <;> (simp only [RW, RG, R_X12_law, R_X12_counted, R_X12_counts]; omega))) rfl (by decide) (gsz hsz (by decide)) lay_190 rfl rfl (Nat.le_of_ble_eq_true rfl) ⟨Nat.le_of_ble_eq_true rfl, Nat.le_of_ble_eq_true rfl⟩ rfl rfl dX12_gives_119 rfl (fun v9 M10 P11 => ?_)
        obtain ⟨rfl, rv9, xv9⟩ := P11
        refine g_icmp_gt (n := 125) (tgt := 138) X dX12_gives_122 (by decide) (by omega) (by omega) rfl (fun c12 => ?_) (fun c12 => ?_)
        · refine g_iload_n (n := 139) X 4 dX12_gives_138 rfl rfl rfl ?_
          exact hq _ _ _ _ dX12_gives_139 ⟨rfl, by omega⟩
        · refine g_aload_n (n := 126) X 2 dX12_gives_125 rfl rfl rfl ?_
          refine gg_12_1 (n := 129) (z := 191) X (by decide) (gsz hsz (by decide)) lay_190 kw_6_27 dX12_gives_126 rfl (rf_190_1 I (gsz hsz (by decide))) (by decide) ?_
          refine g_sipush (n := 132) X dX12_gives_129 (by decide +kernel) rfl ?_
          refine g_iload_n (n := 133) X 3 dX12_gives_132 rfl rfl rfl ?_
          refine g_iadd (n := 134) (z := a + 336) X dX12_gives_133 (by omega) rfl ?_
          obtain ⟨v13, hv13, rv13⟩ := gRd I (by decide) (gsz hsz (by decide)) (rs_RTO (k := a + 336) (by omega)).1
          refine g_iald2 (n := 135) (v := v13) X (by decide) (gsz hsz (by decide)) lay_191 (by omega) (by omega) (by decide) dX12_gives_134 rfl hv13 ?_
          have hw2 := (W.2.1 a (by omega) (by omega)).1
          refine g_goto (tgt := 139) X dX12_gives_135 (by decide) ?_
          exact hq _ _ _ _ dX12_gives_139 ⟨rfl, by omega⟩
      · refine g_iconst (n := 109) X dX12_gives_108 rfl ?_
        refine g_goto (tgt := 113) X dX12_gives_109 (by decide) ?_
        refine g_iload_n (n := 114) X 1 dX12_gives_113 rfl rfl rfl ?_
        refine g_callVi (n := 117) (As := [gJ 1, gJ v1]) (rest := []) (cs1 := 0) (ss1 := 0) X (s_X12_law 1 (by omega) v1 (by omega) hsz I C ) okX12_law kw_6_193 ⟨kw_6_195, kw_0_49⟩ ⟨rfl, rfl⟩ (by first | exact ⟨Nat.le_of_ble_eq_true rfl, Nat.le_of_ble_eq_true rfl⟩ | (refine ⟨?_, ?_⟩ <;> (simp only [RW, RG, R_X12_law, R_X12_counted, R_X12_counts]; omega))) rfl (by decide) (gsz hsz (by decide)) lay_190 rfl rfl (Nat.le_of_ble_eq_true rfl) ⟨Nat.le_of_ble_eq_true rfl, Nat.le_of_ble_eq_true rfl⟩ rfl rfl dX12_gives_114 rfl (fun v14 M15 P16 => ?_)
        obtain ⟨rfl, rv14⟩ := P16
        refine g_aload_n (n := 118) X 2 dX12_gives_117 rfl rfl rfl ?_
        refine g_iload_n (n := 119) X 3 dX12_gives_118 rfl rfl rfl ?_
        refine g_callVi (n := 122) (As := [gJ a]) (rest := [gJ v14]) (cs1 := 0) (ss1 := 0) X (s_X12_counted a (by omega) hsz I C ) okX12_counted kw_6_173 ⟨kw_6_175, kw_0_45⟩ ⟨rfl, rfl⟩ (by first | exact ⟨Nat.le_of_ble_eq_true rfl, Nat.le_of_ble_eq_true rfl⟩ | (refine ⟨?_, ?_⟩ <;> (simp only [RW, RG, R_X12_law, R_X12_counted, R_X12_counts]; omega))) rfl (by decide) (gsz hsz (by decide)) lay_190 rfl rfl (Nat.le_of_ble_eq_true rfl) ⟨Nat.le_of_ble_eq_true rfl, Nat.le_of_ble_eq_true rfl⟩ rfl rfl dX12_gives_119 rfl (fun v17 M18 P19 => ?_)
        obtain ⟨rfl, rv17, xv17⟩ := P19
        refine g_icmp_gt (n := 125) (tgt := 138) X dX12_gives_122 (by decide) (by omega) (by omega) rfl (fun c20 => ?_) (fun c20 => ?_)
        · refine g_iload_n (n := 139) X 4 dX12_gives_138 rfl rfl rfl ?_
          exact hq _ _ _ _ dX12_gives_139 ⟨rfl, by omega⟩
        · refine g_aload_n (n := 126) X 2 dX12_gives_125 rfl rfl rfl ?_
          refine gg_12_1 (n := 129) (z := 191) X (by decide) (gsz hsz (by decide)) lay_190 kw_6_27 dX12_gives_126 rfl (rf_190_1 I (gsz hsz (by decide))) (by decide) ?_
          refine g_sipush (n := 132) X dX12_gives_129 (by decide +kernel) rfl ?_
          refine g_iload_n (n := 133) X 3 dX12_gives_132 rfl rfl rfl ?_
          refine g_iadd (n := 134) (z := a + 336) X dX12_gives_133 (by omega) rfl ?_
          obtain ⟨v21, hv21, rv21⟩ := gRd I (by decide) (gsz hsz (by decide)) (rs_RTO (k := a + 336) (by omega)).1
          refine g_iald2 (n := 135) (v := v21) X (by decide) (gsz hsz (by decide)) lay_191 (by omega) (by omega) (by decide) dX12_gives_134 rfl hv21 ?_
          have hw2 := (W.2.1 a (by omega) (by omega)).1
          refine g_goto (tgt := 139) X dX12_gives_135 (by decide) ?_
          exact hq _ _ _ _ dX12_gives_139 ⟨rfl, by omega⟩
    · refine g_aload_n (n := 47) X 2 dX12_gives_46 rfl rfl rfl ?_
      refine g_iconst (n := 48) X dX12_gives_47 rfl ?_
      refine g_iload_n (n := 49) X 1 dX12_gives_48 rfl rfl rfl ?_
      refine g_callVi (n := 52) (As := [gJ 5, gJ v1]) (rest := []) (cs1 := 0) (ss1 := 0) X (s_X12_law 5 (by omega) v1 (by omega) hsz I C ) okX12_law kw_6_193 ⟨kw_6_195, kw_0_49⟩ ⟨rfl, rfl⟩ (by first | exact ⟨Nat.le_of_ble_eq_true rfl, Nat.le_of_ble_eq_true rfl⟩ | (refine ⟨?_, ?_⟩ <;> (simp only [RW, RG, R_X12_law, R_X12_counted, R_X12_counts]; omega))) rfl (by decide) (gsz hsz (by decide)) lay_190 rfl rfl (Nat.le_of_ble_eq_true rfl) ⟨Nat.le_of_ble_eq_true rfl, Nat.le_of_ble_eq_true rfl⟩ rfl rfl dX12_gives_49 rfl (fun v22 M23 P24 => ?_)
      obtain ⟨rfl, rv22⟩ := P24
      refine g_iconst (n := 53) X dX12_gives_52 rfl ?_
      refine g_icmp_ne (n := 56) (tgt := 83) X dX12_gives_53 (by decide) (by omega) (by omega) rfl (fun c25 => ?_) (fun c25 => ?_)
      · refine g_bipush (n := 85) X dX12_gives_83 (by decide +kernel) rfl ?_
        refine g_istore (n := 87) (L' := [(5, gJ (-5)), (4, gJ v3), (3, gJ v1), (0, gA n0 190), (1, gJ a), (2, gJ b)]) X dX12_gives_85 (by decide) rfl rfl ?_
        refine g_iload (n := 89) X 0 dX12_gives_87 rfl rfl ?_
        refine g_bipush (n := 91) X dX12_gives_89 (by decide +kernel) rfl ?_
        refine g_icmp_ne (n := 94) (tgt := 98) X dX12_gives_91 (by decide) (by omega) (by omega) rfl (fun c26 => by exfalso; omega) (fun c26 => ?_)
        refine g_iload_n (n := 95) X 5 dX12_gives_94 rfl rfl rfl ?_
        refine g_goto (tgt := 100) X dX12_gives_95 (by decide) ?_
        exact hq _ _ _ _ dX12_gives_100 ⟨rfl, by omega⟩
      · refine g_aload_n (n := 57) X 2 dX12_gives_56 rfl rfl rfl ?_
        refine g_aload_n (n := 58) X 2 dX12_gives_57 rfl rfl rfl ?_
        refine gg_12_1 (n := 61) (z := 191) X (by decide) (gsz hsz (by decide)) lay_190 kw_6_27 dX12_gives_58 rfl (rf_190_1 I (gsz hsz (by decide))) (by decide) ?_
        refine g_sipush (n := 64) X dX12_gives_61 (by decide +kernel) rfl ?_
        refine g_iload_n (n := 65) X 3 dX12_gives_64 rfl rfl rfl ?_
        refine g_iadd (n := 66) (z := a + 336) X dX12_gives_65 (by omega) rfl ?_
        obtain ⟨v27, hv27, rv27⟩ := gRd I (by decide) (gsz hsz (by decide)) (rs_RTO (k := a + 336) (by omega)).1
        refine g_iald2 (n := 67) (v := v27) X (by decide) (gsz hsz (by decide)) lay_191 (by omega) (by omega) (by decide) dX12_gives_66 rfl hv27 ?_
        refine g_aload_n (n := 68) X 2 dX12_gives_67 rfl rfl rfl ?_
        refine gg_12_1 (n := 71) (z := 191) X (by decide) (gsz hsz (by decide)) lay_190 kw_6_27 dX12_gives_68 rfl (rf_190_1 I (gsz hsz (by decide))) (by decide) ?_
        refine g_sipush (n := 74) X dX12_gives_71 (by decide +kernel) rfl ?_
        refine g_iload_n (n := 75) X 3 dX12_gives_74 rfl rfl rfl ?_
        refine g_iadd (n := 76) (z := a + 416) X dX12_gives_75 (by omega) rfl ?_
        refine g_iald2 (n := 77) (v := v1) X (by decide) (gsz hsz (by decide)) lay_191 (by omega) (by omega) (by decide) dX12_gives_76 rfl hv1 ?_
        refine g_callVi (n := 80) (As := [gJ v27, gJ v1]) (rest := []) (cs1 := 0) (ss1 := 0) X (hwh v27 v1 (by omega) (by have hw := (W.2.1 a (by omega) (by omega)).2 (hv3.trans (by omega)); rw [hv27] at hw; exact hw.1) (by omega) (by have hw := (W.2.1 a (by omega) (by omega)).2 (hv3.trans (by omega)); rw [hv27] at hw; have hd2 := hd (hv3.trans (by omega)); omega)) okX12_whose kw_6_189 ⟨kw_6_191, kw_0_48⟩ ⟨rfl, rfl⟩ (by first | exact ⟨Nat.le_of_ble_eq_true rfl, Nat.le_of_ble_eq_true rfl⟩ | (refine ⟨?_, ?_⟩ <;> (simp only [RW, RG, R_X12_law, R_X12_counted, R_X12_counts]; omega))) rfl (by decide) (gsz hsz (by decide)) lay_190 rfl rfl (Nat.le_of_ble_eq_true rfl) ⟨Nat.le_of_ble_eq_true rfl, Nat.le_of_ble_eq_true rfl⟩ rfl rfl dX12_gives_77 rfl (fun v28 M29 P30 => ?_)
        obtain ⟨rfl, rv28, xv28⟩ := P30
        refine g_goto (tgt := 85) X dX12_gives_80 (by decide) ?_
        refine g_istore (n := 87) (L' := [(5, gJ v28), (4, gJ v3), (3, gJ v1), (0, gA n0 190), (1, gJ a), (2, gJ b)]) X dX12_gives_85 (by decide) rfl rfl ?_
        refine g_iload (n := 89) X 0 dX12_gives_87 rfl rfl ?_
        refine g_bipush (n := 91) X dX12_gives_89 (by decide +kernel) rfl ?_
        refine g_icmp_ne (n := 94) (tgt := 98) X dX12_gives_91 (by decide) (by omega) (by omega) rfl (fun c31 => ?_) (fun c31 => ?_)
        · refine g_iload (n := 100) X 0 dX12_gives_98 rfl rfl ?_
          exact hq _ _ _ _ dX12_gives_100 ⟨rfl, by omega⟩
        · refine g_iload_n (n := 95) X 5 dX12_gives_94 rfl rfl rfl ?_
          refine g_goto (tgt := 100) X dX12_gives_95 (by decide) ?_
          exact hq _ _ _ _ dX12_gives_100 ⟨rfl, by omega⟩
  · refine g_iconst (n := 14) X dX12_gives_13 rfl ?_
    refine g_goto (tgt := 27) X dX12_gives_14 (by decide) ?_
    refine g_istore_n (n := 28) (L' := [(3, gJ 0), (0, gA n0 190), (1, gJ a), (2, gJ b)]) X dX12_gives_27 rfl (by decide) rfl rfl ?_
    refine g_aload_n (n := 29) X 1 dX12_gives_28 rfl rfl rfl ?_
    refine gg_12_1 (n := 32) (z := 191) X (by decide) (gsz hsz (by decide)) lay_190 kw_6_27 dX12_gives_29 rfl (rf_190_1 I (gsz hsz (by decide))) (by decide) ?_
    refine g_sipush (n := 35) X dX12_gives_32 (by decide +kernel) rfl ?_
    refine g_iload_n (n := 36) X 2 dX12_gives_35 rfl rfl rfl ?_
    refine g_iadd (n := 37) (z := a + 256) X dX12_gives_36 (by omega) rfl ?_
    obtain ⟨v32, hv32, rv32⟩ := gRd I (by decide) (gsz hsz (by decide)) (rs_RKIND (k := a + 256) (by omega)).1
    refine g_iald2 (n := 38) (v := v32) X (by decide) (gsz hsz (by decide)) lay_191 (by omega) (by omega) (by decide) dX12_gives_37 rfl hv32 ?_
    refine g_istore (n := 40) (L' := [(4, gJ v32), (3, gJ 0), (0, gA n0 190), (1, gJ a), (2, gJ b)]) X dX12_gives_38 (by decide) rfl rfl ?_
    refine g_iload (n := 42) X 0 dX12_gives_40 rfl rfl ?_
    refine g_iconst (n := 43) X dX12_gives_42 rfl ?_
    refine g_icmp_ne (n := 46) (tgt := 101) X dX12_gives_43 (by decide) (by omega) (by omega) rfl (fun c33 => ?_) (fun c33 => ?_)
    · refine g_aload_n (n := 102) X 2 dX12_gives_101 rfl rfl rfl ?_
      refine g_iload (n := 104) X 0 dX12_gives_102 rfl rfl ?_
      refine g_iconst (n := 105) X dX12_gives_104 rfl ?_
      refine g_icmp_ne (n := 108) (tgt := 112) X dX12_gives_105 (by decide) (by omega) (by omega) rfl (fun c34 => ?_) (fun c34 => ?_)
      · refine g_iconst (n := 113) X dX12_gives_112 rfl ?_
        refine g_iload_n (n := 114) X 1 dX12_gives_113 rfl rfl rfl ?_
        refine g_callVi (n := 117) (As := [gJ 0, gJ 0]) (rest := []) (cs1 := 0) (ss1 := 0) X (s_X12_law 0 (by omega) 0 (by omega) hsz I C ) okX12_law kw_6_193 ⟨kw_6_195, kw_0_49⟩ ⟨rfl, rfl⟩ (by first | exact ⟨Nat.le_of_ble_eq_true rfl, Nat.le_of_ble_eq_true rfl⟩ | (refine ⟨?_, ?_⟩ <;> (simp only [RW, RG, R_X12_law, R_X12_counted, R_X12_counts]; omega))) rfl (by decide) (gsz hsz (by decide)) lay_190 rfl rfl (Nat.le_of_ble_eq_true rfl) ⟨Nat.le_of_ble_eq_true rfl, Nat.le_of_ble_eq_true rfl⟩ rfl rfl dX12_gives_114 rfl (fun v35 M36 P37 => ?_)
        obtain ⟨rfl, rv35⟩ := P37
        refine g_aload_n (n := 118) X 2 dX12_gives_117 rfl rfl rfl ?_
        refine g_iload_n (n := 119) X 3 dX12_gives_118 rfl rfl rfl ?_
        refine g_callVi (n := 122) (As := [gJ a]) (rest := [gJ v35]) (cs1 := 0) (ss1 := 0) X (s_X12_counted a (by omega) hsz I C ) okX12_counted kw_6_173 ⟨kw_6_175, kw_0_45⟩ ⟨rfl, rfl⟩ (by first | exact ⟨Nat.le_of_ble_eq_true rfl, Nat.le_of_ble_eq_true rfl⟩ | (refine ⟨?_, ?_⟩ <;> (simp only [RW, RG, R_X12_law, R_X12_counted, R_X12_counts]; omega))) rfl (by decide) (gsz hsz (by decide)) lay_190 rfl rfl (Nat.le_of_ble_eq_true rfl) ⟨Nat.le_of_ble_eq_true rfl, Nat.le_of_ble_eq_true rfl⟩ rfl rfl dX12_gives_119 rfl (fun v38 M39 P40 => ?_)
        obtain ⟨rfl, rv38, xv38⟩ := P40
        refine g_icmp_gt (n := 125) (tgt := 138) X dX12_gives_122 (by decide) (by omega) (by omega) rfl (fun c41 => ?_) (fun c41 => ?_)
        · refine g_iload_n (n := 139) X 4 dX12_gives_138 rfl rfl rfl ?_
          exact hq _ _ _ _ dX12_gives_139 ⟨rfl, by omega⟩
        · refine g_aload_n (n := 126) X 2 dX12_gives_125 rfl rfl rfl ?_
          refine gg_12_1 (n := 129) (z := 191) X (by decide) (gsz hsz (by decide)) lay_190 kw_6_27 dX12_gives_126 rfl (rf_190_1 I (gsz hsz (by decide))) (by decide) ?_
          refine g_sipush (n := 132) X dX12_gives_129 (by decide +kernel) rfl ?_
          refine g_iload_n (n := 133) X 3 dX12_gives_132 rfl rfl rfl ?_
          refine g_iadd (n := 134) (z := a + 336) X dX12_gives_133 (by omega) rfl ?_
          obtain ⟨v42, hv42, rv42⟩ := gRd I (by decide) (gsz hsz (by decide)) (rs_RTO (k := a + 336) (by omega)).1
          refine g_iald2 (n := 135) (v := v42) X (by decide) (gsz hsz (by decide)) lay_191 (by omega) (by omega) (by decide) dX12_gives_134 rfl hv42 ?_
          have hw2 := (W.2.1 a (by omega) (by omega)).1
          refine g_goto (tgt := 139) X dX12_gives_135 (by decide) ?_
          exact hq _ _ _ _ dX12_gives_139 ⟨rfl, by omega⟩
      · refine g_iconst (n := 109) X dX12_gives_108 rfl ?_
        refine g_goto (tgt := 113) X dX12_gives_109 (by decide) ?_
        refine g_iload_n (n := 114) X 1 dX12_gives_113 rfl rfl rfl ?_
        refine g_callVi (n := 117) (As := [gJ 1, gJ 0]) (rest := []) (cs1 := 0) (ss1 := 0) X (s_X12_law 1 (by omega) 0 (by omega) hsz I C ) okX12_law kw_6_193 ⟨kw_6_195, kw_0_49⟩ ⟨rfl, rfl⟩ (by first | exact ⟨Nat.le_of_ble_eq_true rfl, Nat.le_of_ble_eq_true rfl⟩ | (refine ⟨?_, ?_⟩ <;> (simp only [RW, RG, R_X12_law, R_X12_counted, R_X12_counts]; omega))) rfl (by decide) (gsz hsz (by decide)) lay_190 rfl rfl (Nat.le_of_ble_eq_true rfl) ⟨Nat.le_of_ble_eq_true rfl, Nat.le_of_ble_eq_true rfl⟩ rfl rfl dX12_gives_114 rfl (fun v43 M44 P45 => ?_)
        obtain ⟨rfl, rv43⟩ := P45
        refine g_aload_n (n := 118) X 2 dX12_gives_117 rfl rfl rfl ?_
        refine g_iload_n (n := 119) X 3 dX12_gives_118 rfl rfl rfl ?_
        refine g_callVi (n := 122) (As := [gJ a]) (rest := [gJ v43]) (cs1 := 0) (ss1 := 0) X (s_X12_counted a (by omega) hsz I C ) okX12_counted kw_6_173 ⟨kw_6_175, kw_0_45⟩ ⟨rfl, rfl⟩ (by first | exact ⟨Nat.le_of_ble_eq_true rfl, Nat.le_of_ble_eq_true rfl⟩ | (refine ⟨?_, ?_⟩ <;> (simp only [RW, RG, R_X12_law, R_X12_counted, R_X12_counts]; omega))) rfl (by decide) (gsz hsz (by decide)) lay_190 rfl rfl (Nat.le_of_ble_eq_true rfl) ⟨Nat.le_of_ble_eq_true rfl, Nat.le_of_ble_eq_true rfl⟩ rfl rfl dX12_gives_119 rfl (fun v46 M47 P48 => ?_)
        obtain ⟨rfl, rv46, xv46⟩ := P48
        refine g_icmp_gt (n := 125) (tgt := 138) X dX12_gives_122 (by decide) (by omega) (by omega) rfl (fun c49 => ?_) (fun c49 => ?_)
        · refine g_iload_n (n := 139) X 4 dX12_gives_138 rfl rfl rfl ?_
          exact hq _ _ _ _ dX12_gives_139 ⟨rfl, by omega⟩
        · refine g_aload_n (n := 126) X 2 dX12_gives_125 rfl rfl rfl ?_
          refine gg_12_1 (n := 129) (z := 191) X (by decide) (gsz hsz (by decide)) lay_190 kw_6_27 dX12_gives_126 rfl (rf_190_1 I (gsz hsz (by decide))) (by decide) ?_
          refine g_sipush (n := 132) X dX12_gives_129 (by decide +kernel) rfl ?_
          refine g_iload_n (n := 133) X 3 dX12_gives_132 rfl rfl rfl ?_
          refine g_iadd (n := 134) (z := a + 336) X dX12_gives_133 (by omega) rfl ?_
          obtain ⟨v50, hv50, rv50⟩ := gRd I (by decide) (gsz hsz (by decide)) (rs_RTO (k := a + 336) (by omega)).1
          refine g_iald2 (n := 135) (v := v50) X (by decide) (gsz hsz (by decide)) lay_191 (by omega) (by omega) (by decide) dX12_gives_134 rfl hv50 ?_
          have hw2 := (W.2.1 a (by omega) (by omega)).1
          refine g_goto (tgt := 139) X dX12_gives_135 (by decide) ?_
          exact hq _ _ _ _ dX12_gives_139 ⟨rfl, by omega⟩
    · refine g_aload_n (n := 47) X 2 dX12_gives_46 rfl rfl rfl ?_
      refine g_iconst (n := 48) X dX12_gives_47 rfl ?_
      refine g_iload_n (n := 49) X 1 dX12_gives_48 rfl rfl rfl ?_
      refine g_callVi (n := 52) (As := [gJ 5, gJ 0]) (rest := []) (cs1 := 0) (ss1 := 0) X (s_X12_law 5 (by omega) 0 (by omega) hsz I C ) okX12_law kw_6_193 ⟨kw_6_195, kw_0_49⟩ ⟨rfl, rfl⟩ (by first | exact ⟨Nat.le_of_ble_eq_true rfl, Nat.le_of_ble_eq_true rfl⟩ | (refine ⟨?_, ?_⟩ <;> (simp only [RW, RG, R_X12_law, R_X12_counted, R_X12_counts]; omega))) rfl (by decide) (gsz hsz (by decide)) lay_190 rfl rfl (Nat.le_of_ble_eq_true rfl) ⟨Nat.le_of_ble_eq_true rfl, Nat.le_of_ble_eq_true rfl⟩ rfl rfl dX12_gives_49 rfl (fun v51 M52 P53 => ?_)
      obtain ⟨rfl, rv51⟩ := P53
      refine g_iconst (n := 53) X dX12_gives_52 rfl ?_
      refine g_icmp_ne (n := 56) (tgt := 83) X dX12_gives_53 (by decide) (by omega) (by omega) rfl (fun c54 => ?_) (fun c54 => ?_)
      · refine g_bipush (n := 85) X dX12_gives_83 (by decide +kernel) rfl ?_
        refine g_istore (n := 87) (L' := [(5, gJ (-5)), (4, gJ v32), (3, gJ 0), (0, gA n0 190), (1, gJ a), (2, gJ b)]) X dX12_gives_85 (by decide) rfl rfl ?_
        refine g_iload (n := 89) X 0 dX12_gives_87 rfl rfl ?_
        refine g_bipush (n := 91) X dX12_gives_89 (by decide +kernel) rfl ?_
        refine g_icmp_ne (n := 94) (tgt := 98) X dX12_gives_91 (by decide) (by omega) (by omega) rfl (fun c55 => by exfalso; omega) (fun c55 => ?_)
        refine g_iload_n (n := 95) X 5 dX12_gives_94 rfl rfl rfl ?_
        refine g_goto (tgt := 100) X dX12_gives_95 (by decide) ?_
        exact hq _ _ _ _ dX12_gives_100 ⟨rfl, by omega⟩
      · refine g_aload_n (n := 57) X 2 dX12_gives_56 rfl rfl rfl ?_
        refine g_aload_n (n := 58) X 2 dX12_gives_57 rfl rfl rfl ?_
        refine gg_12_1 (n := 61) (z := 191) X (by decide) (gsz hsz (by decide)) lay_190 kw_6_27 dX12_gives_58 rfl (rf_190_1 I (gsz hsz (by decide))) (by decide) ?_
        refine g_sipush (n := 64) X dX12_gives_61 (by decide +kernel) rfl ?_
        refine g_iload_n (n := 65) X 3 dX12_gives_64 rfl rfl rfl ?_
        refine g_iadd (n := 66) (z := a + 336) X dX12_gives_65 (by omega) rfl ?_
        obtain ⟨v56, hv56, rv56⟩ := gRd I (by decide) (gsz hsz (by decide)) (rs_RTO (k := a + 336) (by omega)).1
        refine g_iald2 (n := 67) (v := v56) X (by decide) (gsz hsz (by decide)) lay_191 (by omega) (by omega) (by decide) dX12_gives_66 rfl hv56 ?_
        refine g_aload_n (n := 68) X 2 dX12_gives_67 rfl rfl rfl ?_
        refine gg_12_1 (n := 71) (z := 191) X (by decide) (gsz hsz (by decide)) lay_190 kw_6_27 dX12_gives_68 rfl (rf_190_1 I (gsz hsz (by decide))) (by decide) ?_
        refine g_sipush (n := 74) X dX12_gives_71 (by decide +kernel) rfl ?_
        refine g_iload_n (n := 75) X 3 dX12_gives_74 rfl rfl rfl ?_
        refine g_iadd (n := 76) (z := a + 416) X dX12_gives_75 (by omega) rfl ?_
        refine g_iald2 (n := 77) (v := v1) X (by decide) (gsz hsz (by decide)) lay_191 (by omega) (by omega) (by decide) dX12_gives_76 rfl hv1 ?_
        refine g_callVi (n := 80) (As := [gJ v56, gJ v1]) (rest := []) (cs1 := 0) (ss1 := 0) X (hwh v56 v1 (by omega) (by have hw := (W.2.1 a (by omega) (by omega)).2 (hv32.trans (by omega)); rw [hv56] at hw; exact hw.1) (by omega) (by have hw := (W.2.1 a (by omega) (by omega)).2 (hv32.trans (by omega)); rw [hv56] at hw; have hd2 := hd (hv32.trans (by omega)); omega)) okX12_whose kw_6_189 ⟨kw_6_191, kw_0_48⟩ ⟨rfl, rfl⟩ (by first | exact ⟨Nat.le_of_ble_eq_true rfl, Nat.le_of_ble_eq_true rfl⟩ | (refine ⟨?_, ?_⟩ <;> (simp only [RW, RG, R_X12_law, R_X12_counted, R_X12_counts]; omega))) rfl (by decide) (gsz hsz (by decide)) lay_190 rfl rfl (Nat.le_of_ble_eq_true rfl) ⟨Nat.le_of_ble_eq_true rfl, Nat.le_of_ble_eq_true rfl⟩ rfl rfl dX12_gives_77 rfl (fun v57 M58 P59 => ?_)
        obtain ⟨rfl, rv57, xv57⟩ := P59
        refine g_goto (tgt := 85) X dX12_gives_80 (by decide) ?_
        refine g_istore (n := 87) (L' := [(5, gJ v57), (4, gJ v32), (3, gJ 0), (0, gA n0 190), (1, gJ a), (2, gJ b)]) X dX12_gives_85 (by decide) rfl rfl ?_
        refine g_iload (n := 89) X 0 dX12_gives_87 rfl rfl ?_
        refine g_bipush (n := 91) X dX12_gives_89 (by decide +kernel) rfl ?_
        refine g_icmp_ne (n := 94) (tgt := 98) X dX12_gives_91 (by decide) (by omega) (by omega) rfl (fun c60 => ?_) (fun c60 => ?_)
        · refine g_iload (n := 100) X 0 dX12_gives_98 rfl rfl ?_
          exact hq _ _ _ _ dX12_gives_100 ⟨rfl, by omega⟩
        · refine g_iload_n (n := 95) X 5 dX12_gives_94 rfl rfl rfl ?_
          refine g_goto (tgt := 100) X dX12_gives_95 (by decide) ?_
          exact hq _ _ _ _ dX12_gives_100 ⟨rfl, by omega⟩
theorem dX12_whose_0 : decode cX12_whose 0 = .ok (.iload_n 2, 1) := dc_28 (by decide +kernel)
theorem dX12_whose_1 : decode cX12_whose 1 = .ok (.aload_n 0, 1) := dc_42 (by decide +kernel)
theorem dX12_whose_2 : decode cX12_whose 2 = .ok (.getfield 7, 3) := dc_180 0 7 (by decide +kernel)
theorem dX12_whose_5 : decode cX12_whose 5 = .ok (.bipush 96, 2) := dc_16 96 96 (by decide +kernel)
theorem dX12_whose_7 : decode cX12_whose 7 = .ok (.iload_n 1, 1) := dc_27 (by decide +kernel)
theorem dX12_whose_8 : decode cX12_whose 8 = .ok (.iadd, 1) := dc_96 (by decide +kernel)
theorem dX12_whose_9 : decode cX12_whose 9 = .ok (.iaload, 1) := dc_46 (by decide +kernel)
theorem dX12_whose_10 : decode cX12_whose 10 = .ok (.if_icmp .ge 6, 3) := dc_162 0 6 6 (by decide +kernel)
theorem dX12_whose_16 : decode cX12_whose 16 = .ok (.aload_n 0, 1) := dc_42 (by decide +kernel)
theorem dX12_whose_17 : decode cX12_whose 17 = .ok (.getfield 7, 3) := dc_180 0 7 (by decide +kernel)
theorem dX12_whose_20 : decode cX12_whose 20 = .ok (.bipush 112, 2) := dc_16 112 112 (by decide +kernel)
theorem dX12_whose_22 : decode cX12_whose 22 = .ok (.iload_n 1, 1) := dc_27 (by decide +kernel)
theorem dX12_whose_23 : decode cX12_whose 23 = .ok (.iadd, 1) := dc_96 (by decide +kernel)
theorem dX12_whose_24 : decode cX12_whose 24 = .ok (.iaload, 1) := dc_46 (by decide +kernel)
theorem dX12_whose_25 : decode cX12_whose 25 = .ok (.istore_n 3, 1) := dc_62 (by decide +kernel)
theorem dX12_whose_26 : decode cX12_whose 26 = .ok (.aload_n 0, 1) := dc_42 (by decide +kernel)
theorem dX12_whose_27 : decode cX12_whose 27 = .ok (.bipush 6, 2) := dc_16 6 6 (by decide +kernel)
theorem dX12_whose_29 : decode cX12_whose 29 = .ok (.iconst 0, 1) := dc_3 (by decide +kernel)
theorem dX12_whose_30 : decode cX12_whose 30 = .ok (.invokevirtual 101, 3) := dc_182 0 101 (by decide +kernel)
theorem dX12_whose_33 : decode cX12_whose 33 = .ok (.iconst 1, 1) := dc_4 (by decide +kernel)
theorem dX12_whose_34 : decode cX12_whose 34 = .ok (.if_icmp .ne 56, 3) := dc_160 0 56 56 (by decide +kernel)
theorem dX12_whose_37 : decode cX12_whose 37 = .ok (.aload_n 0, 1) := dc_42 (by decide +kernel)
theorem dX12_whose_38 : decode cX12_whose 38 = .ok (.getfield 7, 3) := dc_180 0 7 (by decide +kernel)
theorem dX12_whose_41 : decode cX12_whose 41 = .ok (.sipush 128, 3) := dc_17 0 128 128 (by decide +kernel)
theorem dX12_whose_44 : decode cX12_whose 44 = .ok (.iload_n 1, 1) := dc_27 (by decide +kernel)
theorem dX12_whose_45 : decode cX12_whose 45 = .ok (.iadd, 1) := dc_96 (by decide +kernel)
theorem dX12_whose_46 : decode cX12_whose 46 = .ok (.iaload, 1) := dc_46 (by decide +kernel)
theorem dX12_whose_47 : decode cX12_whose 47 = .ok (.iconst (-1), 1) := dc_2 (by decide +kernel)
theorem dX12_whose_48 : decode cX12_whose 48 = .ok (.if_icmp .eq 42, 3) := dc_159 0 42 42 (by decide +kernel)
theorem dX12_whose_51 : decode cX12_whose 51 = .ok (.aload_n 0, 1) := dc_42 (by decide +kernel)
theorem dX12_whose_52 : decode cX12_whose 52 = .ok (.aload_n 0, 1) := dc_42 (by decide +kernel)
theorem dX12_whose_53 : decode cX12_whose 53 = .ok (.getfield 7, 3) := dc_180 0 7 (by decide +kernel)
theorem dX12_whose_56 : decode cX12_whose 56 = .ok (.sipush 128, 3) := dc_17 0 128 128 (by decide +kernel)
theorem dX12_whose_59 : decode cX12_whose 59 = .ok (.iload_n 1, 1) := dc_27 (by decide +kernel)
theorem dX12_whose_60 : decode cX12_whose 60 = .ok (.iadd, 1) := dc_96 (by decide +kernel)
theorem dX12_whose_61 : decode cX12_whose 61 = .ok (.iaload, 1) := dc_46 (by decide +kernel)
theorem dX12_whose_62 : decode cX12_whose 62 = .ok (.aload_n 0, 1) := dc_42 (by decide +kernel)
theorem dX12_whose_63 : decode cX12_whose 63 = .ok (.getfield 7, 3) := dc_180 0 7 (by decide +kernel)
theorem dX12_whose_66 : decode cX12_whose 66 = .ok (.bipush 96, 2) := dc_16 96 96 (by decide +kernel)
theorem dX12_whose_68 : decode cX12_whose 68 = .ok (.iload_n 1, 1) := dc_27 (by decide +kernel)
theorem dX12_whose_69 : decode cX12_whose 69 = .ok (.iadd, 1) := dc_96 (by decide +kernel)
theorem dX12_whose_70 : decode cX12_whose 70 = .ok (.iaload, 1) := dc_46 (by decide +kernel)
theorem dX12_whose_71 : decode cX12_whose 71 = .ok (.invokevirtual 104, 3) := dc_182 0 104 (by decide +kernel)
theorem dX12_whose_74 : decode cX12_whose 74 = .ok (.istore 4, 2) := dc_54 4 (by decide +kernel)
theorem dX12_whose_76 : decode cX12_whose 76 = .ok (.iload 4, 2) := dc_21 4 (by decide +kernel)
theorem dX12_whose_78 : decode cX12_whose 78 = .ok (.bipush (-5), 2) := dc_16 251 (-5) (by decide +kernel)
theorem dX12_whose_80 : decode cX12_whose 80 = .ok (.if_icmp .ne 7, 3) := dc_160 0 7 7 (by decide +kernel)
theorem dX12_whose_87 : decode cX12_whose 87 = .ok (.iload 4, 2) := dc_21 4 (by decide +kernel)
theorem dX12_whose_89 : decode cX12_whose 89 = .ok (.istore_n 3, 1) := dc_62 (by decide +kernel)
theorem dX12_whose_83 : decode cX12_whose 83 = .ok (.iload_n 3, 1) := dc_29 (by decide +kernel)
theorem dX12_whose_84 : decode cX12_whose 84 = .ok (.goto 5, 3) := dc_167 0 5 5 (by decide +kernel)
theorem dX12_whose_90 : decode cX12_whose 90 = .ok (.iconst 0, 1) := dc_3 (by decide +kernel)
theorem dX12_whose_91 : decode cX12_whose 91 = .ok (.istore 4, 2) := dc_54 4 (by decide +kernel)
theorem dX12_whose_93 : decode cX12_whose 93 = .ok (.iload 4, 2) := dc_21 4 (by decide +kernel)
theorem dX12_whose_95 : decode cX12_whose 95 = .ok (.aload_n 0, 1) := dc_42 (by decide +kernel)
theorem dX12_whose_96 : decode cX12_whose 96 = .ok (.getfield 90, 3) := dc_180 0 90 (by decide +kernel)
theorem dX12_whose_99 : decode cX12_whose 99 = .ok (.if_icmp .ge 65, 3) := dc_162 0 65 65 (by decide +kernel)
theorem dX12_whose_164 : decode cX12_whose 164 = .ok (.iload_n 3, 1) := dc_29 (by decide +kernel)
theorem dX12_whose_165 : decode cX12_whose 165 = .ok (.ireturn, 1) := dc_172 (by decide +kernel)
theorem dX12_whose_102 : decode cX12_whose 102 = .ok (.aload_n 0, 1) := dc_42 (by decide +kernel)
theorem dX12_whose_103 : decode cX12_whose 103 = .ok (.getfield 25, 3) := dc_180 0 25 (by decide +kernel)
theorem dX12_whose_106 : decode cX12_whose 106 = .ok (.iload 4, 2) := dc_21 4 (by decide +kernel)
theorem dX12_whose_108 : decode cX12_whose 108 = .ok (.iaload, 1) := dc_46 (by decide +kernel)
theorem dX12_whose_109 : decode cX12_whose 109 = .ok (.istore 5, 2) := dc_54 5 (by decide +kernel)
theorem dX12_whose_111 : decode cX12_whose 111 = .ok (.aload_n 0, 1) := dc_42 (by decide +kernel)
theorem dX12_whose_112 : decode cX12_whose 112 = .ok (.getfield 7, 3) := dc_180 0 7 (by decide +kernel)
theorem dX12_whose_115 : decode cX12_whose 115 = .ok (.sipush 296, 3) := dc_17 1 40 296 (by decide +kernel)
theorem dX12_whose_118 : decode cX12_whose 118 = .ok (.iload 5, 2) := dc_21 5 (by decide +kernel)
theorem dX12_whose_120 : decode cX12_whose 120 = .ok (.iadd, 1) := dc_96 (by decide +kernel)
theorem dX12_whose_121 : decode cX12_whose 121 = .ok (.iaload, 1) := dc_46 (by decide +kernel)
theorem dX12_whose_122 : decode cX12_whose 122 = .ok (.iload_n 1, 1) := dc_27 (by decide +kernel)
theorem dX12_whose_123 : decode cX12_whose 123 = .ok (.if_icmp .ne 35, 3) := dc_160 0 35 35 (by decide +kernel)
theorem dX12_whose_158 : decode cX12_whose 158 = .ok (.iinc 4 1, 3) := dc_132 4 1 1 (by decide +kernel)
theorem dX12_whose_161 : decode cX12_whose 161 = .ok (.goto (-68), 3) := dc_167 255 188 (-68) (by decide +kernel)
theorem dX12_whose_126 : decode cX12_whose 126 = .ok (.aload_n 0, 1) := dc_42 (by decide +kernel)
theorem dX12_whose_127 : decode cX12_whose 127 = .ok (.getfield 7, 3) := dc_180 0 7 (by decide +kernel)
theorem dX12_whose_130 : decode cX12_whose 130 = .ok (.sipush 416, 3) := dc_17 1 160 416 (by decide +kernel)
theorem dX12_whose_133 : decode cX12_whose 133 = .ok (.iload 5, 2) := dc_21 5 (by decide +kernel)
theorem dX12_whose_135 : decode cX12_whose 135 = .ok (.iadd, 1) := dc_96 (by decide +kernel)
theorem dX12_whose_136 : decode cX12_whose 136 = .ok (.iaload, 1) := dc_46 (by decide +kernel)
theorem dX12_whose_137 : decode cX12_whose 137 = .ok (.iload_n 2, 1) := dc_28 (by decide +kernel)
theorem dX12_whose_138 : decode cX12_whose 138 = .ok (.if_icmp .gt 20, 3) := dc_163 0 20 20 (by decide +kernel)
theorem dX12_whose_141 : decode cX12_whose 141 = .ok (.aload_n 0, 1) := dc_42 (by decide +kernel)
theorem dX12_whose_142 : decode cX12_whose 142 = .ok (.iload 5, 2) := dc_21 5 (by decide +kernel)
theorem dX12_whose_144 : decode cX12_whose 144 = .ok (.invokevirtual 107, 3) := dc_182 0 107 (by decide +kernel)
theorem kw_6_208 : (Jvm.Cond.methodLink "ParishUnionModel" (107 : Nat) ({ cls := "ParishUnionModel", name := "counts", desc := "(I)Z" } : Jvm.MethodName)) ∈ gT := gT_of (tb_6 _ (List.mem_of_getElem? (i := 208) rfl)) rfl
theorem kw_6_211 : (Jvm.Cond.code ({ cls := "ParishUnionModel", name := "counts", desc := "(I)Z" } : Jvm.MethodName) prog_14_method_26_code (2 : Nat) (Option.some Jvm.ClassFile.FieldType.boolean)) ∈ gT := gT_of (tb_6 _ (List.mem_of_getElem? (i := 211) rfl)) rfl
theorem okX12_counts : gQok yX12_counts cX12_counts 2 (Option.some Jvm.ClassFile.FieldType.boolean) 1 := ⟨kw_6_211, kw_1_13, by decide +kernel, by decide +kernel, by decide +kernel⟩
theorem kw_6_210 : (Jvm.Cond.instanceMethod ({ cls := "ParishUnionModel", name := "counts", desc := "(I)Z" } : Jvm.MethodName)) ∈ gT := gT_of (tb_6 _ (List.mem_of_getElem? (i := 210) rfl)) rfl
theorem kw_0_52 : (Jvm.Cond.selects "ParishUnionModel" ({ cls := "ParishUnionModel", name := "counts", desc := "(I)Z" } : Jvm.MethodName) ({ cls := "ParishUnionModel", name := "counts", desc := "(I)Z" } : Jvm.MethodName)) ∈ gT := gT_of (tb_0 _ (List.mem_of_getElem? (i := 52) rfl)) rfl
theorem dX12_whose_147 : decode cX12_whose 147 = .ok (.ifCond .eq 11, 3) := dc_153 0 11 11 (by decide +kernel)
theorem dX12_whose_150 : decode cX12_whose 150 = .ok (.aload_n 0, 1) := dc_42 (by decide +kernel)
theorem dX12_whose_151 : decode cX12_whose 151 = .ok (.iload 5, 2) := dc_21 5 (by decide +kernel)
theorem dX12_whose_153 : decode cX12_whose 153 = .ok (.iload_n 3, 1) := dc_29 (by decide +kernel)
theorem dX12_whose_154 : decode cX12_whose 154 = .ok (.invokevirtual 110, 3) := dc_182 0 110 (by decide +kernel)
theorem kw_6_212 : (Jvm.Cond.methodLink "ParishUnionModel" (110 : Nat) ({ cls := "ParishUnionModel", name := "gives", desc := "(II)I" } : Jvm.MethodName)) ∈ gT := gT_of (tb_6 _ (List.mem_of_getElem? (i := 212) rfl)) rfl
theorem kw_6_215 : (Jvm.Cond.code ({ cls := "ParishUnionModel", name := "gives", desc := "(II)I" } : Jvm.MethodName) prog_14_method_28_code (6 : Nat) (Option.some Jvm.ClassFile.FieldType.int)) ∈ gT := gT_of (tb_6 _ (List.mem_of_getElem? (i := 215) rfl)) rfl
theorem okX12_gives : gQok yX12_gives cX12_gives 6 (Option.some Jvm.ClassFile.FieldType.int) 2 := ⟨kw_6_215, kw_1_13, by decide +kernel, by decide +kernel, by decide +kernel⟩
theorem kw_6_214 : (Jvm.Cond.instanceMethod ({ cls := "ParishUnionModel", name := "gives", desc := "(II)I" } : Jvm.MethodName)) ∈ gT := gT_of (tb_6 _ (List.mem_of_getElem? (i := 214) rfl)) rfl
theorem kw_0_53 : (Jvm.Cond.selects "ParishUnionModel" ({ cls := "ParishUnionModel", name := "gives", desc := "(II)I" } : Jvm.MethodName) ({ cls := "ParishUnionModel", name := "gives", desc := "(II)I" } : Jvm.MethodName)) ∈ gT := gT_of (tb_0 _ (List.mem_of_getElem? (i := 53) rfl)) rfl
theorem dX12_whose_157 : decode cX12_whose 157 = .ok (.istore_n 3, 1) := dc_62 (by decide +kernel)
theorem dX12_whose_13 : decode cX12_whose 13 = .ok (.bipush (-5), 2) := dc_16 251 (-5) (by decide +kernel)
theorem dX12_whose_15 : decode cX12_whose 15 = .ok (.ireturn, 1) := dc_172 (by decide +kernel)
set_option maxRecDepth 100000 in
set_option maxHeartbeats 4000000 in
theorem s_X12_whoseR {l : Launch} {n0 : Nat} {D : va_G} {cA : Nat → ClassId} {M : gM} (a : Int) (r_a : 0 ≤ a ∧ a ≤ 15) (b : Int) (r_b : -3000 ≤ b ∧ b ≤ 300) {sz : Nat} (hsz : 206 ≤ sz) (I : gI sz M) (C : gC sz M) (W : gW 191 M) (hp : a < M 191 1) (d : Nat) (hd : a + 17 * M 191 (a + 80) < (d : Int) + 1) (hwh : (∀ (p w : Int), 0 ≤ p → p < M 191 1 → -3000 ≤ w ∧ w ≤ 300 → p + 17 * M 191 (p + 80) < (d : Int) → Met l yX12_whose (gWsOf yX12_whose cX12_whose 6 (Option.some Jvm.ClassFile.FieldType.int)) (RW d) (gPc n0 D cA [gA n0 190, gJ p, gJ w] M sz) (gQi n0 D cA sz (fun z M1 => M = M1 ∧ (-5 ≤ z ∧ z ≤ 5) ∧ (z = -5 ∨ 0 ≤ z))) 0 0 (fun q => n0 ≤ q))) (hgv : (∀ (r a : Int), 0 ≤ r ∧ r ≤ 39 → 0 ≤ a ∧ a ≤ 5 → (M 191 (r + 256) = 3 → 16 ≤ (d : Int)) → Met l yX12_gives (gWsOf yX12_gives cX12_gives 6 (Option.some Jvm.ClassFile.FieldType.int)) (RG d) (gPc n0 D cA [gA n0 190, gJ r, gJ a] M sz) (gQi n0 D cA sz (fun z M1 => M = M1 ∧ (0 ≤ z ∧ z ≤ 5))) 0 0 (fun q => n0 ≤ q))) : Met l yX12_whose (gWsOf yX12_whose cX12_whose 6 (Option.some Jvm.ClassFile.FieldType.int)) (RW (d + 1)) (gPc n0 D cA [gA n0 190, gJ a, gJ b] M sz) (gQi n0 D cA sz (fun z M1 => M = M1 ∧ (-5 ≤ z ∧ z ≤ 5) ∧ (z = -5 ∨ 0 ≤ z))) 0 0 (fun q => n0 ≤ q) := by
  refine gMetI [gA n0 190, gJ a, gJ b] (by decide) (Nat.le_of_ble_eq_true rfl) ⟨rfl, rfl⟩ ?_
  intro p e s m args below meth cd Q X hq
  have X : gCx p s m args meth cd n0 D cA "ParishUnionModel" cX12_whose 6 := X
  show G p l e (RW (d + 1)) s m args below meth cd n0 D cA 6 Q 0 0 M sz 0 [(0, gA n0 190), (1, gJ a), (2, gJ b)] []
  obtain ⟨v1, hv1, rv1⟩ := gRd I (by decide) (gsz hsz (by decide)) (rs_SEX (k := a + 80) (by omega)).1
  refine g_iload_n (n := 1) X 2 dX12_whose_0 rfl rfl rfl ?_
  refine g_aload_n (n := 2) X 0 dX12_whose_1 rfl rfl rfl ?_
  refine gg_12_1 (n := 5) (z := 191) X (by decide) (gsz hsz (by decide)) lay_190 kw_6_27 dX12_whose_2 rfl (rf_190_1 I (gsz hsz (by decide))) (by decide) ?_
  refine g_bipush (n := 7) X dX12_whose_5 (by decide +kernel) rfl ?_
  refine g_iload_n (n := 8) X 1 dX12_whose_7 rfl rfl rfl ?_
  refine g_iadd (n := 9) (z := a + 96) X dX12_whose_8 (by omega) rfl ?_
  obtain ⟨v2, hv2, rv2⟩ := gRd I (by decide) (gsz hsz (by decide)) (rs_BORN (k := a + 96) (by omega)).1
  refine g_iald2 (n := 10) (v := v2) X (by decide) (gsz hsz (by decide)) lay_191 (by omega) (by omega) (by decide) dX12_whose_9 rfl hv2 ?_
  refine g_icmp_ge (n := 13) (tgt := 16) X dX12_whose_10 (by decide) (by omega) (by omega) rfl (fun c3 => ?_) (fun c3 => ?_)
  · refine g_aload_n (n := 17) X 0 dX12_whose_16 rfl rfl rfl ?_
    refine gg_12_1 (n := 20) (z := 191) X (by decide) (gsz hsz (by decide)) lay_190 kw_6_27 dX12_whose_17 rfl (rf_190_1 I (gsz hsz (by decide))) (by decide) ?_
    refine g_bipush (n := 22) X dX12_whose_20 (by decide +kernel) rfl ?_
    refine g_iload_n (n := 23) X 1 dX12_whose_22 rfl rfl rfl ?_
    refine g_iadd (n := 24) (z := a + 112) X dX12_whose_23 (by omega) rfl ?_
    obtain ⟨v4, hv4, rv4⟩ := gRd I (by decide) (gsz hsz (by decide)) (rs_HOME (k := a + 112) (by omega)).1
    refine g_iald2 (n := 25) (v := v4) X (by decide) (gsz hsz (by decide)) lay_191 (by omega) (by omega) (by decide) dX12_whose_24 rfl hv4 ?_
    refine g_istore_n (n := 26) (L' := [(3, gJ v4), (0, gA n0 190), (1, gJ a), (2, gJ b)]) X dX12_whose_25 rfl (by decide) rfl rfl ?_
    refine g_aload_n (n := 27) X 1 dX12_whose_26 rfl rfl rfl ?_
    refine g_bipush (n := 29) X dX12_whose_27 (by decide +kernel) rfl ?_
    refine g_iconst (n := 30) X dX12_whose_29 rfl ?_
    refine g_callVi (n := 33) (As := [gJ 6, gJ 0]) (rest := []) (cs1 := 0) (ss1 := 0) X (s_X12_law 6 (by omega) 0 (by omega) hsz I C ) okX12_law kw_6_193 ⟨kw_6_195, kw_0_49⟩ ⟨rfl, rfl⟩ (by first | exact ⟨Nat.le_of_ble_eq_true rfl, Nat.le_of_ble_eq_true rfl⟩ | (refine ⟨?_, ?_⟩ <;> (simp only [RW, RG, R_X12_law, R_X12_counted, R_X12_counts]; omega))) rfl (by decide) (gsz hsz (by decide)) lay_190 rfl rfl (Nat.le_of_ble_eq_true rfl) ⟨Nat.le_of_ble_eq_true rfl, Nat.le_of_ble_eq_true rfl⟩ rfl rfl dX12_whose_30 rfl (fun v5 M6 P7 => ?_)
    obtain ⟨rfl, rv5⟩ := P7
    refine g_iconst (n := 34) X dX12_whose_33 rfl ?_
    have j15 : ∀ (v16 : Int) , (0 ≤ v16 ∧ v16 ≤ 5) → G p l e (RW (d + 1)) s m args below meth cd n0 D cA 6 Q 0 0 M sz 90 [(0, gA n0 190), (1, gJ a), (2, gJ b), (3, gJ v16)] [] := by
      intro v16 rv16
      refine g_iconst (n := 91) X dX12_whose_90 rfl ?_
      refine g_istore (n := 93) (L' := [(4, gJ 0), (0, gA n0 190), (1, gJ a), (2, gJ b), (3, gJ v16)]) X dX12_whose_91 (by decide) rfl rfl ?_
      have j20 : ∀ (N161 : Nat) (v17 v18 : Int) , (0 ≤ v17 ∧ v17 ≤ 5) → (0 ≤ v18 ∧ v18 ≤ 40) → (40 - v18).toNat < N161 → G p l e (RW (d + 1)) s m args below meth cd n0 D cA 6 Q 0 0 M sz 93 [(0, gA n0 190), (1, gJ a), (2, gJ b), (3, gJ v17), (4, gJ v18)] [] := by
        intro N161; induction N161 with
        | zero => intro v17 v18 rv17 rv18 hm163; exfalso; omega
        | succ N161 ih162 =>
          intro v17 v18 rv17 rv18 hm163
          refine g_iload (n := 95) X 4 dX12_whose_93 rfl rfl ?_
          refine g_aload_n (n := 96) X 0 dX12_whose_95 rfl rfl rfl ?_
          obtain ⟨v164, hv164, rv164⟩ := gRd I (by decide) (gsz hsz (by decide)) rc_190_8.1
          refine gg_12_8 (n := 99) (z := v164) X (by decide) (gsz hsz (by decide)) lay_190 kw_6_34 dX12_whose_96 rfl hv164 ?_
          refine g_icmp_ge (n := 102) (tgt := 164) X dX12_whose_99 (by decide) (by omega) (by omega) rfl (fun c165 => ?_) (fun c165 => ?_)
          · refine g_iload_n (n := 165) X 3 dX12_whose_164 rfl rfl rfl ?_
            exact hq _ _ _ _ dX12_whose_165 ⟨rfl, by omega, by omega⟩
          · refine g_aload_n (n := 103) X 0 dX12_whose_102 rfl rfl rfl ?_
            refine gg_12_7 (n := 106) (z := 196) X (by decide) (gsz hsz (by decide)) lay_190 kw_6_33 dX12_whose_103 rfl (rf_190_7 I (gsz hsz (by decide))) (by decide) ?_
            refine g_iload (n := 108) X 4 dX12_whose_106 rfl rfl ?_
            obtain ⟨v166, hv166, rv166⟩ := gRd I (by decide) (gsz hsz (by decide)) (ra_196 v18).1
            refine g_iald2 (n := 109) (v := v166) X (by decide) (gsz hsz (by decide)) lay_196 (by omega) (by omega) (by decide) dX12_whose_108 rfl hv166 ?_
            refine g_istore (n := 111) (L' := [(5, gJ v166), (0, gA n0 190), (1, gJ a), (2, gJ b), (3, gJ v17), (4, gJ v18)]) X dX12_whose_109 (by decide) rfl rfl ?_
            refine g_aload_n (n := 112) X 1 dX12_whose_111 rfl rfl rfl ?_
            refine gg_12_1 (n := 115) (z := 191) X (by decide) (gsz hsz (by decide)) lay_190 kw_6_27 dX12_whose_112 rfl (rf_190_1 I (gsz hsz (by decide))) (by decide) ?_
            refine g_sipush (n := 118) X dX12_whose_115 (by decide +kernel) rfl ?_
            refine g_iload (n := 120) X 0 dX12_whose_118 rfl rfl ?_
            refine g_iadd (n := 121) (z := v166 + 296) X dX12_whose_120 (by omega) rfl ?_
            obtain ⟨v167, hv167, rv167⟩ := gRd I (by decide) (gsz hsz (by decide)) (rs_RWHO (k := v166 + 296) (by omega)).1
            refine g_iald2 (n := 122) (v := v167) X (by decide) (gsz hsz (by decide)) lay_191 (by omega) (by omega) (by decide) dX12_whose_121 rfl hv167 ?_
            refine g_iload_n (n := 123) X 2 dX12_whose_122 rfl rfl rfl ?_
            refine g_icmp_ne (n := 126) (tgt := 158) X dX12_whose_123 (by decide) (by omega) (by omega) rfl (fun c168 => ?_) (fun c168 => ?_)
            · refine g_iinc (n := 161) (w := v18 + 1) (L' := [(4, gJ (v18 + 1)), (5, gJ v166), (0, gA n0 190), (1, gJ a), (2, gJ b), (3, gJ v17)]) X 5 dX12_whose_158 rfl rfl (by decide) rfl rfl ?_
              refine g_goto (tgt := 93) X dX12_whose_161 (by decide) ?_
              refine G.sub (L' := [(0, gA n0 190), (1, gJ a), (2, gJ b), (3, gJ v17), (4, gJ (v18 + 1))]) [2, 3, 4, 5, 0] rfl ?_
              exact ih162 v17 (v18 + 1) (by omega) (by omega) (by omega)
            · refine g_aload_n (n := 127) X 1 dX12_whose_126 rfl rfl rfl ?_
              refine gg_12_1 (n := 130) (z := 191) X (by decide) (gsz hsz (by decide)) lay_190 kw_6_27 dX12_whose_127 rfl (rf_190_1 I (gsz hsz (by decide))) (by decide) ?_
              refine g_sipush (n := 133) X dX12_whose_130 (by decide +kernel) rfl ?_
              refine g_iload (n := 135) X 0 dX12_whose_133 rfl rfl ?_
              refine g_iadd (n := 136) (z := v166 + 416) X dX12_whose_135 (by omega) rfl ?_
              obtain ⟨v169, hv169, rv169⟩ := gRd I (by decide) (gsz hsz (by decide)) (rs_RWEEK (k := v166 + 416) (by omega)).1
              refine g_iald2 (n := 137) (v := v169) X (by decide) (gsz hsz (by decide)) lay_191 (by omega) (by omega) (by decide) dX12_whose_136 rfl hv169 ?_
              refine g_iload_n (n := 138) X 3 dX12_whose_137 rfl rfl rfl ?_
              refine g_icmp_gt (n := 141) (tgt := 158) X dX12_whose_138 (by decide) (by omega) (by omega) rfl (fun c170 => ?_) (fun c170 => ?_)
              · refine g_iinc (n := 161) (w := v18 + 1) (L' := [(4, gJ (v18 + 1)), (5, gJ v166), (0, gA n0 190), (1, gJ a), (2, gJ b), (3, gJ v17)]) X 5 dX12_whose_158 rfl rfl (by decide) rfl rfl ?_
                refine g_goto (tgt := 93) X dX12_whose_161 (by decide) ?_
                refine G.sub (L' := [(0, gA n0 190), (1, gJ a), (2, gJ b), (3, gJ v17), (4, gJ (v18 + 1))]) [2, 3, 4, 5, 0] rfl ?_
                exact ih162 v17 (v18 + 1) (by omega) (by omega) (by omega)
              · refine g_aload_n (n := 142) X 1 dX12_whose_141 rfl rfl rfl ?_
                refine g_iload (n := 144) X 0 dX12_whose_142 rfl rfl ?_
                refine g_callVi (n := 147) (As := [gJ v166]) (rest := []) (cs1 := 0) (ss1 := 0) X (s_X12_counts v166 (by omega) hsz I C ) okX12_counts kw_6_208 ⟨kw_6_210, kw_0_52⟩ ⟨rfl, rfl⟩ (by first | exact ⟨Nat.le_of_ble_eq_true rfl, Nat.le_of_ble_eq_true rfl⟩ | (refine ⟨?_, ?_⟩ <;> (simp only [RW, RG, R_X12_law, R_X12_counted, R_X12_counts]; omega))) rfl (by decide) (gsz hsz (by decide)) lay_190 rfl rfl (Nat.le_of_ble_eq_true rfl) ⟨Nat.le_of_ble_eq_true rfl, Nat.le_of_ble_eq_true rfl⟩ rfl rfl dX12_whose_144 rfl (fun v171 M172 P173 => ?_)
                obtain ⟨rfl, rv171⟩ := P173
                refine g_if_eq (n := 150) (tgt := 158) X dX12_whose_147 (by decide) (by omega) rfl (fun c174 => ?_) (fun c174 => ?_)
                · refine g_iinc (n := 161) (w := v18 + 1) (L' := [(4, gJ (v18 + 1)), (5, gJ v166), (0, gA n0 190), (1, gJ a), (2, gJ b), (3, gJ v17)]) X 5 dX12_whose_158 rfl rfl (by decide) rfl rfl ?_
                  refine g_goto (tgt := 93) X dX12_whose_161 (by decide) ?_
                  refine G.sub (L' := [(0, gA n0 190), (1, gJ a), (2, gJ b), (3, gJ v17), (4, gJ (v18 + 1))]) [2, 3, 4, 5, 0] rfl ?_
                  exact ih162 v17 (v18 + 1) (by omega) (by omega) (by omega)
                · refine g_aload_n (n := 151) X 1 dX12_whose_150 rfl rfl rfl ?_
                  refine g_iload (n := 153) X 0 dX12_whose_151 rfl rfl ?_
                  refine g_iload_n (n := 154) X 4 dX12_whose_153 rfl rfl rfl ?_
                  refine g_callVi (n := 157) (As := [gJ v166, gJ v17]) (rest := []) (cs1 := 0) (ss1 := 0) X (hgv v166 v17 (by omega) (by omega) (fun hk => by have hw := ((W.2.1 v166 (by omega) (by omega)).2 hk).2.2.1; rw [hv167] at hw; rw [show v167 = a by omega] at hw; omega)) okX12_gives kw_6_212 ⟨kw_6_214, kw_0_53⟩ ⟨rfl, rfl⟩ (by first | exact ⟨Nat.le_of_ble_eq_true rfl, Nat.le_of_ble_eq_true rfl⟩ | (refine ⟨?_, ?_⟩ <;> (simp only [RW, RG, R_X12_law, R_X12_counted, R_X12_counts]; omega))) rfl (by decide) (gsz hsz (by decide)) lay_190 rfl rfl (Nat.le_of_ble_eq_true rfl) ⟨Nat.le_of_ble_eq_true rfl, Nat.le_of_ble_eq_true rfl⟩ rfl rfl dX12_whose_154 rfl (fun v175 M176 P177 => ?_)
                  obtain ⟨rfl, rv175⟩ := P177
                  refine g_istore_n (n := 158) (L' := [(3, gJ v175), (5, gJ v166), (0, gA n0 190), (1, gJ a), (2, gJ b), (4, gJ v18)]) X dX12_whose_157 rfl (by decide) rfl rfl ?_
                  refine g_iinc (n := 161) (w := v18 + 1) (L' := [(4, gJ (v18 + 1)), (3, gJ v175), (5, gJ v166), (0, gA n0 190), (1, gJ a), (2, gJ b)]) X 5 dX12_whose_158 rfl rfl (by decide) rfl rfl ?_
                  refine g_goto (tgt := 93) X dX12_whose_161 (by decide) ?_
                  refine G.sub (L' := [(0, gA n0 190), (1, gJ a), (2, gJ b), (3, gJ v175), (4, gJ (v18 + 1))]) [3, 4, 5, 1, 0] rfl ?_
                  exact ih162 v175 (v18 + 1) (by omega) (by omega) (by omega)
      refine G.sub (L' := [(0, gA n0 190), (1, gJ a), (2, gJ b), (3, gJ v16), (4, gJ 0)]) [1, 2, 3, 4, 0] rfl ?_
      exact j20 _ v16 0 (by omega) (by omega) (Nat.lt_succ_self _)
    refine g_icmp_ne (n := 37) (tgt := 90) X dX12_whose_34 (by decide) (by omega) (by omega) rfl (fun c8 => ?_) (fun c8 => ?_)
    · refine G.sub (L' := [(0, gA n0 190), (1, gJ a), (2, gJ b), (3, gJ v4)]) [1, 2, 3, 0] rfl ?_
      exact j15 v4 (by omega)
    · refine g_aload_n (n := 38) X 1 dX12_whose_37 rfl rfl rfl ?_
      refine gg_12_1 (n := 41) (z := 191) X (by decide) (gsz hsz (by decide)) lay_190 kw_6_27 dX12_whose_38 rfl (rf_190_1 I (gsz hsz (by decide))) (by decide) ?_
      refine g_sipush (n := 44) X dX12_whose_41 (by decide +kernel) rfl ?_
      refine g_iload_n (n := 45) X 2 dX12_whose_44 rfl rfl rfl ?_
      refine g_iadd (n := 46) (z := a + 128) X dX12_whose_45 (by omega) rfl ?_
      obtain ⟨v178, hv178, rv178⟩ := gRd I (by decide) (gsz hsz (by decide)) (rs_FATHER (k := a + 128) (by omega)).1
      refine g_iald2 (n := 47) (v := v178) X (by decide) (gsz hsz (by decide)) lay_191 (by omega) (by omega) (by decide) dX12_whose_46 rfl hv178 ?_
      refine g_iconst (n := 48) X dX12_whose_47 rfl ?_
      refine g_icmp_eq (n := 51) (tgt := 90) X dX12_whose_48 (by decide) (by omega) (by omega) rfl (fun c179 => ?_) (fun c179 => ?_)
      · refine G.sub (L' := [(0, gA n0 190), (1, gJ a), (2, gJ b), (3, gJ v4)]) [1, 2, 3, 0] rfl ?_
        exact j15 v4 (by omega)
      · refine g_aload_n (n := 52) X 1 dX12_whose_51 rfl rfl rfl ?_
        refine g_aload_n (n := 53) X 1 dX12_whose_52 rfl rfl rfl ?_
        refine gg_12_1 (n := 56) (z := 191) X (by decide) (gsz hsz (by decide)) lay_190 kw_6_27 dX12_whose_53 rfl (rf_190_1 I (gsz hsz (by decide))) (by decide) ?_
        refine g_sipush (n := 59) X dX12_whose_56 (by decide +kernel) rfl ?_
        refine g_iload_n (n := 60) X 2 dX12_whose_59 rfl rfl rfl ?_
        refine g_iadd (n := 61) (z := a + 128) X dX12_whose_60 (by omega) rfl ?_
        refine g_iald2 (n := 62) (v := v178) X (by decide) (gsz hsz (by decide)) lay_191 (by omega) (by omega) (by decide) dX12_whose_61 rfl hv178 ?_
        refine g_aload_n (n := 63) X 1 dX12_whose_62 rfl rfl rfl ?_
        refine gg_12_1 (n := 66) (z := 191) X (by decide) (gsz hsz (by decide)) lay_190 kw_6_27 dX12_whose_63 rfl (rf_190_1 I (gsz hsz (by decide))) (by decide) ?_
        refine g_bipush (n := 68) X dX12_whose_66 (by decide +kernel) rfl ?_
        refine g_iload_n (n := 69) X 2 dX12_whose_68 rfl rfl rfl ?_
        refine g_iadd (n := 70) (z := a + 96) X dX12_whose_69 (by omega) rfl ?_
        refine g_iald2 (n := 71) (v := v2) X (by decide) (gsz hsz (by decide)) lay_191 (by omega) (by omega) (by decide) dX12_whose_70 rfl hv2 ?_
        refine g_callVi (n := 74) (As := [gJ v178, gJ v2]) (rest := []) (cs1 := 0) (ss1 := 0) X (hwh v178 v2 (by omega) (by have hw := W.1 a (by omega) hp; rw [hv178] at hw; omega) (by omega) (by have hw := W.1 a (by omega) hp; rw [hv178] at hw; have h2 := hw.2 (by omega); omega)) okX12_whose kw_6_189 ⟨kw_6_191, kw_0_48⟩ ⟨rfl, rfl⟩ (by first | exact ⟨Nat.le_of_ble_eq_true rfl, Nat.le_of_ble_eq_true rfl⟩ | (refine ⟨?_, ?_⟩ <;> (simp only [RW, RG, R_X12_law, R_X12_counted, R_X12_counts]; omega))) rfl (by decide) (gsz hsz (by decide)) lay_190 rfl rfl (Nat.le_of_ble_eq_true rfl) ⟨Nat.le_of_ble_eq_true rfl, Nat.le_of_ble_eq_true rfl⟩ rfl rfl dX12_whose_71 rfl (fun v180 M181 P182 => ?_)
        obtain ⟨rfl, rv180, xv180⟩ := P182
        refine g_istore (n := 76) (L' := [(4, gJ v180), (3, gJ v4), (0, gA n0 190), (1, gJ a), (2, gJ b)]) X dX12_whose_74 (by decide) rfl rfl ?_
        refine g_iload (n := 78) X 0 dX12_whose_76 rfl rfl ?_
        refine g_bipush (n := 80) X dX12_whose_78 (by decide +kernel) rfl ?_
        refine g_icmp_ne (n := 83) (tgt := 87) X dX12_whose_80 (by decide) (by omega) (by omega) rfl (fun c183 => ?_) (fun c183 => ?_)
        · refine g_iload (n := 89) X 0 dX12_whose_87 rfl rfl ?_
          refine g_istore_n (n := 90) (L' := [(3, gJ v180), (4, gJ v180), (0, gA n0 190), (1, gJ a), (2, gJ b)]) X dX12_whose_89 rfl (by decide) rfl rfl ?_
          refine G.sub (L' := [(0, gA n0 190), (1, gJ a), (2, gJ b), (3, gJ v180)]) [2, 3, 4, 0] rfl ?_
          exact j15 v180 (by omega)
        · refine g_iload_n (n := 84) X 1 dX12_whose_83 rfl rfl rfl ?_
          refine g_goto (tgt := 89) X dX12_whose_84 (by decide) ?_
          refine g_istore_n (n := 90) (L' := [(3, gJ v4), (4, gJ v180), (0, gA n0 190), (1, gJ a), (2, gJ b)]) X dX12_whose_89 rfl (by decide) rfl rfl ?_
          refine G.sub (L' := [(0, gA n0 190), (1, gJ a), (2, gJ b), (3, gJ v4)]) [2, 3, 4, 0] rfl ?_
          exact j15 v4 (by omega)
  · refine g_bipush (n := 15) X dX12_whose_13 (by decide +kernel) rfl ?_
    exact hq _ _ _ _ dX12_whose_15 ⟨rfl, by omega, by omega⟩
theorem s_X12_whoseD {l : Launch} {n0 : Nat} {D : va_G} {cA : Nat → ClassId} {M : gM} {sz : Nat} (hsz : 206 ≤ sz) (I : gI sz M) (C : gC sz M) (W : gW 191 M) (d : Nat) : (∀ (p w : Int), 0 ≤ p → p < M 191 1 → -3000 ≤ w ∧ w ≤ 300 → p + 17 * M 191 (p + 80) < (d : Int) → Met l yX12_whose (gWsOf yX12_whose cX12_whose 6 (Option.some Jvm.ClassFile.FieldType.int)) (RW d) (gPc n0 D cA [gA n0 190, gJ p, gJ w] M sz) (gQi n0 D cA sz (fun z M1 => M = M1 ∧ (-5 ≤ z ∧ z ≤ 5) ∧ (z = -5 ∨ 0 ≤ z))) 0 0 (fun q => n0 ≤ q)) := by
  induction d with
  | zero =>
    intro p w h0 h1 h2 h3
    exfalso
    obtain ⟨v, hv, rv⟩ := gRd I (by decide) (gsz hsz (by decide)) (rs_PERS (k := 1) (by omega)).1
    obtain ⟨u, hu, ru⟩ := gRd I (by decide) (gsz hsz (by decide)) (rs_SEX (k := p + 80) (by omega)).1
    omega
  | succ d ih =>
    intro p w h0 h1 h2 h3
    obtain ⟨v, hv, rv⟩ := gRd I (by decide) (gsz hsz (by decide)) (rs_PERS (k := 1) (by omega)).1
    exact s_X12_whoseR p (by omega) w h2 hsz I C W h1 d (by omega) ih (fun r a hr ha hk => s_X12_givesR r hr a ha hsz I C W d hk ih)
abbrev R_X12_whose : Room := { frames := 72, cells := 0, slots := 0, locals := 2940 }
theorem s_X12_whose {l : Launch} {n0 : Nat} {D : va_G} {cA : Nat → ClassId} {M : gM} (a : Int) (r_a : 0 ≤ a ∧ a ≤ 15) (b : Int) (r_b : -3000 ≤ b ∧ b ≤ 300) {sz : Nat} (hsz : 206 ≤ sz) (I : gI sz M) (C : gC sz M) (W : gW 191 M) (hp : a < M 191 1) : Met l yX12_whose (gWsOf yX12_whose cX12_whose 6 (Option.some Jvm.ClassFile.FieldType.int)) (R_X12_whose) (gPc n0 D cA [gA n0 190, gJ a, gJ b] M sz) (gQi n0 D cA sz (fun z M1 => M = M1 ∧ (-5 ≤ z ∧ z ≤ 5) ∧ (z = -5 ∨ 0 ≤ z))) 0 0 (fun q => n0 ≤ q) := by
  obtain ⟨u, hu, ru⟩ := gRd I (by decide) (gsz hsz (by decide)) (rs_SEX (k := a + 80) (by omega)).1
  exact s_X12_whoseD hsz I C W 33 a b (by omega) hp r_b (by omega)
