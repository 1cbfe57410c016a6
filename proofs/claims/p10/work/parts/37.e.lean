theorem gBf.sm {T : Nat} {M M1 : gM} (hc : M 1 10 ≤ 16) (B : gBf M) (S : gSm M M1) (F : gFr T M M1) (h1 : T.testBit 30 = false) (h2 : T.testBit 31 = false) (h3 : T.testBit 20 = false) : gBf M1 := by
  have hn : M1 1 10 = M 1 10 := gFr.at F rc_1_10.2.2 h3
  have hQ : ∀ i k : Int, 0 ≤ i → i < 16 → M1 (174 + i) k = M (174 + i) k := fun i k g0 g1 => F _ _ (by rw [show gG (174 + i) k = 30 from by unfold gG; rw [if_neg (by omega), if_neg (by omega), if_neg (by omega), if_pos (by omega)]]; exact h1)
  exact ⟨(fun i k g0 g1 gk => by rw [hQ i k g0 (by rw [hn] at g1; omega), B.1 i k g0 (by rw [hn] at g1; exact g1) gk]; exact (S.1 i k g0 (by rw [hn] at g1; exact g1) gk).symm), (fun b g0 g1 => (gFr.at F (ra_163 b).2.2 h2).trans ((B.2.1 b g0 g1).trans (S.2.1 b g0 g1).symm)), (fun b g0 g1 => (gFr.at F (ra_164 b).2.2 h2).trans ((B.2.2.1 b g0 g1).trans (S.2.2.1 b g0 g1).symm)), (fun b g0 g1 => (gFr.at F (ra_165 b).2.2 h2).trans ((B.2.2.2.1 b g0 g1).trans (S.2.2.2.1 b g0 g1).symm)), (fun b g0 g1 => (gFr.at F (ra_166 b).2.2 h2).trans ((B.2.2.2.2.1 b g0 g1).trans (S.2.2.2.2.1 b g0 g1).symm)), (fun b g0 g1 => (gFr.at F (ra_167 b).2.2 h2).trans ((B.2.2.2.2.2.1 b g0 g1).trans (S.2.2.2.2.2.1 b g0 g1).symm)), (fun b g0 g1 => (gFr.at F (ra_168 b).2.2 h2).trans ((B.2.2.2.2.2.2.1 b g0 g1).trans (S.2.2.2.2.2.2.1 b g0 g1).symm)), (fun b g0 g1 => (gFr.at F (ra_169 b).2.2 h2).trans ((B.2.2.2.2.2.2.2.1 b g0 g1).trans (S.2.2.2.2.2.2.2.1 b g0 g1).symm)), ((gFr.at F rc_162_7.2.2 h2).trans (B.2.2.2.2.2.2.2.2.1.trans S.2.2.2.2.2.2.2.2.1.symm)), ((gFr.at F rc_162_8.2.2 h2).trans (B.2.2.2.2.2.2.2.2.2.1.trans S.2.2.2.2.2.2.2.2.2.1.symm)), ((gFr.at F rc_162_9.2.2 h2).trans (B.2.2.2.2.2.2.2.2.2.2.trans S.2.2.2.2.2.2.2.2.2.2.1.symm))⟩
theorem gSm.tr {M M1 M2 : gM} (S : gSm M M1) (S2 : gSm M1 M2) (hn : M1 1 10 = M 1 10) : gSm M M2 := ⟨(fun i k g0 g1 gk => (S2.1 i k g0 (by rw [hn]; exact g1) gk).trans (S.1 i k g0 g1 gk)), (fun b g0 g1 => (S2.2.1 b g0 g1).trans (S.2.1 b g0 g1)), (fun b g0 g1 => (S2.2.2.1 b g0 g1).trans (S.2.2.1 b g0 g1)), (fun b g0 g1 => (S2.2.2.2.1 b g0 g1).trans (S.2.2.2.1 b g0 g1)), (fun b g0 g1 => (S2.2.2.2.2.1 b g0 g1).trans (S.2.2.2.2.1 b g0 g1)), (fun b g0 g1 => (S2.2.2.2.2.2.1 b g0 g1).trans (S.2.2.2.2.2.1 b g0 g1)), (fun b g0 g1 => (S2.2.2.2.2.2.2.1 b g0 g1).trans (S.2.2.2.2.2.2.1 b g0 g1)), (fun b g0 g1 => (S2.2.2.2.2.2.2.2.1 b g0 g1).trans (S.2.2.2.2.2.2.2.1 b g0 g1)), (S2.2.2.2.2.2.2.2.2.1.trans S.2.2.2.2.2.2.2.2.1), (S2.2.2.2.2.2.2.2.2.2.1.trans S.2.2.2.2.2.2.2.2.2.1), (S2.2.2.2.2.2.2.2.2.2.2.1.trans S.2.2.2.2.2.2.2.2.2.2.1), (S2.2.2.2.2.2.2.2.2.2.2.2.trans S.2.2.2.2.2.2.2.2.2.2.2)⟩
theorem gSm.acts {M M1 M2 : gM} {z : Int} (S : gSm M M1) (e : M2 = gset M1 1 13 z) : gSm M M2 := ⟨(fun i k g0 g1 gk => by rw [e, gset_ne (by omega)]; exact S.1 i k g0 g1 gk), (fun b g0 g1 => by rw [e, gset_ne (by omega)]; exact S.2.1 b g0 g1), (fun b g0 g1 => by rw [e, gset_ne (by omega)]; exact S.2.2.1 b g0 g1), (fun b g0 g1 => by rw [e, gset_ne (by omega)]; exact S.2.2.2.1 b g0 g1), (fun b g0 g1 => by rw [e, gset_ne (by omega)]; exact S.2.2.2.2.1 b g0 g1), (fun b g0 g1 => by rw [e, gset_ne (by omega)]; exact S.2.2.2.2.2.1 b g0 g1), (fun b g0 g1 => by rw [e, gset_ne (by omega)]; exact S.2.2.2.2.2.2.1 b g0 g1), (fun b g0 g1 => by rw [e, gset_ne (by omega)]; exact S.2.2.2.2.2.2.2.1 b g0 g1), (by rw [e, gset_ne (by omega)]; exact S.2.2.2.2.2.2.2.2.1), (by rw [e, gset_ne (by omega)]; exact S.2.2.2.2.2.2.2.2.2.1), (by rw [e, gset_ne (by omega)]; exact S.2.2.2.2.2.2.2.2.2.2.1), (by rw [e, gset_ne (by omega)]; exact S.2.2.2.2.2.2.2.2.2.2.2)⟩
def gSm11 (M M1 : gM) : Prop := (∀ i k : Int, 0 ≤ i → i < M 1 10 → 0 ≤ k ∧ k ≤ 11 → M1 (31 + i) k = M (31 + i) k) ∧ (∀ b : Int, 0 ≤ b → b < 4 → M1 16 b = M 16 b) ∧ (∀ b : Int, 0 ≤ b → b < 301 → M1 17 b = M 17 b) ∧ (∀ b : Int, 0 ≤ b → b < 3 → M1 18 b = M 18 b) ∧ (∀ b : Int, 0 ≤ b → b < 30 → M1 19 b = M 19 b) ∧ (∀ b : Int, 0 ≤ b → b < 6 → M1 20 b = M 20 b) ∧ (∀ b : Int, 0 ≤ b → b < 6 → M1 21 b = M 21 b) ∧ (∀ b : Int, 0 ≤ b → b < 6 → M1 22 b = M 22 b) ∧ M1 15 7 = M 15 7 ∧ M1 15 8 = M 15 8 ∧ M1 15 9 = M 15 9 ∧ M1 1 15 = M 1 15
theorem gSm11.rf {M : gM} : gSm11 M M := ⟨fun _ _ _ _ _ => rfl, fun _ _ _ => rfl, fun _ _ _ => rfl, fun _ _ _ => rfl, fun _ _ _ => rfl, fun _ _ _ => rfl, fun _ _ _ => rfl, fun _ _ _ => rfl, rfl, rfl, rfl, rfl⟩
theorem gSm11.of {T : Nat} {M Mr M1 : gM} (hc : M 1 10 ≤ 16) (F : gFr T M Mr) (h : T &&& 17889336 = 0) (S : gSm Mr M1) : gSm11 M M1 := by
  have hb : ∀ g : Nat, (17889336 : Nat).testBit g = true → T.testBit g = false := by
    intro g hg
    have h1 : (T &&& 17889336).testBit g = (T.testBit g && (17889336 : Nat).testBit g) := Nat.testBit_and T _ g
    rw [h, hg, Bool.and_true, Nat.zero_testBit] at h1
    exact h1.symm
  have hn : Mr 1 10 = M 1 10 := gFr.at F rc_1_10.2.2 (hb _ rfl)
  have hP : ∀ i k : Int, 0 ≤ i → i < 16 → 0 ≤ k ∧ k ≤ 11 → Mr (31 + i) k = M (31 + i) k := by
    intro i k g0 g1 gk
    have r : 31 ≤ 31 + i ∧ 31 + i < 47 := by omega
    rcases (by omega : k = 0 ∨ k = 1 ∨ k = 2 ∨ k = 3 ∨ k = 4 ∨ k = 5 ∨ k = 6 ∨ k = 7 ∨ k = 8 ∨ k = 9 ∨ k = 10 ∨ k = 11) with rfl | rfl | rfl | rfl | rfl | rfl | rfl | rfl | rfl | rfl | rfl | rfl
    · exact gFr.at F (rP_0 r).2.2 (hb _ rfl)
    · exact gFr.at F (rP_1 r).2.2 (hb _ rfl)
    · exact gFr.at F (rP_2 r).2.2 (hb _ rfl)
    · exact gFr.at F (rP_3 r).2.2 (hb _ rfl)
    · exact gFr.at F (rP_4 r).2.2 (hb _ rfl)
    · exact gFr.at F (rP_5 r).2.2 (hb _ rfl)
    · exact gFr.at F (rP_6 r).2.2 (hb _ rfl)
    · exact gFr.at F (rP_7 r).2.2 (hb _ rfl)
    · exact gFr.at F (rP_8 r).2.2 (hb _ rfl)
    · exact gFr.at F (rP_9 r).2.2 (hb _ rfl)
    · exact gFr.at F (rP_10 r).2.2 (hb _ rfl)
    · exact gFr.at F (rP_11 r).2.2 (hb _ rfl)
  exact ⟨(fun i k g0 g1 gk => (S.1 i k g0 (by rw [hn]; exact g1) (Or.inl gk)).trans (hP i k g0 (by omega) gk)), (fun b g0 g1 => (S.2.1 b g0 g1).trans (gFr.at F (ra_16 b).2.2 (hb _ rfl))), (fun b g0 g1 => (S.2.2.1 b g0 g1).trans (gFr.at F (ra_17 b).2.2 (hb _ rfl))), (fun b g0 g1 => (S.2.2.2.1 b g0 g1).trans (gFr.at F (ra_18 b).2.2 (hb _ rfl))), (fun b g0 g1 => (S.2.2.2.2.1 b g0 g1).trans (gFr.at F (ra_19 b).2.2 (hb _ rfl))), (fun b g0 g1 => (S.2.2.2.2.2.1 b g0 g1).trans (gFr.at F (ra_20 b).2.2 (hb _ rfl))), (fun b g0 g1 => (S.2.2.2.2.2.2.1 b g0 g1).trans (gFr.at F (ra_21 b).2.2 (hb _ rfl))), (fun b g0 g1 => (S.2.2.2.2.2.2.2.1 b g0 g1).trans (gFr.at F (ra_22 b).2.2 (hb _ rfl))), (S.2.2.2.2.2.2.2.2.1.trans (gFr.at F rc_15_7.2.2 (hb _ rfl))), (S.2.2.2.2.2.2.2.2.2.1.trans (gFr.at F rc_15_8.2.2 (hb _ rfl))), (S.2.2.2.2.2.2.2.2.2.2.1.trans (gFr.at F rc_15_9.2.2 (hb _ rfl))), (S.2.2.2.2.2.2.2.2.2.2.2.trans (gFr.at F rc_1_15.2.2 (hb _ rfl)))⟩
theorem dX11_holdsOut_0 : decode cX11_holdsOut 0 = .ok (.aload_n 0, 1) := dc_42 (by decide +kernel)
theorem dX11_holdsOut_1 : decode cX11_holdsOut 1 = .ok (.getfield 10, 3) := dc_180 0 10 (by decide +kernel)
theorem dX11_holdsOut_4 : decode cX11_holdsOut 4 = .ok (.getfield 85, 3) := dc_180 0 85 (by decide +kernel)
theorem dX11_holdsOut_7 : decode cX11_holdsOut 7 = .ok (.istore_n 2, 1) := dc_61 (by decide +kernel)
theorem dX11_holdsOut_8 : decode cX11_holdsOut 8 = .ok (.iconst 1, 1) := dc_4 (by decide +kernel)
theorem dX11_holdsOut_9 : decode cX11_holdsOut 9 = .ok (.istore_n 3, 1) := dc_62 (by decide +kernel)
theorem dX11_holdsOut_10 : decode cX11_holdsOut 10 = .ok (.iconst 0, 1) := dc_3 (by decide +kernel)
theorem dX11_holdsOut_11 : decode cX11_holdsOut 11 = .ok (.istore 4, 2) := dc_54 4 (by decide +kernel)
theorem dX11_holdsOut_13 : decode cX11_holdsOut 13 = .ok (.iload 4, 2) := dc_21 4 (by decide +kernel)
theorem dX11_holdsOut_15 : decode cX11_holdsOut 15 = .ok (.iconst 3, 1) := dc_6 (by decide +kernel)
theorem dX11_holdsOut_16 : decode cX11_holdsOut 16 = .ok (.if_icmp .ge 123, 3) := dc_162 0 123 123 (by decide +kernel)
theorem dX11_holdsOut_19 : decode cX11_holdsOut 19 = .ok (.iload_n 3, 1) := dc_29 (by decide +kernel)
theorem dX11_holdsOut_20 : decode cX11_holdsOut 20 = .ok (.ifCond .eq 119, 3) := dc_153 0 119 119 (by decide +kernel)
theorem dX11_holdsOut_23 : decode cX11_holdsOut 23 = .ok (.aload_n 0, 1) := dc_42 (by decide +kernel)
theorem dX11_holdsOut_24 : decode cX11_holdsOut 24 = .ok (.getfield 10, 3) := dc_180 0 10 (by decide +kernel)
theorem dX11_holdsOut_27 : decode cX11_holdsOut 27 = .ok (.getfield 279, 3) := dc_180 1 23 (by decide +kernel)
theorem dX11_holdsOut_30 : decode cX11_holdsOut 30 = .ok (.iload_n 1, 1) := dc_27 (by decide +kernel)
theorem dX11_holdsOut_31 : decode cX11_holdsOut 31 = .ok (.invokevirtual 458, 3) := dc_182 1 202 (by decide +kernel)
theorem kw_5_179 : (Jvm.Cond.methodLink "ParishUnion" (458 : Nat) ({ cls := "ParishUnion$House", name := "doChoices", desc := "(I)V" } : Jvm.MethodName)) ∈ gT := gT_of (tb_5 _ (List.mem_of_getElem? (i := 179) rfl)) rfl
theorem kw_5_182 : (Jvm.Cond.code ({ cls := "ParishUnion$House", name := "doChoices", desc := "(I)V" } : Jvm.MethodName) prog_4_method_5_code (5 : Nat) (Option.none : Option Jvm.ClassFile.FieldType)) ∈ gT := gT_of (tb_5 _ (List.mem_of_getElem? (i := 182) rfl)) rfl
theorem okX2_doChoices : gQok yX2_doChoices cX2_doChoices 5 (Option.none : Option Jvm.ClassFile.FieldType) 1 := ⟨kw_5_182, kw_1_5, by decide +kernel, by decide +kernel, by decide +kernel⟩
theorem kw_5_180 : (Jvm.Cond.instanceMethod ({ cls := "ParishUnion$House", name := "doChoices", desc := "(I)V" } : Jvm.MethodName)) ∈ gT := gT_of (tb_5 _ (List.mem_of_getElem? (i := 180) rfl)) rfl
theorem kw_5_181 : (Jvm.Cond.selects "ParishUnion$House" ({ cls := "ParishUnion$House", name := "doChoices", desc := "(I)V" } : Jvm.MethodName) ({ cls := "ParishUnion$House", name := "doChoices", desc := "(I)V" } : Jvm.MethodName)) ∈ gT := gT_of (tb_5 _ (List.mem_of_getElem? (i := 181) rfl)) rfl
theorem dX11_holdsOut_34 : decode cX11_holdsOut 34 = .ok (.aload_n 0, 1) := dc_42 (by decide +kernel)
theorem dX11_holdsOut_35 : decode cX11_holdsOut 35 = .ok (.getfield 10, 3) := dc_180 0 10 (by decide +kernel)
theorem dX11_holdsOut_38 : decode cX11_holdsOut 38 = .ok (.getfield 279, 3) := dc_180 1 23 (by decide +kernel)
theorem dX11_holdsOut_41 : decode cX11_holdsOut 41 = .ok (.iload 4, 2) := dc_21 4 (by decide +kernel)
theorem dX11_holdsOut_43 : decode cX11_holdsOut 43 = .ok (.iload_n 2, 1) := dc_28 (by decide +kernel)
theorem dX11_holdsOut_44 : decode cX11_holdsOut 44 = .ok (.invokevirtual 403, 3) := dc_182 1 147 (by decide +kernel)
theorem kw_5_184 : (Jvm.Cond.methodLink "ParishUnion" (403 : Nat) ({ cls := "ParishUnion$House", name := "tellRow", desc := "(II)V" } : Jvm.MethodName)) ∈ gT := gT_of (tb_5 _ (List.mem_of_getElem? (i := 184) rfl)) rfl
theorem kw_5_187 : (Jvm.Cond.code ({ cls := "ParishUnion$House", name := "tellRow", desc := "(II)V" } : Jvm.MethodName) prog_4_method_7_code (4 : Nat) (Option.none : Option Jvm.ClassFile.FieldType)) ∈ gT := gT_of (tb_5 _ (List.mem_of_getElem? (i := 187) rfl)) rfl
theorem okX2_tellRow : gQok yX2_tellRow cX2_tellRow 4 (Option.none : Option Jvm.ClassFile.FieldType) 2 := ⟨kw_5_187, kw_1_5, by decide +kernel, by decide +kernel, by decide +kernel⟩
theorem kw_5_185 : (Jvm.Cond.instanceMethod ({ cls := "ParishUnion$House", name := "tellRow", desc := "(II)V" } : Jvm.MethodName)) ∈ gT := gT_of (tb_5 _ (List.mem_of_getElem? (i := 185) rfl)) rfl
theorem kw_5_186 : (Jvm.Cond.selects "ParishUnion$House" ({ cls := "ParishUnion$House", name := "tellRow", desc := "(II)V" } : Jvm.MethodName) ({ cls := "ParishUnion$House", name := "tellRow", desc := "(II)V" } : Jvm.MethodName)) ∈ gT := gT_of (tb_5 _ (List.mem_of_getElem? (i := 186) rfl)) rfl
theorem dX11_holdsOut_47 : decode cX11_holdsOut 47 = .ok (.iconst 0, 1) := dc_3 (by decide +kernel)
theorem dX11_holdsOut_48 : decode cX11_holdsOut 48 = .ok (.istore 5, 2) := dc_54 5 (by decide +kernel)
theorem dX11_holdsOut_50 : decode cX11_holdsOut 50 = .ok (.iload 5, 2) := dc_21 5 (by decide +kernel)
theorem dX11_holdsOut_52 : decode cX11_holdsOut 52 = .ok (.aload_n 0, 1) := dc_42 (by decide +kernel)
theorem dX11_holdsOut_53 : decode cX11_holdsOut 53 = .ok (.getfield 10, 3) := dc_180 0 10 (by decide +kernel)
theorem dX11_holdsOut_56 : decode cX11_holdsOut 56 = .ok (.getfield 279, 3) := dc_180 1 23 (by decide +kernel)
theorem dX11_holdsOut_59 : decode cX11_holdsOut 59 = .ok (.getfield 397, 3) := dc_180 1 141 (by decide +kernel)
theorem dX11_holdsOut_62 : decode cX11_holdsOut 62 = .ok (.iload 4, 2) := dc_21 4 (by decide +kernel)
theorem dX11_holdsOut_64 : decode cX11_holdsOut 64 = .ok (.iaload, 1) := dc_46 (by decide +kernel)
theorem dX11_holdsOut_65 : decode cX11_holdsOut 65 = .ok (.if_icmp .ge 63, 3) := dc_162 0 63 63 (by decide +kernel)
theorem dX11_holdsOut_128 : decode cX11_holdsOut 128 = .ok (.aload_n 0, 1) := dc_42 (by decide +kernel)
theorem dX11_holdsOut_129 : decode cX11_holdsOut 129 = .ok (.iload_n 2, 1) := dc_28 (by decide +kernel)
theorem dX11_holdsOut_130 : decode cX11_holdsOut 130 = .ok (.invokevirtual 410, 3) := dc_182 1 154 (by decide +kernel)
theorem kw_5_188 : (Jvm.Cond.methodLink "ParishUnion" (410 : Nat) ({ cls := "ParishUnion", name := "bringBack", desc := "(I)V" } : Jvm.MethodName)) ∈ gT := gT_of (tb_5 _ (List.mem_of_getElem? (i := 188) rfl)) rfl
theorem kw_5_191 : (Jvm.Cond.code ({ cls := "ParishUnion", name := "bringBack", desc := "(I)V" } : Jvm.MethodName) prog_1_method_68_code (3 : Nat) (Option.none : Option Jvm.ClassFile.FieldType)) ∈ gT := gT_of (tb_5 _ (List.mem_of_getElem? (i := 191) rfl)) rfl
theorem okX11_bringBack : gQok yX11_bringBack cX11_bringBack 3 (Option.none : Option Jvm.ClassFile.FieldType) 1 := ⟨kw_5_191, kw_1_1, by decide +kernel, by decide +kernel, by decide +kernel⟩
theorem kw_5_190 : (Jvm.Cond.instanceMethod ({ cls := "ParishUnion", name := "bringBack", desc := "(I)V" } : Jvm.MethodName)) ∈ gT := gT_of (tb_5 _ (List.mem_of_getElem? (i := 190) rfl)) rfl
theorem kw_0_37 : (Jvm.Cond.selects "ParishUnion" ({ cls := "ParishUnion", name := "bringBack", desc := "(I)V" } : Jvm.MethodName) ({ cls := "ParishUnion", name := "bringBack", desc := "(I)V" } : Jvm.MethodName)) ∈ gT := gT_of (tb_0 _ (List.mem_of_getElem? (i := 37) rfl)) rfl
theorem dX11_holdsOut_133 : decode cX11_holdsOut 133 = .ok (.iinc 4 1, 3) := dc_132 4 1 1 (by decide +kernel)
theorem dX11_holdsOut_136 : decode cX11_holdsOut 136 = .ok (.goto (-123), 3) := dc_167 255 133 (-123) (by decide +kernel)
theorem dX11_holdsOut_68 : decode cX11_holdsOut 68 = .ok (.iload_n 3, 1) := dc_29 (by decide +kernel)
theorem dX11_holdsOut_69 : decode cX11_holdsOut 69 = .ok (.ifCond .eq 59, 3) := dc_153 0 59 59 (by decide +kernel)
theorem dX11_holdsOut_72 : decode cX11_holdsOut 72 = .ok (.aload_n 0, 1) := dc_42 (by decide +kernel)
theorem dX11_holdsOut_73 : decode cX11_holdsOut 73 = .ok (.getfield 10, 3) := dc_180 0 10 (by decide +kernel)
theorem dX11_holdsOut_76 : decode cX11_holdsOut 76 = .ok (.iconst 1, 1) := dc_4 (by decide +kernel)
theorem dX11_holdsOut_77 : decode cX11_holdsOut 77 = .ok (.invokevirtual 297, 3) := dc_182 1 41 (by decide +kernel)
theorem dX11_holdsOut_80 : decode cX11_holdsOut 80 = .ok (.aload_n 0, 1) := dc_42 (by decide +kernel)
theorem dX11_holdsOut_81 : decode cX11_holdsOut 81 = .ok (.getfield 10, 3) := dc_180 0 10 (by decide +kernel)
theorem dX11_holdsOut_84 : decode cX11_holdsOut 84 = .ok (.getfield 307, 3) := dc_180 1 51 (by decide +kernel)
theorem dX11_holdsOut_87 : decode cX11_holdsOut 87 = .ok (.iload_n 2, 1) := dc_28 (by decide +kernel)
theorem dX11_holdsOut_88 : decode cX11_holdsOut 88 = .ok (.iload 5, 2) := dc_21 5 (by decide +kernel)
theorem dX11_holdsOut_90 : decode cX11_holdsOut 90 = .ok (.iadd, 1) := dc_96 (by decide +kernel)
theorem dX11_holdsOut_91 : decode cX11_holdsOut 91 = .ok (.iconst 2, 1) := dc_5 (by decide +kernel)
theorem dX11_holdsOut_92 : decode cX11_holdsOut 92 = .ok (.invokevirtual 311, 3) := dc_182 1 55 (by decide +kernel)
theorem dX11_holdsOut_95 : decode cX11_holdsOut 95 = .ok (.ifCond .ne 25, 3) := dc_154 0 25 25 (by decide +kernel)
theorem dX11_holdsOut_120 : decode cX11_holdsOut 120 = .ok (.iconst 0, 1) := dc_3 (by decide +kernel)
theorem dX11_holdsOut_121 : decode cX11_holdsOut 121 = .ok (.istore_n 3, 1) := dc_62 (by decide +kernel)
theorem dX11_holdsOut_122 : decode cX11_holdsOut 122 = .ok (.iinc 5 1, 3) := dc_132 5 1 1 (by decide +kernel)
theorem dX11_holdsOut_125 : decode cX11_holdsOut 125 = .ok (.goto (-75), 3) := dc_167 255 181 (-75) (by decide +kernel)
theorem dX11_holdsOut_98 : decode cX11_holdsOut 98 = .ok (.aload_n 0, 1) := dc_42 (by decide +kernel)
theorem dX11_holdsOut_99 : decode cX11_holdsOut 99 = .ok (.getfield 10, 3) := dc_180 0 10 (by decide +kernel)
theorem dX11_holdsOut_102 : decode cX11_holdsOut 102 = .ok (.getfield 307, 3) := dc_180 1 51 (by decide +kernel)
theorem dX11_holdsOut_105 : decode cX11_holdsOut 105 = .ok (.iload_n 2, 1) := dc_28 (by decide +kernel)
theorem dX11_holdsOut_106 : decode cX11_holdsOut 106 = .ok (.iload 5, 2) := dc_21 5 (by decide +kernel)
theorem dX11_holdsOut_108 : decode cX11_holdsOut 108 = .ok (.iadd, 1) := dc_96 (by decide +kernel)
theorem dX11_holdsOut_109 : decode cX11_holdsOut 109 = .ok (.iconst 4, 1) := dc_7 (by decide +kernel)
theorem dX11_holdsOut_110 : decode cX11_holdsOut 110 = .ok (.invokevirtual 311, 3) := dc_182 1 55 (by decide +kernel)
theorem dX11_holdsOut_113 : decode cX11_holdsOut 113 = .ok (.ifCond .ne 7, 3) := dc_154 0 7 7 (by decide +kernel)
theorem dX11_holdsOut_116 : decode cX11_holdsOut 116 = .ok (.iconst 1, 1) := dc_4 (by decide +kernel)
theorem dX11_holdsOut_117 : decode cX11_holdsOut 117 = .ok (.goto 4, 3) := dc_167 0 4 4 (by decide +kernel)
theorem dX11_holdsOut_139 : decode cX11_holdsOut 139 = .ok (.iload_n 3, 1) := dc_29 (by decide +kernel)
theorem dX11_holdsOut_140 : decode cX11_holdsOut 140 = .ok (.ireturn, 1) := dc_172 (by decide +kernel)
abbrev R_X11_holdsOut : Room := { frames := 7, cells := 0, slots := 0, locals := 192 }
set_option maxRecDepth 100000 in
set_option maxHeartbeats 4000000 in
theorem s_X11_holdsOut {l : Launch} {n0 : Nat} {D : va_G} {cA : Nat → ClassId} {M : gM} (a : Int) (r_a : -2147483648 ≤ a ∧ a ≤ 2147483647) {sz : Nat} (hsz : 206 ≤ sz) (I : gI sz M) (C : gC sz M) (hBf : gBf M) (hfit : ∀ q : Int, 0 ≤ q → q < 3 → M 1 15 + M 18 q ≤ 300)  : Met l yX11_holdsOut (gWsOf yX11_holdsOut cX11_holdsOut 6 (Option.some Jvm.ClassFile.FieldType.boolean)) R_X11_holdsOut (gPc n0 D cA [gA n0 0, gJ a] M sz) (gQi n0 D cA sz (fun z M1 => (0 ≤ z ∧ z ≤ 1) ∧ gI sz M1 ∧ gC sz M1 ∧ gFr 16906360 M M1 ∧ (gSm M M1))) 0 0 (fun q => n0 ≤ q) := by
  refine gMetZ [gA n0 0, gJ a] (by decide) (Nat.le_of_ble_eq_true rfl) ⟨rfl, rfl⟩ ?_
  intro p e s m args below meth cd Q X hq
  have X : gCx p s m args meth cd n0 D cA "ParishUnion" cX11_holdsOut 6 := X
  show G p l e R_X11_holdsOut s m args below meth cd n0 D cA 6 Q 0 0 M sz 0 [(0, gA n0 0), (1, gJ a)] []
  obtain ⟨v1, hv1, rv1⟩ := gRd I (by decide) (gsz hsz (by decide)) rc_1_15.1
  obtain ⟨v2, hv2, rv2⟩ := gRd I (by decide) (gsz hsz (by decide)) rc_1_10.1
  refine g_aload_n (n := 1) X 0 dX11_holdsOut_0 rfl rfl rfl ?_
  refine gg_11_0 (n := 4) (z := 1) X (by decide) (gsz hsz (by decide)) lay_0 kw_2_231 dX11_holdsOut_1 rfl (rf_0_0 I (gsz hsz (by decide))) (by decide) ?_
  refine gg_9_15 (n := 7) (z := v1) X (by decide) (gsz hsz (by decide)) lay_1 kw_2_139 dX11_holdsOut_4 rfl hv1 ?_
  refine g_istore_n (n := 8) (L' := [(2, gJ v1), (0, gA n0 0), (1, gJ a)]) X dX11_holdsOut_7 rfl (by decide) rfl rfl ?_
  refine g_iconst (n := 9) X dX11_holdsOut_8 rfl ?_
  refine g_istore_n (n := 10) (L' := [(3, gJ 1), (2, gJ v1), (0, gA n0 0), (1, gJ a)]) X dX11_holdsOut_9 rfl (by decide) rfl rfl ?_
  refine g_iconst (n := 11) X dX11_holdsOut_10 rfl ?_
  refine g_istore (n := 13) (L' := [(4, gJ 0), (3, gJ 1), (2, gJ v1), (0, gA n0 0), (1, gJ a)]) X dX11_holdsOut_11 (by decide) rfl rfl ?_
  have j6 : ∀ (N811 : Nat) (v3 v4 : Int) (M5 : gM) , (0 ≤ v3 ∧ v3 ≤ 1) → (0 ≤ v4 ∧ v4 ≤ 3) → gI sz M5 → gC sz M5 → gFr 16906360 M M5 → (gSm M M5) → (3 - v4).toNat < N811 → G p l e R_X11_holdsOut s m args below meth cd n0 D cA 6 Q 0 0 M5 sz 13 [(0, gA n0 0), (1, gJ a), (2, gJ v1), (3, gJ v3), (4, gJ v4)] [] := by
    intro N811; induction N811 with
    | zero => intro v3 v4 M5 rv3 rv4 IM5 CM5 FM5 hS hm813; exfalso; omega
    | succ N811 ih812 =>
      intro v3 v4 M5 rv3 rv4 IM5 CM5 FM5 hS hm813
      refine g_iload (n := 15) X 4 dX11_holdsOut_13 rfl rfl ?_
      refine g_iconst (n := 16) X dX11_holdsOut_15 rfl ?_
      refine g_icmp_ge (n := 19) (tgt := 139) X dX11_holdsOut_16 (by decide) (by omega) (by omega) rfl (fun c814 => ?_) (fun c814 => ?_)
      · refine g_iload_n (n := 140) X 3 dX11_holdsOut_139 rfl rfl rfl ?_
        exact hq _ _ _ _ dX11_holdsOut_140 (by omega) ⟨by omega, IM5, CM5, (gFr.c gFr.rf FM5 rfl), hS⟩
      · refine g_iload_n (n := 20) X 3 dX11_holdsOut_19 rfl rfl rfl ?_
        refine g_if_eq (n := 23) (tgt := 139) X dX11_holdsOut_20 (by decide) (by omega) rfl (fun c815 => ?_) (fun c815 => ?_)
        · refine g_iload_n (n := 140) X 3 dX11_holdsOut_139 rfl rfl rfl ?_
          exact hq _ _ _ _ dX11_holdsOut_140 (by omega) ⟨by omega, IM5, CM5, (gFr.c gFr.rf FM5 rfl), hS⟩
        · refine g_aload_n (n := 24) X 0 dX11_holdsOut_23 rfl rfl rfl ?_
          refine gg_11_0 (n := 27) (z := 1) X (by decide) (gsz hsz (by decide)) lay_0 kw_2_231 dX11_holdsOut_24 rfl (rf_0_0 IM5 (gsz hsz (by decide))) (by decide) ?_
          refine gg_9_6 (n := 30) (z := 15) X (by decide) (gsz hsz (by decide)) lay_1 kw_2_119 dX11_holdsOut_27 rfl (rf_1_6 IM5 (gsz hsz (by decide))) (by decide) ?_
          refine g_iload_n (n := 31) X 1 dX11_holdsOut_30 rfl rfl rfl ?_
          refine g_callVv (n := 34) (As := [gJ a]) (rest := []) (cs1 := 0) (ss1 := 0) X (s_X2_doChoices a (by omega) hsz IM5 CM5 ) okX2_doChoices kw_5_179 ⟨kw_5_180, kw_5_181⟩ ⟨rfl, rfl⟩ ⟨Nat.le_of_ble_eq_true rfl, Nat.le_of_ble_eq_true rfl⟩ rfl (by decide) (gsz hsz (by decide)) lay_15 rfl rfl (Nat.le_of_ble_eq_true rfl) ⟨Nat.le_of_ble_eq_true rfl, Nat.le_of_ble_eq_true rfl⟩ rfl rfl dX11_holdsOut_31 rfl (fun M817 P818 => ?_)
          obtain ⟨IM817, CM817, FM817⟩ := P818
          refine g_aload_n (n := 35) X 0 dX11_holdsOut_34 rfl rfl rfl ?_
          refine gg_11_0 (n := 38) (z := 1) X (by decide) (gsz hsz (by decide)) lay_0 kw_2_231 dX11_holdsOut_35 rfl (rf_0_0 IM817 (gsz hsz (by decide))) (by decide) ?_
          refine gg_9_6 (n := 41) (z := 15) X (by decide) (gsz hsz (by decide)) lay_1 kw_2_119 dX11_holdsOut_38 rfl (rf_1_6 IM817 (gsz hsz (by decide))) (by decide) ?_
          refine g_iload (n := 43) X 4 dX11_holdsOut_41 rfl rfl ?_
          refine g_iload_n (n := 44) X 2 dX11_holdsOut_43 rfl rfl rfl ?_
          refine g_callVv (n := 47) (As := [gJ v4, gJ v1]) (rest := []) (cs1 := 0) (ss1 := 0) X (s_X2_tellRow v4 (by omega) v1 (by omega) hsz IM817 CM817 ) okX2_tellRow kw_5_184 ⟨kw_5_185, kw_5_186⟩ ⟨rfl, rfl⟩ ⟨Nat.le_of_ble_eq_true rfl, Nat.le_of_ble_eq_true rfl⟩ rfl (by decide) (gsz hsz (by decide)) lay_15 rfl rfl (Nat.le_of_ble_eq_true rfl) ⟨Nat.le_of_ble_eq_true rfl, Nat.le_of_ble_eq_true rfl⟩ rfl rfl dX11_holdsOut_44 rfl (fun M820 P821 => ?_)
          obtain ⟨IM820, CM820, FM820⟩ := P821
          refine g_iconst (n := 48) X dX11_holdsOut_47 rfl ?_
          refine g_istore (n := 50) (L' := [(5, gJ 0), (0, gA n0 0), (1, gJ a), (2, gJ v1), (3, gJ v3), (4, gJ v4)]) X dX11_holdsOut_48 (by decide) rfl rfl ?_
          have j825 : ∀ (N991 : Nat) (v822 v823 : Int) (M824 : gM) , (0 ≤ v822 ∧ v822 ≤ 1) → (0 ≤ v823 ∧ v823 ≤ 10) → gI sz M824 → gC sz M824 → gFr 16844880 M820 M824 → (10 - v823).toNat < N991 → G p l e R_X11_holdsOut s m args below meth cd n0 D cA 6 Q 0 0 M824 sz 50 [(0, gA n0 0), (1, gJ a), (2, gJ v1), (3, gJ v822), (4, gJ v4), (5, gJ v823)] [] := by
            intro N991; induction N991 with
            | zero => intro v822 v823 M824 rv822 rv823 IM824 CM824 FM824 hm993; exfalso; omega
            | succ N991 ih992 =>
              intro v822 v823 M824 rv822 rv823 IM824 CM824 FM824 hm993
              refine g_iload (n := 52) X 5 dX11_holdsOut_50 rfl rfl ?_
              refine g_aload_n (n := 53) X 0 dX11_holdsOut_52 rfl rfl rfl ?_
              refine gg_11_0 (n := 56) (z := 1) X (by decide) (gsz hsz (by decide)) lay_0 kw_2_231 dX11_holdsOut_53 rfl (rf_0_0 IM824 (gsz hsz (by decide))) (by decide) ?_
              refine gg_9_6 (n := 59) (z := 15) X (by decide) (gsz hsz (by decide)) lay_1 kw_2_119 dX11_holdsOut_56 rfl (rf_1_6 IM824 (gsz hsz (by decide))) (by decide) ?_
              refine gg_2_2 (n := 62) (z := 18) X (by decide) (gsz hsz (by decide)) lay_15 kw_1_102 dX11_holdsOut_59 rfl (rf_15_2 IM824 (gsz hsz (by decide))) (by decide) ?_
              refine g_iload (n := 64) X 4 dX11_holdsOut_62 rfl rfl ?_
              obtain ⟨v994, hv994, rv994⟩ := gRd IM824 (by decide) (gsz hsz (by decide)) (ra_18 v4).1
              refine g_iald2 (n := 65) (v := v994) X (by decide) (gsz hsz (by decide)) lay_18 (by omega) (by omega) (by decide) dX11_holdsOut_64 rfl hv994 ?_
              have hz995 : M824 18 v4 = M 18 v4 := (gFr.at ((gFr.c (gFr.c (gFr.c gFr.rf FM817 rfl) FM820 rfl) FM824 rfl) : gFr 16848976 M5 M824) (ra_18 v4).2.2 rfl).trans (hS.2.2.2.1 v4 (by omega) (by omega))
              have qhz995 := hfit v4 (by omega) (by omega)
              refine g_icmp_ge (n := 68) (tgt := 128) X dX11_holdsOut_65 (by decide) (by omega) (by omega) rfl (fun c996 => ?_) (fun c996 => ?_)
              · refine g_aload_n (n := 129) X 0 dX11_holdsOut_128 rfl rfl rfl ?_
                refine g_iload_n (n := 130) X 2 dX11_holdsOut_129 rfl rfl rfl ?_
                refine g_callVv (n := 133) (As := [gJ v1]) (rest := []) (cs1 := 0) (ss1 := 0) X (s_X11_bringBack v1 (by omega) hsz IM824 CM824 ) okX11_bringBack kw_5_188 ⟨kw_5_190, kw_0_37⟩ ⟨rfl, rfl⟩ ⟨Nat.le_of_ble_eq_true rfl, Nat.le_of_ble_eq_true rfl⟩ rfl (by decide) (gsz hsz (by decide)) lay_0 rfl rfl (Nat.le_of_ble_eq_true rfl) ⟨Nat.le_of_ble_eq_true rfl, Nat.le_of_ble_eq_true rfl⟩ rfl rfl dX11_holdsOut_130 rfl (fun M998 P999 => ?_)
                obtain ⟨IM998, CM998, FM998, xM998⟩ := P999
                refine g_iinc (n := 136) (w := v4 + 1) (L' := [(4, gJ (v4 + 1)), (0, gA n0 0), (1, gJ a), (2, gJ v1), (3, gJ v822), (5, gJ v823)]) X 4 dX11_holdsOut_133 rfl rfl (by decide) rfl rfl ?_
                refine g_goto (tgt := 13) X dX11_holdsOut_136 (by decide) ?_
                refine G.sub (L' := [(0, gA n0 0), (1, gJ a), (2, gJ v1), (3, gJ v822), (4, gJ (v4 + 1))]) [1, 2, 3, 4, 0] rfl ?_
                exact ih812 v822 (v4 + 1) M998 (by omega) (by omega) IM998 CM998 (gFr.c (gFr.c (gFr.c (gFr.c (gFr.c gFr.rf FM5 rfl) FM817 rfl) FM820 rfl) FM824 rfl) FM998 rfl) ⟨(fun i k h0 h1 hk => (xM998.1 i k h0 (by rw [(gFr.at ((gFr.c (gFr.c (gFr.c (gFr.c gFr.rf FM5 rfl) FM817 rfl) FM820 rfl) FM824 rfl) : gFr 16906360 M M824) rc_1_10.2.2 rfl)]; exact h1) hk).trans ((gFr.Q ((gFr.c (gFr.c (gFr.c (gFr.c gFr.rf FM5 rfl) FM817 rfl) FM820 rfl) FM824 rfl) : gFr 16906360 M M824) rfl (by omega) k).trans (hBf.1 i k h0 h1 hk))), (fun b h0 h1 => (xM998.2.1 b h0 h1).trans ((gFr.at ((gFr.c (gFr.c (gFr.c (gFr.c gFr.rf FM5 rfl) FM817 rfl) FM820 rfl) FM824 rfl) : gFr 16906360 M M824) (ra_163 b).2.2 rfl).trans (hBf.2.1 b h0 h1))), (fun b h0 h1 => (xM998.2.2.1 b h0 h1).trans ((gFr.at ((gFr.c (gFr.c (gFr.c (gFr.c gFr.rf FM5 rfl) FM817 rfl) FM820 rfl) FM824 rfl) : gFr 16906360 M M824) (ra_164 b).2.2 rfl).trans (hBf.2.2.1 b h0 h1))), (fun b h0 h1 => (xM998.2.2.2.1 b h0 h1).trans ((gFr.at ((gFr.c (gFr.c (gFr.c (gFr.c gFr.rf FM5 rfl) FM817 rfl) FM820 rfl) FM824 rfl) : gFr 16906360 M M824) (ra_165 b).2.2 rfl).trans (hBf.2.2.2.1 b h0 h1))), (fun b h0 h1 => (xM998.2.2.2.2.1 b h0 h1).trans ((gFr.at ((gFr.c (gFr.c (gFr.c (gFr.c gFr.rf FM5 rfl) FM817 rfl) FM820 rfl) FM824 rfl) : gFr 16906360 M M824) (ra_166 b).2.2 rfl).trans (hBf.2.2.2.2.1 b h0 h1))), (fun b h0 h1 => (xM998.2.2.2.2.2.1 b h0 h1).trans ((gFr.at ((gFr.c (gFr.c (gFr.c (gFr.c gFr.rf FM5 rfl) FM817 rfl) FM820 rfl) FM824 rfl) : gFr 16906360 M M824) (ra_167 b).2.2 rfl).trans (hBf.2.2.2.2.2.1 b h0 h1))), (fun b h0 h1 => (xM998.2.2.2.2.2.2.1 b h0 h1).trans ((gFr.at ((gFr.c (gFr.c (gFr.c (gFr.c gFr.rf FM5 rfl) FM817 rfl) FM820 rfl) FM824 rfl) : gFr 16906360 M M824) (ra_168 b).2.2 rfl).trans (hBf.2.2.2.2.2.2.1 b h0 h1))), (fun b h0 h1 => (xM998.2.2.2.2.2.2.2.1 b h0 h1).trans ((gFr.at ((gFr.c (gFr.c (gFr.c (gFr.c gFr.rf FM5 rfl) FM817 rfl) FM820 rfl) FM824 rfl) : gFr 16906360 M M824) (ra_169 b).2.2 rfl).trans (hBf.2.2.2.2.2.2.2.1 b h0 h1))), (xM998.2.2.2.2.2.2.2.2.1.trans ((gFr.at ((gFr.c (gFr.c (gFr.c (gFr.c gFr.rf FM5 rfl) FM817 rfl) FM820 rfl) FM824 rfl) : gFr 16906360 M M824) rc_162_7.2.2 rfl).trans hBf.2.2.2.2.2.2.2.2.1)), (xM998.2.2.2.2.2.2.2.2.2.1.trans ((gFr.at ((gFr.c (gFr.c (gFr.c (gFr.c gFr.rf FM5 rfl) FM817 rfl) FM820 rfl) FM824 rfl) : gFr 16906360 M M824) rc_162_8.2.2 rfl).trans hBf.2.2.2.2.2.2.2.2.2.1)), (xM998.2.2.2.2.2.2.2.2.2.2.1.trans ((gFr.at ((gFr.c (gFr.c (gFr.c (gFr.c gFr.rf FM5 rfl) FM817 rfl) FM820 rfl) FM824 rfl) : gFr 16906360 M M824) rc_162_9.2.2 rfl).trans hBf.2.2.2.2.2.2.2.2.2.2)), (xM998.2.2.2.2.2.2.2.2.2.2.2.trans hv1.symm)⟩ (by omega)
              · refine g_iload_n (n := 69) X 3 dX11_holdsOut_68 rfl rfl rfl ?_
                refine g_if_eq (n := 72) (tgt := 128) X dX11_holdsOut_69 (by decide) (by omega) rfl (fun c1000 => ?_) (fun c1000 => ?_)
                · refine g_aload_n (n := 129) X 0 dX11_holdsOut_128 rfl rfl rfl ?_
                  refine g_iload_n (n := 130) X 2 dX11_holdsOut_129 rfl rfl rfl ?_
                  refine g_callVv (n := 133) (As := [gJ v1]) (rest := []) (cs1 := 0) (ss1 := 0) X (s_X11_bringBack v1 (by omega) hsz IM824 CM824 ) okX11_bringBack kw_5_188 ⟨kw_5_190, kw_0_37⟩ ⟨rfl, rfl⟩ ⟨Nat.le_of_ble_eq_true rfl, Nat.le_of_ble_eq_true rfl⟩ rfl (by decide) (gsz hsz (by decide)) lay_0 rfl rfl (Nat.le_of_ble_eq_true rfl) ⟨Nat.le_of_ble_eq_true rfl, Nat.le_of_ble_eq_true rfl⟩ rfl rfl dX11_holdsOut_130 rfl (fun M1002 P1003 => ?_)
                  obtain ⟨IM1002, CM1002, FM1002, xM1002⟩ := P1003
                  refine g_iinc (n := 136) (w := v4 + 1) (L' := [(4, gJ (v4 + 1)), (0, gA n0 0), (1, gJ a), (2, gJ v1), (3, gJ v822), (5, gJ v823)]) X 4 dX11_holdsOut_133 rfl rfl (by decide) rfl rfl ?_
                  refine g_goto (tgt := 13) X dX11_holdsOut_136 (by decide) ?_
                  refine G.sub (L' := [(0, gA n0 0), (1, gJ a), (2, gJ v1), (3, gJ v822), (4, gJ (v4 + 1))]) [1, 2, 3, 4, 0] rfl ?_
                  exact ih812 v822 (v4 + 1) M1002 (by omega) (by omega) IM1002 CM1002 (gFr.c (gFr.c (gFr.c (gFr.c (gFr.c gFr.rf FM5 rfl) FM817 rfl) FM820 rfl) FM824 rfl) FM1002 rfl) ⟨(fun i k h0 h1 hk => (xM1002.1 i k h0 (by rw [(gFr.at ((gFr.c (gFr.c (gFr.c (gFr.c gFr.rf FM5 rfl) FM817 rfl) FM820 rfl) FM824 rfl) : gFr 16906360 M M824) rc_1_10.2.2 rfl)]; exact h1) hk).trans ((gFr.Q ((gFr.c (gFr.c (gFr.c (gFr.c gFr.rf FM5 rfl) FM817 rfl) FM820 rfl) FM824 rfl) : gFr 16906360 M M824) rfl (by omega) k).trans (hBf.1 i k h0 h1 hk))), (fun b h0 h1 => (xM1002.2.1 b h0 h1).trans ((gFr.at ((gFr.c (gFr.c (gFr.c (gFr.c gFr.rf FM5 rfl) FM817 rfl) FM820 rfl) FM824 rfl) : gFr 16906360 M M824) (ra_163 b).2.2 rfl).trans (hBf.2.1 b h0 h1))), (fun b h0 h1 => (xM1002.2.2.1 b h0 h1).trans ((gFr.at ((gFr.c (gFr.c (gFr.c (gFr.c gFr.rf FM5 rfl) FM817 rfl) FM820 rfl) FM824 rfl) : gFr 16906360 M M824) (ra_164 b).2.2 rfl).trans (hBf.2.2.1 b h0 h1))), (fun b h0 h1 => (xM1002.2.2.2.1 b h0 h1).trans ((gFr.at ((gFr.c (gFr.c (gFr.c (gFr.c gFr.rf FM5 rfl) FM817 rfl) FM820 rfl) FM824 rfl) : gFr 16906360 M M824) (ra_165 b).2.2 rfl).trans (hBf.2.2.2.1 b h0 h1))), (fun b h0 h1 => (xM1002.2.2.2.2.1 b h0 h1).trans ((gFr.at ((gFr.c (gFr.c (gFr.c (gFr.c gFr.rf FM5 rfl) FM817 rfl) FM820 rfl) FM824 rfl) : gFr 16906360 M M824) (ra_166 b).2.2 rfl).trans (hBf.2.2.2.2.1 b h0 h1))), (fun b h0 h1 => (xM1002.2.2.2.2.2.1 b h0 h1).trans ((gFr.at ((gFr.c (gFr.c (gFr.c (gFr.c gFr.rf FM5 rfl) FM817 rfl) FM820 rfl) FM824 rfl) : gFr 16906360 M M824) (ra_167 b).2.2 rfl).trans (hBf.2.2.2.2.2.1 b h0 h1))), (fun b h0 h1 => (xM1002.2.2.2.2.2.2.1 b h0 h1).trans ((gFr.at ((gFr.c (gFr.c (gFr.c (gFr.c gFr.rf FM5 rfl) FM817 rfl) FM820 rfl) FM824 rfl) : gFr 16906360 M M824) (ra_168 b).2.2 rfl).trans (hBf.2.2.2.2.2.2.1 b h0 h1))), (fun b h0 h1 => (xM1002.2.2.2.2.2.2.2.1 b h0 h1).trans ((gFr.at ((gFr.c (gFr.c (gFr.c (gFr.c gFr.rf FM5 rfl) FM817 rfl) FM820 rfl) FM824 rfl) : gFr 16906360 M M824) (ra_169 b).2.2 rfl).trans (hBf.2.2.2.2.2.2.2.1 b h0 h1))), (xM1002.2.2.2.2.2.2.2.2.1.trans ((gFr.at ((gFr.c (gFr.c (gFr.c (gFr.c gFr.rf FM5 rfl) FM817 rfl) FM820 rfl) FM824 rfl) : gFr 16906360 M M824) rc_162_7.2.2 rfl).trans hBf.2.2.2.2.2.2.2.2.1)), (xM1002.2.2.2.2.2.2.2.2.2.1.trans ((gFr.at ((gFr.c (gFr.c (gFr.c (gFr.c gFr.rf FM5 rfl) FM817 rfl) FM820 rfl) FM824 rfl) : gFr 16906360 M M824) rc_162_8.2.2 rfl).trans hBf.2.2.2.2.2.2.2.2.2.1)), (xM1002.2.2.2.2.2.2.2.2.2.2.1.trans ((gFr.at ((gFr.c (gFr.c (gFr.c (gFr.c gFr.rf FM5 rfl) FM817 rfl) FM820 rfl) FM824 rfl) : gFr 16906360 M M824) rc_162_9.2.2 rfl).trans hBf.2.2.2.2.2.2.2.2.2.2)), (xM1002.2.2.2.2.2.2.2.2.2.2.2.trans hv1.symm)⟩ (by omega)
                · refine g_aload_n (n := 73) X 0 dX11_holdsOut_72 rfl rfl rfl ?_
                  refine gg_11_0 (n := 76) (z := 1) X (by decide) (gsz hsz (by decide)) lay_0 kw_2_231 dX11_holdsOut_73 rfl (rf_0_0 IM824 (gsz hsz (by decide))) (by decide) ?_
                  refine g_iconst (n := 77) X dX11_holdsOut_76 rfl ?_
                  refine g_callVv (n := 80) (As := [gJ 1]) (rest := []) (cs1 := 0) (ss1 := 0) X (s_X9_goBy 1 (by omega) hsz IM824 CM824 ) okX9_goBy kw_4_185 ⟨kw_4_186, kw_4_187⟩ ⟨rfl, rfl⟩ ⟨Nat.le_of_ble_eq_true rfl, Nat.le_of_ble_eq_true rfl⟩ rfl (by decide) (gsz hsz (by decide)) lay_1 rfl rfl (Nat.le_of_ble_eq_true rfl) ⟨Nat.le_of_ble_eq_true rfl, Nat.le_of_ble_eq_true rfl⟩ rfl rfl dX11_holdsOut_77 rfl (fun M1005 P1006 => ?_)
                  obtain ⟨IM1005, CM1005, FM1005, xM1005⟩ := P1006
                  refine g_aload_n (n := 81) X 0 dX11_holdsOut_80 rfl rfl rfl ?_
                  refine gg_11_0 (n := 84) (z := 1) X (by decide) (gsz hsz (by decide)) lay_0 kw_2_231 dX11_holdsOut_81 rfl (rf_0_0 IM1005 (gsz hsz (by decide))) (by decide) ?_
                  refine gg_9_7 (n := 87) (z := 23) X (by decide) (gsz hsz (by decide)) lay_1 kw_2_121 dX11_holdsOut_84 rfl (rf_1_7 IM1005 (gsz hsz (by decide))) (by decide) ?_
                  refine g_iload_n (n := 88) X 2 dX11_holdsOut_87 rfl rfl rfl ?_
                  refine g_iload (n := 90) X 5 dX11_holdsOut_88 rfl rfl ?_
                  refine g_iadd (n := 91) (z := v1 + v823) X dX11_holdsOut_90 rfl rfl ?_
                  refine g_iconst (n := 92) X dX11_holdsOut_91 rfl ?_
                  refine g_callVi (n := 95) (As := [gJ (v1 + v823), gJ 2]) (rest := []) (cs1 := 0) (ss1 := 0) X (s_X5_sum (v1 + v823) (by omega) 2 (by omega) hsz IM1005 CM1005 ) okX5_sum kw_5_19 ⟨kw_4_178, kw_4_179⟩ ⟨rfl, rfl⟩ ⟨Nat.le_of_ble_eq_true rfl, Nat.le_of_ble_eq_true rfl⟩ rfl (by decide) (gsz hsz (by decide)) lay_23 rfl rfl (Nat.le_of_ble_eq_true rfl) ⟨Nat.le_of_ble_eq_true rfl, Nat.le_of_ble_eq_true rfl⟩ rfl rfl dX11_holdsOut_92 rfl (fun v1007 M1008 P1009 => ?_)
                  obtain ⟨rfl, rv1007⟩ := P1009
                  refine g_if_ne (n := 98) (tgt := 120) X dX11_holdsOut_95 (by decide) (by omega) rfl (fun c1010 => ?_) (fun c1010 => ?_)
                  · refine g_iconst (n := 121) X dX11_holdsOut_120 rfl ?_
                    refine g_istore_n (n := 122) (L' := [(3, gJ 0), (0, gA n0 0), (1, gJ a), (2, gJ v1), (4, gJ v4), (5, gJ v823)]) X dX11_holdsOut_121 rfl (by decide) rfl rfl ?_
                    refine g_iinc (n := 125) (w := v823 + 1) (L' := [(5, gJ (v823 + 1)), (3, gJ 0), (0, gA n0 0), (1, gJ a), (2, gJ v1), (4, gJ v4)]) X 5 dX11_holdsOut_122 rfl rfl (by decide) rfl rfl ?_
                    refine g_goto (tgt := 50) X dX11_holdsOut_125 (by decide) ?_
                    refine G.sub (L' := [(0, gA n0 0), (1, gJ a), (2, gJ v1), (3, gJ 0), (4, gJ v4), (5, gJ (v823 + 1))]) [2, 3, 4, 1, 5, 0] rfl ?_
                    exact ih992 0 (v823 + 1) M1005 (by omega) (by omega) IM1005 CM1005 (gFr.c (gFr.c gFr.rf FM824 rfl) FM1005 rfl) (by omega)
                  · refine g_aload_n (n := 99) X 0 dX11_holdsOut_98 rfl rfl rfl ?_
                    refine gg_11_0 (n := 102) (z := 1) X (by decide) (gsz hsz (by decide)) lay_0 kw_2_231 dX11_holdsOut_99 rfl (rf_0_0 IM1005 (gsz hsz (by decide))) (by decide) ?_
                    refine gg_9_7 (n := 105) (z := 23) X (by decide) (gsz hsz (by decide)) lay_1 kw_2_121 dX11_holdsOut_102 rfl (rf_1_7 IM1005 (gsz hsz (by decide))) (by decide) ?_
                    refine g_iload_n (n := 106) X 2 dX11_holdsOut_105 rfl rfl rfl ?_
                    refine g_iload (n := 108) X 5 dX11_holdsOut_106 rfl rfl ?_
                    refine g_iadd (n := 109) (z := v1 + v823) X dX11_holdsOut_108 rfl rfl ?_
                    refine g_iconst (n := 110) X dX11_holdsOut_109 rfl ?_
                    refine g_callVi (n := 113) (As := [gJ (v1 + v823), gJ 4]) (rest := []) (cs1 := 0) (ss1 := 0) X (s_X5_sum (v1 + v823) (by omega) 4 (by omega) hsz IM1005 CM1005 ) okX5_sum kw_5_19 ⟨kw_4_178, kw_4_179⟩ ⟨rfl, rfl⟩ ⟨Nat.le_of_ble_eq_true rfl, Nat.le_of_ble_eq_true rfl⟩ rfl (by decide) (gsz hsz (by decide)) lay_23 rfl rfl (Nat.le_of_ble_eq_true rfl) ⟨Nat.le_of_ble_eq_true rfl, Nat.le_of_ble_eq_true rfl⟩ rfl rfl dX11_holdsOut_110 rfl (fun v1011 M1012 P1013 => ?_)
                    obtain ⟨rfl, rv1011⟩ := P1013
                    refine g_if_ne (n := 116) (tgt := 120) X dX11_holdsOut_113 (by decide) (by omega) rfl (fun c1014 => ?_) (fun c1014 => ?_)
                    · refine g_iconst (n := 121) X dX11_holdsOut_120 rfl ?_
                      refine g_istore_n (n := 122) (L' := [(3, gJ 0), (0, gA n0 0), (1, gJ a), (2, gJ v1), (4, gJ v4), (5, gJ v823)]) X dX11_holdsOut_121 rfl (by decide) rfl rfl ?_
                      refine g_iinc (n := 125) (w := v823 + 1) (L' := [(5, gJ (v823 + 1)), (3, gJ 0), (0, gA n0 0), (1, gJ a), (2, gJ v1), (4, gJ v4)]) X 5 dX11_holdsOut_122 rfl rfl (by decide) rfl rfl ?_
                      refine g_goto (tgt := 50) X dX11_holdsOut_125 (by decide) ?_
                      refine G.sub (L' := [(0, gA n0 0), (1, gJ a), (2, gJ v1), (3, gJ 0), (4, gJ v4), (5, gJ (v823 + 1))]) [2, 3, 4, 1, 5, 0] rfl ?_
                      exact ih992 0 (v823 + 1) M1005 (by omega) (by omega) IM1005 CM1005 (gFr.c (gFr.c gFr.rf FM824 rfl) FM1005 rfl) (by omega)
                    · refine g_iconst (n := 117) X dX11_holdsOut_116 rfl ?_
                      refine g_goto (tgt := 121) X dX11_holdsOut_117 (by decide) ?_
                      refine g_istore_n (n := 122) (L' := [(3, gJ 1), (0, gA n0 0), (1, gJ a), (2, gJ v1), (4, gJ v4), (5, gJ v823)]) X dX11_holdsOut_121 rfl (by decide) rfl rfl ?_
                      refine g_iinc (n := 125) (w := v823 + 1) (L' := [(5, gJ (v823 + 1)), (3, gJ 1), (0, gA n0 0), (1, gJ a), (2, gJ v1), (4, gJ v4)]) X 5 dX11_holdsOut_122 rfl rfl (by decide) rfl rfl ?_
                      refine g_goto (tgt := 50) X dX11_holdsOut_125 (by decide) ?_
                      refine G.sub (L' := [(0, gA n0 0), (1, gJ a), (2, gJ v1), (3, gJ 1), (4, gJ v4), (5, gJ (v823 + 1))]) [2, 3, 4, 1, 5, 0] rfl ?_
                      exact ih992 1 (v823 + 1) M1005 (by omega) (by omega) IM1005 CM1005 (gFr.c (gFr.c gFr.rf FM824 rfl) FM1005 rfl) (by omega)
          refine G.sub (L' := [(0, gA n0 0), (1, gJ a), (2, gJ v1), (3, gJ v3), (4, gJ v4), (5, gJ 0)]) [1, 2, 3, 4, 5, 0] rfl ?_
          exact j825 _ v3 0 M820 (by omega) (by omega) IM820 CM820 gFr.rf (Nat.lt_succ_self _)
  refine G.sub (L' := [(0, gA n0 0), (1, gJ a), (2, gJ v1), (3, gJ 1), (4, gJ 0)]) [3, 4, 2, 1, 0] rfl ?_
  exact j6 _ 1 0 M (by omega) (by omega) I C gFr.rf gSm.rf (Nat.lt_succ_self _)
theorem dX11_plan_0 : decode cX11_plan 0 = .ok (.iload_n 1, 1) := dc_27 (by decide +kernel)
theorem dX11_plan_1 : decode cX11_plan 1 = .ok (.iconst 0, 1) := dc_3 (by decide +kernel)
theorem dX11_plan_2 : decode cX11_plan 2 = .ok (.iconst 1, 1) := dc_4 (by decide +kernel)
theorem dX11_plan_3 : decode cX11_plan 3 = .ok (.invokestatic 62, 3) := dc_184 0 62 (by decide +kernel)
theorem dX11_plan_6 : decode cX11_plan 6 = .ok (.ifCond .ne 5, 3) := dc_154 0 5 5 (by decide +kernel)
theorem dX11_plan_11 : decode cX11_plan 11 = .ok (.aload_n 0, 1) := dc_42 (by decide +kernel)
theorem dX11_plan_12 : decode cX11_plan 12 = .ok (.invokevirtual 380, 3) := dc_182 1 124 (by decide +kernel)
theorem kw_5_149 : (Jvm.Cond.methodLink "ParishUnion" (380 : Nat) ({ cls := "ParishUnion", name := "rowsCanBeTried", desc := "()Z" } : Jvm.MethodName)) ∈ gT := gT_of (tb_5 _ (List.mem_of_getElem? (i := 149) rfl)) rfl
theorem kw_5_152 : (Jvm.Cond.code ({ cls := "ParishUnion", name := "rowsCanBeTried", desc := "()Z" } : Jvm.MethodName) prog_1_method_64_code (3 : Nat) (Option.some Jvm.ClassFile.FieldType.boolean)) ∈ gT := gT_of (tb_5 _ (List.mem_of_getElem? (i := 152) rfl)) rfl
theorem okX11_rowsCanBeTried : gQok yX11_rowsCanBeTried cX11_rowsCanBeTried 3 (Option.some Jvm.ClassFile.FieldType.boolean) 0 := ⟨kw_5_152, kw_1_1, by decide +kernel, by decide +kernel, by decide +kernel⟩
theorem kw_5_151 : (Jvm.Cond.instanceMethod ({ cls := "ParishUnion", name := "rowsCanBeTried", desc := "()Z" } : Jvm.MethodName)) ∈ gT := gT_of (tb_5 _ (List.mem_of_getElem? (i := 151) rfl)) rfl
theorem kw_0_33 : (Jvm.Cond.selects "ParishUnion" ({ cls := "ParishUnion", name := "rowsCanBeTried", desc := "()Z" } : Jvm.MethodName) ({ cls := "ParishUnion", name := "rowsCanBeTried", desc := "()Z" } : Jvm.MethodName)) ∈ gT := gT_of (tb_0 _ (List.mem_of_getElem? (i := 33) rfl)) rfl
theorem dX11_plan_15 : decode cX11_plan 15 = .ok (.ifCond .ne 6, 3) := dc_154 0 6 6 (by decide +kernel)
theorem dX11_plan_21 : decode cX11_plan 21 = .ok (.aload_n 0, 1) := dc_42 (by decide +kernel)
theorem dX11_plan_22 : decode cX11_plan 22 = .ok (.invokevirtual 231, 3) := dc_182 0 231 (by decide +kernel)
theorem dX11_plan_25 : decode cX11_plan 25 = .ok (.aload_n 0, 1) := dc_42 (by decide +kernel)
theorem dX11_plan_26 : decode cX11_plan 26 = .ok (.invokevirtual 383, 3) := dc_182 1 127 (by decide +kernel)
theorem kw_5_157 : (Jvm.Cond.methodLink "ParishUnion" (383 : Nat) ({ cls := "ParishUnion", name := "rememberBefore", desc := "()V" } : Jvm.MethodName)) ∈ gT := gT_of (tb_5 _ (List.mem_of_getElem? (i := 157) rfl)) rfl
theorem kw_5_160 : (Jvm.Cond.code ({ cls := "ParishUnion", name := "rememberBefore", desc := "()V" } : Jvm.MethodName) prog_1_method_67_code (2 : Nat) (Option.none : Option Jvm.ClassFile.FieldType)) ∈ gT := gT_of (tb_5 _ (List.mem_of_getElem? (i := 160) rfl)) rfl
theorem okX11_rememberBefore : gQok yX11_rememberBefore cX11_rememberBefore 2 (Option.none : Option Jvm.ClassFile.FieldType) 0 := ⟨kw_5_160, kw_1_1, by decide +kernel, by decide +kernel, by decide +kernel⟩
theorem kw_5_159 : (Jvm.Cond.instanceMethod ({ cls := "ParishUnion", name := "rememberBefore", desc := "()V" } : Jvm.MethodName)) ∈ gT := gT_of (tb_5 _ (List.mem_of_getElem? (i := 159) rfl)) rfl
theorem kw_0_35 : (Jvm.Cond.selects "ParishUnion" ({ cls := "ParishUnion", name := "rememberBefore", desc := "()V" } : Jvm.MethodName) ({ cls := "ParishUnion", name := "rememberBefore", desc := "()V" } : Jvm.MethodName)) ∈ gT := gT_of (tb_0 _ (List.mem_of_getElem? (i := 35) rfl)) rfl
theorem dX11_plan_29 : decode cX11_plan 29 = .ok (.iconst (-1), 1) := dc_2 (by decide +kernel)
theorem dX11_plan_30 : decode cX11_plan 30 = .ok (.istore_n 2, 1) := dc_61 (by decide +kernel)
theorem dX11_plan_31 : decode cX11_plan 31 = .ok (.iconst 0, 1) := dc_3 (by decide +kernel)
theorem dX11_plan_32 : decode cX11_plan 32 = .ok (.istore_n 3, 1) := dc_62 (by decide +kernel)
theorem dX11_plan_33 : decode cX11_plan 33 = .ok (.iconst 0, 1) := dc_3 (by decide +kernel)
theorem dX11_plan_34 : decode cX11_plan 34 = .ok (.istore 4, 2) := dc_54 4 (by decide +kernel)
theorem dX11_plan_36 : decode cX11_plan 36 = .ok (.iload 4, 2) := dc_21 4 (by decide +kernel)
theorem dX11_plan_38 : decode cX11_plan 38 = .ok (.iconst 1, 1) := dc_4 (by decide +kernel)
theorem dX11_plan_39 : decode cX11_plan 39 = .ok (.aload_n 0, 1) := dc_42 (by decide +kernel)
theorem dX11_plan_40 : decode cX11_plan 40 = .ok (.getfield 10, 3) := dc_180 0 10 (by decide +kernel)
theorem dX11_plan_43 : decode cX11_plan 43 = .ok (.getfield 279, 3) := dc_180 1 23 (by decide +kernel)
theorem dX11_plan_46 : decode cX11_plan 46 = .ok (.getfield 367, 3) := dc_180 1 111 (by decide +kernel)
theorem dX11_plan_49 : decode cX11_plan 49 = .ok (.ishl, 1) := dc_120 (by decide +kernel)
theorem dX11_plan_50 : decode cX11_plan 50 = .ok (.if_icmp .ge 79, 3) := dc_162 0 79 79 (by decide +kernel)
theorem dX11_plan_129 : decode cX11_plan 129 = .ok (.iload_n 2, 1) := dc_28 (by decide +kernel)
theorem dX11_plan_130 : decode cX11_plan 130 = .ok (.iconst (-1), 1) := dc_2 (by decide +kernel)
theorem dX11_plan_131 : decode cX11_plan 131 = .ok (.if_icmp .ne 6, 3) := dc_160 0 6 6 (by decide +kernel)
theorem dX11_plan_134 : decode cX11_plan 134 = .ok (.bipush (-5), 2) := dc_16 251 (-5) (by decide +kernel)
theorem dX11_plan_136 : decode cX11_plan 136 = .ok (.ireturn, 1) := dc_172 (by decide +kernel)
theorem dX11_plan_53 : decode cX11_plan 53 = .ok (.aload_n 0, 1) := dc_42 (by decide +kernel)
theorem dX11_plan_54 : decode cX11_plan 54 = .ok (.getfield 10, 3) := dc_180 0 10 (by decide +kernel)
theorem dX11_plan_57 : decode cX11_plan 57 = .ok (.getfield 279, 3) := dc_180 1 23 (by decide +kernel)
theorem dX11_plan_60 : decode cX11_plan 60 = .ok (.iload 4, 2) := dc_21 4 (by decide +kernel)
theorem dX11_plan_62 : decode cX11_plan 62 = .ok (.invokevirtual 386, 3) := dc_182 1 130 (by decide +kernel)
theorem kw_5_170 : (Jvm.Cond.methodLink "ParishUnion" (386 : Nat) ({ cls := "ParishUnion$House", name := "costOfSet", desc := "(I)I" } : Jvm.MethodName)) ∈ gT := gT_of (tb_5 _ (List.mem_of_getElem? (i := 170) rfl)) rfl
theorem kw_5_173 : (Jvm.Cond.code ({ cls := "ParishUnion$House", name := "costOfSet", desc := "(I)I" } : Jvm.MethodName) prog_4_method_4_code (4 : Nat) (Option.some Jvm.ClassFile.FieldType.int)) ∈ gT := gT_of (tb_5 _ (List.mem_of_getElem? (i := 173) rfl)) rfl
theorem okX2_costOfSet : gQok yX2_costOfSet cX2_costOfSet 4 (Option.some Jvm.ClassFile.FieldType.int) 1 := ⟨kw_5_173, kw_1_5, by decide +kernel, by decide +kernel, by decide +kernel⟩
theorem kw_5_171 : (Jvm.Cond.instanceMethod ({ cls := "ParishUnion$House", name := "costOfSet", desc := "(I)I" } : Jvm.MethodName)) ∈ gT := gT_of (tb_5 _ (List.mem_of_getElem? (i := 171) rfl)) rfl
theorem kw_5_172 : (Jvm.Cond.selects "ParishUnion$House" ({ cls := "ParishUnion$House", name := "costOfSet", desc := "(I)I" } : Jvm.MethodName) ({ cls := "ParishUnion$House", name := "costOfSet", desc := "(I)I" } : Jvm.MethodName)) ∈ gT := gT_of (tb_5 _ (List.mem_of_getElem? (i := 172) rfl)) rfl
theorem dX11_plan_65 : decode cX11_plan 65 = .ok (.istore 5, 2) := dc_54 5 (by decide +kernel)
theorem dX11_plan_67 : decode cX11_plan 67 = .ok (.iload_n 2, 1) := dc_28 (by decide +kernel)
theorem dX11_plan_68 : decode cX11_plan 68 = .ok (.iconst (-1), 1) := dc_2 (by decide +kernel)
theorem dX11_plan_69 : decode cX11_plan 69 = .ok (.if_icmp .eq 27, 3) := dc_159 0 27 27 (by decide +kernel)
theorem dX11_plan_96 : decode cX11_plan 96 = .ok (.iconst 1, 1) := dc_4 (by decide +kernel)
theorem dX11_plan_97 : decode cX11_plan 97 = .ok (.goto 4, 3) := dc_167 0 4 4 (by decide +kernel)
theorem dX11_plan_101 : decode cX11_plan 101 = .ok (.istore 6, 2) := dc_54 6 (by decide +kernel)
theorem dX11_plan_103 : decode cX11_plan 103 = .ok (.iload 6, 2) := dc_21 6 (by decide +kernel)
theorem dX11_plan_105 : decode cX11_plan 105 = .ok (.ifCond .eq 18, 3) := dc_153 0 18 18 (by decide +kernel)
theorem dX11_plan_108 : decode cX11_plan 108 = .ok (.aload_n 0, 1) := dc_42 (by decide +kernel)
theorem dX11_plan_109 : decode cX11_plan 109 = .ok (.iload 4, 2) := dc_21 4 (by decide +kernel)
theorem dX11_plan_111 : decode cX11_plan 111 = .ok (.invokevirtual 394, 3) := dc_182 1 138 (by decide +kernel)
theorem kw_5_175 : (Jvm.Cond.methodLink "ParishUnion" (394 : Nat) ({ cls := "ParishUnion", name := "holdsOut", desc := "(I)Z" } : Jvm.MethodName)) ∈ gT := gT_of (tb_5 _ (List.mem_of_getElem? (i := 175) rfl)) rfl
theorem kw_5_178 : (Jvm.Cond.code ({ cls := "ParishUnion", name := "holdsOut", desc := "(I)Z" } : Jvm.MethodName) prog_1_method_65_code (6 : Nat) (Option.some Jvm.ClassFile.FieldType.boolean)) ∈ gT := gT_of (tb_5 _ (List.mem_of_getElem? (i := 178) rfl)) rfl
theorem okX11_holdsOut : gQok yX11_holdsOut cX11_holdsOut 6 (Option.some Jvm.ClassFile.FieldType.boolean) 1 := ⟨kw_5_178, kw_1_1, by decide +kernel, by decide +kernel, by decide +kernel⟩
theorem kw_5_177 : (Jvm.Cond.instanceMethod ({ cls := "ParishUnion", name := "holdsOut", desc := "(I)Z" } : Jvm.MethodName)) ∈ gT := gT_of (tb_5 _ (List.mem_of_getElem? (i := 177) rfl)) rfl
theorem kw_0_36 : (Jvm.Cond.selects "ParishUnion" ({ cls := "ParishUnion", name := "holdsOut", desc := "(I)Z" } : Jvm.MethodName) ({ cls := "ParishUnion", name := "holdsOut", desc := "(I)Z" } : Jvm.MethodName)) ∈ gT := gT_of (tb_0 _ (List.mem_of_getElem? (i := 36) rfl)) rfl
theorem dX11_plan_114 : decode cX11_plan 114 = .ok (.ifCond .eq 9, 3) := dc_153 0 9 9 (by decide +kernel)
theorem dX11_plan_123 : decode cX11_plan 123 = .ok (.iinc 4 1, 3) := dc_132 4 1 1 (by decide +kernel)
theorem dX11_plan_126 : decode cX11_plan 126 = .ok (.goto (-90), 3) := dc_167 255 166 (-90) (by decide +kernel)
theorem dX11_plan_117 : decode cX11_plan 117 = .ok (.iload 4, 2) := dc_21 4 (by decide +kernel)
theorem dX11_plan_119 : decode cX11_plan 119 = .ok (.istore_n 2, 1) := dc_61 (by decide +kernel)
theorem dX11_plan_120 : decode cX11_plan 120 = .ok (.iload 5, 2) := dc_21 5 (by decide +kernel)
theorem dX11_plan_122 : decode cX11_plan 122 = .ok (.istore_n 3, 1) := dc_62 (by decide +kernel)
theorem dX11_plan_137 : decode cX11_plan 137 = .ok (.iload_n 1, 1) := dc_27 (by decide +kernel)
theorem dX11_plan_138 : decode cX11_plan 138 = .ok (.ifCond .ne 7, 3) := dc_154 0 7 7 (by decide +kernel)
theorem dX11_plan_145 : decode cX11_plan 145 = .ok (.iload_n 3, 1) := dc_29 (by decide +kernel)
theorem dX11_plan_146 : decode cX11_plan 146 = .ok (.ireturn, 1) := dc_172 (by decide +kernel)
theorem dX11_plan_141 : decode cX11_plan 141 = .ok (.iload_n 2, 1) := dc_28 (by decide +kernel)
theorem dX11_plan_142 : decode cX11_plan 142 = .ok (.goto 4, 3) := dc_167 0 4 4 (by decide +kernel)
theorem dX11_plan_72 : decode cX11_plan 72 = .ok (.iload 5, 2) := dc_21 5 (by decide +kernel)
theorem dX11_plan_74 : decode cX11_plan 74 = .ok (.iload_n 3, 1) := dc_29 (by decide +kernel)
theorem dX11_plan_75 : decode cX11_plan 75 = .ok (.if_icmp .lt 21, 3) := dc_161 0 21 21 (by decide +kernel)
theorem dX11_plan_78 : decode cX11_plan 78 = .ok (.iload 5, 2) := dc_21 5 (by decide +kernel)
theorem dX11_plan_80 : decode cX11_plan 80 = .ok (.iload_n 3, 1) := dc_29 (by decide +kernel)
theorem dX11_plan_81 : decode cX11_plan 81 = .ok (.if_icmp .ne 19, 3) := dc_160 0 19 19 (by decide +kernel)
theorem dX11_plan_100 : decode cX11_plan 100 = .ok (.iconst 0, 1) := dc_3 (by decide +kernel)
theorem dX11_plan_84 : decode cX11_plan 84 = .ok (.iload 4, 2) := dc_21 4 (by decide +kernel)
theorem dX11_plan_86 : decode cX11_plan 86 = .ok (.invokestatic 389, 3) := dc_184 1 133 (by decide +kernel)
theorem kw_5_174 : (Jvm.Cond.methodLink "ParishUnion" (389 : Nat) ({ cls := "java/lang/Integer", name := "bitCount", desc := "(I)I" } : Jvm.MethodName)) ∈ gT := gT_of (tb_5 _ (List.mem_of_getElem? (i := 174) rfl)) rfl
theorem dX11_plan_89 : decode cX11_plan 89 = .ok (.iload_n 2, 1) := dc_28 (by decide +kernel)
theorem dX11_plan_90 : decode cX11_plan 90 = .ok (.invokestatic 389, 3) := dc_184 1 133 (by decide +kernel)
theorem dX11_plan_93 : decode cX11_plan 93 = .ok (.if_icmp .ge 7, 3) := dc_162 0 7 7 (by decide +kernel)
theorem dX11_plan_18 : decode cX11_plan 18 = .ok (.bipush (-3), 2) := dc_16 253 (-3) (by decide +kernel)
theorem dX11_plan_20 : decode cX11_plan 20 = .ok (.ireturn, 1) := dc_172 (by decide +kernel)
theorem dX11_plan_9 : decode cX11_plan 9 = .ok (.iconst (-1), 1) := dc_2 (by decide +kernel)
theorem dX11_plan_10 : decode cX11_plan 10 = .ok (.ireturn, 1) := dc_172 (by decide +kernel)
abbrev R_X11_plan : Room := { frames := 8, cells := 0, slots := 0, locals := 217 }
set_option maxRecDepth 100000 in
set_option maxHeartbeats 4000000 in
theorem s_X11_plan {l : Launch} {n0 : Nat} {D : va_G} {cA : Nat → ClassId} {M : gM} (a : Int) (r_a : -2147483648 ≤ a ∧ a ≤ 2147483647) {sz : Nat} (hsz : 206 ≤ sz) (I : gI sz M) (C : gC sz M)   : Met l yX11_plan (gWsOf yX11_plan cX11_plan 7 (Option.some Jvm.ClassFile.FieldType.int)) R_X11_plan (gPc n0 D cA [gA n0 0, gJ a] M sz) (gQi n0 D cA sz (fun z M1 => (-2147483648 ≤ z ∧ z ≤ 2147483647) ∧ gI sz M1 ∧ gC sz M1 ∧ gFr 3271686264 M M1 ∧ (gSm11 M M1))) 0 0 (fun q => n0 ≤ q) := by
  refine gMetI [gA n0 0, gJ a] (by decide) (Nat.le_of_ble_eq_true rfl) ⟨rfl, rfl⟩ ?_
  intro p e s m args below meth cd Q X hq
  have X : gCx p s m args meth cd n0 D cA "ParishUnion" cX11_plan 7 := X
  show G p l e R_X11_plan s m args below meth cd n0 D cA 7 Q 0 0 M sz 0 [(0, gA n0 0), (1, gJ a)] []
  obtain ⟨v1, hv1, rv1⟩ := gRd I (by decide) (gsz hsz (by decide)) rc_1_10.1
  refine g_iload_n (n := 1) X 1 dX11_plan_0 rfl rfl rfl ?_
  refine g_iconst (n := 2) X dX11_plan_1 rfl ?_
  refine g_iconst (n := 3) X dX11_plan_2 rfl ?_
  refine g_callSi (n := 6) (As := [gJ a, gJ 0, gJ 1]) (rest := []) (cs1 := 0) (ss1 := 0) X (s_X11_within a (by omega) 0 (by omega) 1 (by omega) hsz I C ) okX11_within kw_3_29 kw_3_30 ⟨rfl, rfl⟩ ⟨Nat.le_of_ble_eq_true rfl, Nat.le_of_ble_eq_true rfl⟩ rfl rfl (Nat.le_of_ble_eq_true rfl) ⟨Nat.le_of_ble_eq_true rfl, Nat.le_of_ble_eq_true rfl⟩ rfl rfl dX11_plan_3 rfl (fun v2 M3 P4 => ?_)
  obtain ⟨rfl, rv2, xv2⟩ := P4
  refine g_if_ne (n := 9) (tgt := 11) X dX11_plan_6 (by decide) (by omega) rfl (fun c5 => ?_) (fun c5 => ?_)
  · refine g_aload_n (n := 12) X 0 dX11_plan_11 rfl rfl rfl ?_
    refine g_callVi (n := 15) (As := []) (rest := []) (cs1 := 0) (ss1 := 0) X (s_X11_rowsCanBeTried2  hsz I C ) okX11_rowsCanBeTried kw_5_149 ⟨kw_5_151, kw_0_33⟩ ⟨rfl, rfl⟩ ⟨Nat.le_of_ble_eq_true rfl, Nat.le_of_ble_eq_true rfl⟩ rfl (by decide) (gsz hsz (by decide)) lay_0 rfl rfl (Nat.le_of_ble_eq_true rfl) ⟨Nat.le_of_ble_eq_true rfl, Nat.le_of_ble_eq_true rfl⟩ rfl rfl dX11_plan_12 rfl (fun v6 M7 P8 => ?_)
    obtain ⟨rfl, rv6, xv6⟩ := P8
    refine g_if_ne (n := 18) (tgt := 21) X dX11_plan_15 (by decide) (by omega) rfl (fun c9 => ?_) (fun c9 => ?_)
    · refine g_aload_n (n := 22) X 0 dX11_plan_21 rfl rfl rfl ?_
      refine g_callVv (n := 25) (As := []) (rest := []) (cs1 := 0) (ss1 := 0) X (s_X11_findHomes  hsz I C ) okX11_findHomes kw_4_97 ⟨kw_4_99, kw_0_17⟩ ⟨rfl, rfl⟩ ⟨Nat.le_of_ble_eq_true rfl, Nat.le_of_ble_eq_true rfl⟩ rfl (by decide) (gsz hsz (by decide)) lay_0 rfl rfl (Nat.le_of_ble_eq_true rfl) ⟨Nat.le_of_ble_eq_true rfl, Nat.le_of_ble_eq_true rfl⟩ rfl rfl dX11_plan_22 rfl (fun M11 P12 => ?_)
      obtain ⟨IM11, CM11, FM11⟩ := P12
      refine g_aload_n (n := 26) X 0 dX11_plan_25 rfl rfl rfl ?_
      refine g_callVv (n := 29) (As := []) (rest := []) (cs1 := 0) (ss1 := 0) X (s_X11_rememberBefore  hsz IM11 CM11 ) okX11_rememberBefore kw_5_157 ⟨kw_5_159, kw_0_35⟩ ⟨rfl, rfl⟩ ⟨Nat.le_of_ble_eq_true rfl, Nat.le_of_ble_eq_true rfl⟩ rfl (by decide) (gsz hsz (by decide)) lay_0 rfl rfl (Nat.le_of_ble_eq_true rfl) ⟨Nat.le_of_ble_eq_true rfl, Nat.le_of_ble_eq_true rfl⟩ rfl rfl dX11_plan_26 rfl (fun M14 P15 => ?_)
      obtain ⟨IM14, CM14, FM14, xM14⟩ := P15
      have hBr := xM14
      have hFM := ((gFr.c (gFr.c gFr.rf FM11 rfl) FM14 rfl) : gFr 3254779968 M M14)
      have hFr : ∀ q : Int, 0 ≤ q → q < 3 → M14 1 15 + M14 18 q ≤ 300 := fun q h0 h1 => by rw [gFr.at hFM rc_1_15.2.2 rfl, gFr.at hFM (ra_18 q).2.2 rfl]; exact (xv6 (by omega)) q h0 h1
      have hNr : M14 1 10 ≤ 16 := by have q1 := ((gFr.at FM14 rc_1_10.2.2 rfl).trans ((gFr.at FM11 rc_1_10.2.2 rfl).trans hv1)); omega
      refine g_iconst (n := 30) X dX11_plan_29 rfl ?_
      refine g_istore_n (n := 31) (L' := [(2, gJ (-1)), (0, gA n0 0), (1, gJ a)]) X dX11_plan_30 rfl (by decide) rfl rfl ?_
      refine g_iconst (n := 32) X dX11_plan_31 rfl ?_
      refine g_istore_n (n := 33) (L' := [(3, gJ 0), (2, gJ (-1)), (0, gA n0 0), (1, gJ a)]) X dX11_plan_32 rfl (by decide) rfl rfl ?_
      refine g_iconst (n := 34) X dX11_plan_33 rfl ?_
      refine g_istore (n := 36) (L' := [(4, gJ 0), (3, gJ 0), (2, gJ (-1)), (0, gA n0 0), (1, gJ a)]) X dX11_plan_34 (by decide) rfl rfl ?_
      have j20 : ∀ (N419 : Nat) (v16 v17 v18 : Int) (M19 : gM) , (-1 ≤ v16 ∧ v16 ≤ 2147483647) → (-2147483648 ≤ v17 ∧ v17 ≤ 2147483647) → (0 ≤ v18 ∧ v18 ≤ 2147483647) → gI sz M19 → gC sz M19 → gFr 16906360 M14 M19 → (gSm M14 M19) → (2147483647 - v18).toNat < N419 → G p l e R_X11_plan s m args below meth cd n0 D cA 7 Q 0 0 M19 sz 36 [(0, gA n0 0), (1, gJ a), (2, gJ v16), (3, gJ v17), (4, gJ v18)] [] := by
        intro N419; induction N419 with
        | zero => intro v16 v17 v18 M19 rv16 rv17 rv18 IM19 CM19 FM19 hS hm421; exfalso; omega
        | succ N419 ih420 =>
          intro v16 v17 v18 M19 rv16 rv17 rv18 IM19 CM19 FM19 hS hm421
          refine g_iload (n := 38) X 4 dX11_plan_36 rfl rfl ?_
          refine g_iconst (n := 39) X dX11_plan_38 rfl ?_
          refine g_aload_n (n := 40) X 0 dX11_plan_39 rfl rfl rfl ?_
          refine gg_11_0 (n := 43) (z := 1) X (by decide) (gsz hsz (by decide)) lay_0 kw_2_231 dX11_plan_40 rfl (rf_0_0 IM19 (gsz hsz (by decide))) (by decide) ?_
          refine gg_9_6 (n := 46) (z := 15) X (by decide) (gsz hsz (by decide)) lay_1 kw_2_119 dX11_plan_43 rfl (rf_1_6 IM19 (gsz hsz (by decide))) (by decide) ?_
          obtain ⟨v422, hv422, rv422⟩ := gRd IM19 (by decide) (gsz hsz (by decide)) rc_15_7.1
          refine gg_2_7 (n := 49) (z := v422) X (by decide) (gsz hsz (by decide)) lay_15 kw_1_108 dX11_plan_46 rfl hv422 ?_
          refine g_ishlA (n := 50) X dX11_plan_49 rfl (fun v423 rv423 xv423 => ?_)
          clear xv423
          refine g_icmp_ge (n := 53) (tgt := 129) X dX11_plan_50 (by decide) (by omega) (by omega) rfl (fun c424 => ?_) (fun c424 => ?_)
          · refine g_iload_n (n := 130) X 2 dX11_plan_129 rfl rfl rfl ?_
            refine g_iconst (n := 131) X dX11_plan_130 rfl ?_
            refine g_icmp_ne (n := 134) (tgt := 137) X dX11_plan_131 (by decide) (by omega) (by omega) rfl (fun c425 => ?_) (fun c425 => ?_)
            · refine g_iload_n (n := 138) X 1 dX11_plan_137 rfl rfl rfl ?_
              refine g_if_ne (n := 141) (tgt := 145) X dX11_plan_138 (by decide) (by omega) rfl (fun c426 => ?_) (fun c426 => ?_)
              · refine g_iload_n (n := 146) X 3 dX11_plan_145 rfl rfl rfl ?_
                exact hq _ _ _ _ dX11_plan_146 ⟨by omega, IM19, CM19, (gFr.c (gFr.c (gFr.c gFr.rf FM11 rfl) FM14 rfl) FM19 rfl), (gSm11.of (by omega) hFM rfl hS)⟩
              · refine g_iload_n (n := 142) X 2 dX11_plan_141 rfl rfl rfl ?_
                refine g_goto (tgt := 146) X dX11_plan_142 (by decide) ?_
                exact hq _ _ _ _ dX11_plan_146 ⟨by omega, IM19, CM19, (gFr.c (gFr.c (gFr.c gFr.rf FM11 rfl) FM14 rfl) FM19 rfl), (gSm11.of (by omega) hFM rfl hS)⟩
            · refine g_bipush (n := 136) X dX11_plan_134 (by decide +kernel) rfl ?_
              exact hq _ _ _ _ dX11_plan_136 ⟨by omega, IM19, CM19, (gFr.c (gFr.c (gFr.c gFr.rf FM11 rfl) FM14 rfl) FM19 rfl), (gSm11.of (by omega) hFM rfl hS)⟩
          · refine g_aload_n (n := 54) X 0 dX11_plan_53 rfl rfl rfl ?_
            refine gg_11_0 (n := 57) (z := 1) X (by decide) (gsz hsz (by decide)) lay_0 kw_2_231 dX11_plan_54 rfl (rf_0_0 IM19 (gsz hsz (by decide))) (by decide) ?_
            refine gg_9_6 (n := 60) (z := 15) X (by decide) (gsz hsz (by decide)) lay_1 kw_2_119 dX11_plan_57 rfl (rf_1_6 IM19 (gsz hsz (by decide))) (by decide) ?_
            refine g_iload (n := 62) X 4 dX11_plan_60 rfl rfl ?_
            refine g_callVi (n := 65) (As := [gJ v18]) (rest := []) (cs1 := 0) (ss1 := 0) X (s_X2_costOfSet v18 (by omega) hsz IM19 CM19 ) okX2_costOfSet kw_5_170 ⟨kw_5_171, kw_5_172⟩ ⟨rfl, rfl⟩ ⟨Nat.le_of_ble_eq_true rfl, Nat.le_of_ble_eq_true rfl⟩ rfl (by decide) (gsz hsz (by decide)) lay_15 rfl rfl (Nat.le_of_ble_eq_true rfl) ⟨Nat.le_of_ble_eq_true rfl, Nat.le_of_ble_eq_true rfl⟩ rfl rfl dX11_plan_62 rfl (fun v427 M428 P429 => ?_)
            obtain ⟨rfl, rv427⟩ := P429
            refine g_istore (n := 67) (L' := [(5, gJ v427), (0, gA n0 0), (1, gJ a), (2, gJ v16), (3, gJ v17), (4, gJ v18)]) X dX11_plan_65 (by decide) rfl rfl ?_
            refine g_iload_n (n := 68) X 3 dX11_plan_67 rfl rfl rfl ?_
            refine g_iconst (n := 69) X dX11_plan_68 rfl ?_
            refine g_icmp_eq (n := 72) (tgt := 96) X dX11_plan_69 (by decide) (by omega) (by omega) rfl (fun c430 => ?_) (fun c430 => ?_)
            · refine g_iconst (n := 97) X dX11_plan_96 rfl ?_
              refine g_goto (tgt := 101) X dX11_plan_97 (by decide) ?_
              refine g_istore (n := 103) (L' := [(6, gJ 1), (5, gJ v427), (0, gA n0 0), (1, gJ a), (2, gJ v16), (3, gJ v17), (4, gJ v18)]) X dX11_plan_101 (by decide) rfl rfl ?_
              refine g_iload (n := 105) X 0 dX11_plan_103 rfl rfl ?_
              refine g_if_eq (n := 108) (tgt := 123) X dX11_plan_105 (by decide) (by omega) rfl (fun c431 => by exfalso; omega) (fun c431 => ?_)
              refine g_aload_n (n := 109) X 2 dX11_plan_108 rfl rfl rfl ?_
              refine g_iload (n := 111) X 6 dX11_plan_109 rfl rfl ?_
              refine g_callVi (n := 114) (As := [gJ v18]) (rest := []) (cs1 := 0) (ss1 := 0) X (s_X11_holdsOut v18 (by omega) hsz IM19 CM19 (gBf.sm hNr hBr hS FM19 rfl rfl rfl) (fun q h0 h1 => by rw [hS.2.2.2.2.2.2.2.2.2.2.2, hS.2.2.2.1 q h0 h1]; exact hFr q h0 h1)) okX11_holdsOut kw_5_175 ⟨kw_5_177, kw_0_36⟩ ⟨rfl, rfl⟩ ⟨Nat.le_of_ble_eq_true rfl, Nat.le_of_ble_eq_true rfl⟩ rfl (by decide) (gsz hsz (by decide)) lay_0 rfl rfl (Nat.le_of_ble_eq_true rfl) ⟨Nat.le_of_ble_eq_true rfl, Nat.le_of_ble_eq_true rfl⟩ rfl rfl dX11_plan_111 rfl (fun v432 M433 P434 => ?_)
              obtain ⟨rv432, IM433, CM433, FM433, xM433⟩ := P434
              refine g_if_eq (n := 117) (tgt := 123) X dX11_plan_114 (by decide) (by omega) rfl (fun c435 => ?_) (fun c435 => ?_)
              · refine g_iinc (n := 126) (w := v18 + 1) (L' := [(4, gJ (v18 + 1)), (6, gJ 1), (5, gJ v427), (0, gA n0 0), (1, gJ a), (2, gJ v16), (3, gJ v17)]) X 6 dX11_plan_123 rfl rfl (by decide) rfl rfl ?_
                refine g_goto (tgt := 36) X dX11_plan_126 (by decide) ?_
                refine G.sub (L' := [(0, gA n0 0), (1, gJ a), (2, gJ v16), (3, gJ v17), (4, gJ (v18 + 1))]) [3, 4, 5, 6, 0] rfl ?_
                exact ih420 v16 v17 (v18 + 1) M433 (by omega) (by omega) (by omega) IM433 CM433 (gFr.c (gFr.c gFr.rf FM19 rfl) FM433 rfl) (gSm.tr hS xM433 (gFr.at FM19 rc_1_10.2.2 rfl)) (by omega)
              · refine g_iload (n := 119) X 6 dX11_plan_117 rfl rfl ?_
                refine g_istore_n (n := 120) (L' := [(2, gJ v18), (6, gJ 1), (5, gJ v427), (0, gA n0 0), (1, gJ a), (3, gJ v17), (4, gJ v18)]) X dX11_plan_119 rfl (by decide) rfl rfl ?_
                refine g_iload (n := 122) X 2 dX11_plan_120 rfl rfl ?_
                refine g_istore_n (n := 123) (L' := [(3, gJ v427), (2, gJ v18), (6, gJ 1), (5, gJ v427), (0, gA n0 0), (1, gJ a), (4, gJ v18)]) X dX11_plan_122 rfl (by decide) rfl rfl ?_
                refine g_iinc (n := 126) (w := v18 + 1) (L' := [(4, gJ (v18 + 1)), (3, gJ v427), (2, gJ v18), (6, gJ 1), (5, gJ v427), (0, gA n0 0), (1, gJ a)]) X 6 dX11_plan_123 rfl rfl (by decide) rfl rfl ?_
                refine g_goto (tgt := 36) X dX11_plan_126 (by decide) ?_
                refine G.sub (L' := [(0, gA n0 0), (1, gJ a), (2, gJ v18), (3, gJ v427), (4, gJ (v18 + 1))]) [5, 6, 2, 1, 0] rfl ?_
                exact ih420 v18 v427 (v18 + 1) M433 (by omega) (by omega) (by omega) IM433 CM433 (gFr.c (gFr.c gFr.rf FM19 rfl) FM433 rfl) (gSm.tr hS xM433 (gFr.at FM19 rc_1_10.2.2 rfl)) (by omega)
            · refine g_iload (n := 74) X 0 dX11_plan_72 rfl rfl ?_
              refine g_iload_n (n := 75) X 4 dX11_plan_74 rfl rfl rfl ?_
              refine g_icmp_lt (n := 78) (tgt := 96) X dX11_plan_75 (by decide) (by omega) (by omega) rfl (fun c436 => ?_) (fun c436 => ?_)
              · refine g_iconst (n := 97) X dX11_plan_96 rfl ?_
                refine g_goto (tgt := 101) X dX11_plan_97 (by decide) ?_
                refine g_istore (n := 103) (L' := [(6, gJ 1), (5, gJ v427), (0, gA n0 0), (1, gJ a), (2, gJ v16), (3, gJ v17), (4, gJ v18)]) X dX11_plan_101 (by decide) rfl rfl ?_
                refine g_iload (n := 105) X 0 dX11_plan_103 rfl rfl ?_
                refine g_if_eq (n := 108) (tgt := 123) X dX11_plan_105 (by decide) (by omega) rfl (fun c437 => by exfalso; omega) (fun c437 => ?_)
                refine g_aload_n (n := 109) X 2 dX11_plan_108 rfl rfl rfl ?_
                refine g_iload (n := 111) X 6 dX11_plan_109 rfl rfl ?_
                refine g_callVi (n := 114) (As := [gJ v18]) (rest := []) (cs1 := 0) (ss1 := 0) X (s_X11_holdsOut v18 (by omega) hsz IM19 CM19 (gBf.sm hNr hBr hS FM19 rfl rfl rfl) (fun q h0 h1 => by rw [hS.2.2.2.2.2.2.2.2.2.2.2, hS.2.2.2.1 q h0 h1]; exact hFr q h0 h1)) okX11_holdsOut kw_5_175 ⟨kw_5_177, kw_0_36⟩ ⟨rfl, rfl⟩ ⟨Nat.le_of_ble_eq_true rfl, Nat.le_of_ble_eq_true rfl⟩ rfl (by decide) (gsz hsz (by decide)) lay_0 rfl rfl (Nat.le_of_ble_eq_true rfl) ⟨Nat.le_of_ble_eq_true rfl, Nat.le_of_ble_eq_true rfl⟩ rfl rfl dX11_plan_111 rfl (fun v438 M439 P440 => ?_)
                obtain ⟨rv438, IM439, CM439, FM439, xM439⟩ := P440
                refine g_if_eq (n := 117) (tgt := 123) X dX11_plan_114 (by decide) (by omega) rfl (fun c441 => ?_) (fun c441 => ?_)
                · refine g_iinc (n := 126) (w := v18 + 1) (L' := [(4, gJ (v18 + 1)), (6, gJ 1), (5, gJ v427), (0, gA n0 0), (1, gJ a), (2, gJ v16), (3, gJ v17)]) X 6 dX11_plan_123 rfl rfl (by decide) rfl rfl ?_
                  refine g_goto (tgt := 36) X dX11_plan_126 (by decide) ?_
                  refine G.sub (L' := [(0, gA n0 0), (1, gJ a), (2, gJ v16), (3, gJ v17), (4, gJ (v18 + 1))]) [3, 4, 5, 6, 0] rfl ?_
                  exact ih420 v16 v17 (v18 + 1) M439 (by omega) (by omega) (by omega) IM439 CM439 (gFr.c (gFr.c gFr.rf FM19 rfl) FM439 rfl) (gSm.tr hS xM439 (gFr.at FM19 rc_1_10.2.2 rfl)) (by omega)
                · refine g_iload (n := 119) X 6 dX11_plan_117 rfl rfl ?_
                  refine g_istore_n (n := 120) (L' := [(2, gJ v18), (6, gJ 1), (5, gJ v427), (0, gA n0 0), (1, gJ a), (3, gJ v17), (4, gJ v18)]) X dX11_plan_119 rfl (by decide) rfl rfl ?_
                  refine g_iload (n := 122) X 2 dX11_plan_120 rfl rfl ?_
                  refine g_istore_n (n := 123) (L' := [(3, gJ v427), (2, gJ v18), (6, gJ 1), (5, gJ v427), (0, gA n0 0), (1, gJ a), (4, gJ v18)]) X dX11_plan_122 rfl (by decide) rfl rfl ?_
                  refine g_iinc (n := 126) (w := v18 + 1) (L' := [(4, gJ (v18 + 1)), (3, gJ v427), (2, gJ v18), (6, gJ 1), (5, gJ v427), (0, gA n0 0), (1, gJ a)]) X 6 dX11_plan_123 rfl rfl (by decide) rfl rfl ?_
                  refine g_goto (tgt := 36) X dX11_plan_126 (by decide) ?_
                  refine G.sub (L' := [(0, gA n0 0), (1, gJ a), (2, gJ v18), (3, gJ v427), (4, gJ (v18 + 1))]) [5, 6, 2, 1, 0] rfl ?_
                  exact ih420 v18 v427 (v18 + 1) M439 (by omega) (by omega) (by omega) IM439 CM439 (gFr.c (gFr.c gFr.rf FM19 rfl) FM439 rfl) (gSm.tr hS xM439 (gFr.at FM19 rc_1_10.2.2 rfl)) (by omega)
              · refine g_iload (n := 80) X 0 dX11_plan_78 rfl rfl ?_
                refine g_iload_n (n := 81) X 4 dX11_plan_80 rfl rfl rfl ?_
                refine g_icmp_ne (n := 84) (tgt := 100) X dX11_plan_81 (by decide) (by omega) (by omega) rfl (fun c442 => ?_) (fun c442 => ?_)
                · refine g_iconst (n := 101) X dX11_plan_100 rfl ?_
                  refine g_istore (n := 103) (L' := [(6, gJ 0), (5, gJ v427), (0, gA n0 0), (1, gJ a), (2, gJ v16), (3, gJ v17), (4, gJ v18)]) X dX11_plan_101 (by decide) rfl rfl ?_
                  refine g_iload (n := 105) X 0 dX11_plan_103 rfl rfl ?_
                  refine g_if_eq (n := 108) (tgt := 123) X dX11_plan_105 (by decide) (by omega) rfl (fun c443 => ?_) (fun c443 => by exfalso; omega)
                  refine g_iinc (n := 126) (w := v18 + 1) (L' := [(4, gJ (v18 + 1)), (6, gJ 0), (5, gJ v427), (0, gA n0 0), (1, gJ a), (2, gJ v16), (3, gJ v17)]) X 6 dX11_plan_123 rfl rfl (by decide) rfl rfl ?_
                  refine g_goto (tgt := 36) X dX11_plan_126 (by decide) ?_
                  refine G.sub (L' := [(0, gA n0 0), (1, gJ a), (2, gJ v16), (3, gJ v17), (4, gJ (v18 + 1))]) [3, 4, 5, 6, 0] rfl ?_
                  exact ih420 v16 v17 (v18 + 1) M19 (by omega) (by omega) (by omega) IM19 CM19 (gFr.c gFr.rf FM19 rfl) hS (by omega)
                · refine g_iload (n := 86) X 5 dX11_plan_84 rfl rfl ?_
                  refine g_callSi (n := 89) (As := [gJ v18]) (rest := []) (cs1 := 0) (ss1 := 0) X (s_J_bit v18 (by omega) hsz IM19 CM19 ) okJ_bit kw_5_174 kw_3_186 ⟨rfl, rfl⟩ ⟨Nat.le_of_ble_eq_true rfl, Nat.le_of_ble_eq_true rfl⟩ rfl rfl (Nat.le_of_ble_eq_true rfl) ⟨Nat.le_of_ble_eq_true rfl, Nat.le_of_ble_eq_true rfl⟩ rfl rfl dX11_plan_86 rfl (fun v444 M445 P446 => ?_)
                  obtain ⟨rfl, rv444⟩ := P446
                  refine g_iload_n (n := 90) X 3 dX11_plan_89 rfl rfl rfl ?_
                  refine g_callSi (n := 93) (As := [gJ v16]) (rest := [gJ v444]) (cs1 := 0) (ss1 := 0) X (s_J_bit v16 (by omega) hsz IM19 CM19 ) okJ_bit kw_5_174 kw_3_186 ⟨rfl, rfl⟩ ⟨Nat.le_of_ble_eq_true rfl, Nat.le_of_ble_eq_true rfl⟩ rfl rfl (Nat.le_of_ble_eq_true rfl) ⟨Nat.le_of_ble_eq_true rfl, Nat.le_of_ble_eq_true rfl⟩ rfl rfl dX11_plan_90 rfl (fun v447 M448 P449 => ?_)
                  obtain ⟨rfl, rv447⟩ := P449
                  refine g_icmp_ge (n := 96) (tgt := 100) X dX11_plan_93 (by decide) (by omega) (by omega) rfl (fun c450 => ?_) (fun c450 => ?_)
                  · refine g_iconst (n := 101) X dX11_plan_100 rfl ?_
                    refine g_istore (n := 103) (L' := [(6, gJ 0), (5, gJ v427), (0, gA n0 0), (1, gJ a), (2, gJ v16), (3, gJ v17), (4, gJ v18)]) X dX11_plan_101 (by decide) rfl rfl ?_
                    refine g_iload (n := 105) X 0 dX11_plan_103 rfl rfl ?_
                    refine g_if_eq (n := 108) (tgt := 123) X dX11_plan_105 (by decide) (by omega) rfl (fun c451 => ?_) (fun c451 => by exfalso; omega)
                    refine g_iinc (n := 126) (w := v18 + 1) (L' := [(4, gJ (v18 + 1)), (6, gJ 0), (5, gJ v427), (0, gA n0 0), (1, gJ a), (2, gJ v16), (3, gJ v17)]) X 6 dX11_plan_123 rfl rfl (by decide) rfl rfl ?_
                    refine g_goto (tgt := 36) X dX11_plan_126 (by decide) ?_
                    refine G.sub (L' := [(0, gA n0 0), (1, gJ a), (2, gJ v16), (3, gJ v17), (4, gJ (v18 + 1))]) [3, 4, 5, 6, 0] rfl ?_
                    exact ih420 v16 v17 (v18 + 1) M19 (by omega) (by omega) (by omega) IM19 CM19 (gFr.c gFr.rf FM19 rfl) hS (by omega)
                  · refine g_iconst (n := 97) X dX11_plan_96 rfl ?_
                    refine g_goto (tgt := 101) X dX11_plan_97 (by decide) ?_
                    refine g_istore (n := 103) (L' := [(6, gJ 1), (5, gJ v427), (0, gA n0 0), (1, gJ a), (2, gJ v16), (3, gJ v17), (4, gJ v18)]) X dX11_plan_101 (by decide) rfl rfl ?_
                    refine g_iload (n := 105) X 0 dX11_plan_103 rfl rfl ?_
                    refine g_if_eq (n := 108) (tgt := 123) X dX11_plan_105 (by decide) (by omega) rfl (fun c452 => by exfalso; omega) (fun c452 => ?_)
                    refine g_aload_n (n := 109) X 2 dX11_plan_108 rfl rfl rfl ?_
                    refine g_iload (n := 111) X 6 dX11_plan_109 rfl rfl ?_
                    refine g_callVi (n := 114) (As := [gJ v18]) (rest := []) (cs1 := 0) (ss1 := 0) X (s_X11_holdsOut v18 (by omega) hsz IM19 CM19 (gBf.sm hNr hBr hS FM19 rfl rfl rfl) (fun q h0 h1 => by rw [hS.2.2.2.2.2.2.2.2.2.2.2, hS.2.2.2.1 q h0 h1]; exact hFr q h0 h1)) okX11_holdsOut kw_5_175 ⟨kw_5_177, kw_0_36⟩ ⟨rfl, rfl⟩ ⟨Nat.le_of_ble_eq_true rfl, Nat.le_of_ble_eq_true rfl⟩ rfl (by decide) (gsz hsz (by decide)) lay_0 rfl rfl (Nat.le_of_ble_eq_true rfl) ⟨Nat.le_of_ble_eq_true rfl, Nat.le_of_ble_eq_true rfl⟩ rfl rfl dX11_plan_111 rfl (fun v453 M454 P455 => ?_)
                    obtain ⟨rv453, IM454, CM454, FM454, xM454⟩ := P455
                    refine g_if_eq (n := 117) (tgt := 123) X dX11_plan_114 (by decide) (by omega) rfl (fun c456 => ?_) (fun c456 => ?_)
                    · refine g_iinc (n := 126) (w := v18 + 1) (L' := [(4, gJ (v18 + 1)), (6, gJ 1), (5, gJ v427), (0, gA n0 0), (1, gJ a), (2, gJ v16), (3, gJ v17)]) X 6 dX11_plan_123 rfl rfl (by decide) rfl rfl ?_
                      refine g_goto (tgt := 36) X dX11_plan_126 (by decide) ?_
                      refine G.sub (L' := [(0, gA n0 0), (1, gJ a), (2, gJ v16), (3, gJ v17), (4, gJ (v18 + 1))]) [3, 4, 5, 6, 0] rfl ?_
                      exact ih420 v16 v17 (v18 + 1) M454 (by omega) (by omega) (by omega) IM454 CM454 (gFr.c (gFr.c gFr.rf FM19 rfl) FM454 rfl) (gSm.tr hS xM454 (gFr.at FM19 rc_1_10.2.2 rfl)) (by omega)
                    · refine g_iload (n := 119) X 6 dX11_plan_117 rfl rfl ?_
                      refine g_istore_n (n := 120) (L' := [(2, gJ v18), (6, gJ 1), (5, gJ v427), (0, gA n0 0), (1, gJ a), (3, gJ v17), (4, gJ v18)]) X dX11_plan_119 rfl (by decide) rfl rfl ?_
                      refine g_iload (n := 122) X 2 dX11_plan_120 rfl rfl ?_
                      refine g_istore_n (n := 123) (L' := [(3, gJ v427), (2, gJ v18), (6, gJ 1), (5, gJ v427), (0, gA n0 0), (1, gJ a), (4, gJ v18)]) X dX11_plan_122 rfl (by decide) rfl rfl ?_
                      refine g_iinc (n := 126) (w := v18 + 1) (L' := [(4, gJ (v18 + 1)), (3, gJ v427), (2, gJ v18), (6, gJ 1), (5, gJ v427), (0, gA n0 0), (1, gJ a)]) X 6 dX11_plan_123 rfl rfl (by decide) rfl rfl ?_
                      refine g_goto (tgt := 36) X dX11_plan_126 (by decide) ?_
                      refine G.sub (L' := [(0, gA n0 0), (1, gJ a), (2, gJ v18), (3, gJ v427), (4, gJ (v18 + 1))]) [5, 6, 2, 1, 0] rfl ?_
                      exact ih420 v18 v427 (v18 + 1) M454 (by omega) (by omega) (by omega) IM454 CM454 (gFr.c (gFr.c gFr.rf FM19 rfl) FM454 rfl) (gSm.tr hS xM454 (gFr.at FM19 rc_1_10.2.2 rfl)) (by omega)
      refine G.sub (L' := [(0, gA n0 0), (1, gJ a), (2, gJ (-1)), (3, gJ 0), (4, gJ 0)]) [3, 4, 2, 1, 0] rfl ?_
      exact j20 _ (-1) 0 0 M14 (by omega) (by omega) (by omega) IM14 CM14 gFr.rf gSm.rf (Nat.lt_succ_self _)
    · refine g_bipush (n := 20) X dX11_plan_18 (by decide +kernel) rfl ?_
      exact hq _ _ _ _ dX11_plan_20 ⟨by omega, I, C, gFr.rf, gSm11.rf⟩
  · refine g_iconst (n := 10) X dX11_plan_9 rfl ?_
    exact hq _ _ _ _ dX11_plan_10 ⟨by omega, I, C, gFr.rf, gSm11.rf⟩
theorem dX11_tried_0 : decode cX11_tried 0 = .ok (.iload_n 1, 1) := dc_27 (by decide +kernel)
theorem dX11_tried_1 : decode cX11_tried 1 = .ok (.iconst 0, 1) := dc_3 (by decide +kernel)
theorem dX11_tried_2 : decode cX11_tried 2 = .ok (.iconst 2, 1) := dc_5 (by decide +kernel)
theorem dX11_tried_3 : decode cX11_tried 3 = .ok (.invokestatic 62, 3) := dc_184 0 62 (by decide +kernel)
theorem dX11_tried_6 : decode cX11_tried 6 = .ok (.ifCond .eq 27, 3) := dc_153 0 27 27 (by decide +kernel)
theorem dX11_tried_33 : decode cX11_tried 33 = .ok (.iconst (-1), 1) := dc_2 (by decide +kernel)
theorem dX11_tried_34 : decode cX11_tried 34 = .ok (.ireturn, 1) := dc_172 (by decide +kernel)
theorem dX11_tried_9 : decode cX11_tried 9 = .ok (.iload_n 2, 1) := dc_28 (by decide +kernel)
theorem dX11_tried_10 : decode cX11_tried 10 = .ok (.iconst 0, 1) := dc_3 (by decide +kernel)
theorem dX11_tried_11 : decode cX11_tried 11 = .ok (.iconst 2, 1) := dc_5 (by decide +kernel)
theorem dX11_tried_12 : decode cX11_tried 12 = .ok (.invokestatic 62, 3) := dc_184 0 62 (by decide +kernel)
theorem dX11_tried_15 : decode cX11_tried 15 = .ok (.ifCond .eq 18, 3) := dc_153 0 18 18 (by decide +kernel)
theorem dX11_tried_18 : decode cX11_tried 18 = .ok (.aload_n 0, 1) := dc_42 (by decide +kernel)
theorem dX11_tried_19 : decode cX11_tried 19 = .ok (.getfield 10, 3) := dc_180 0 10 (by decide +kernel)
theorem dX11_tried_22 : decode cX11_tried 22 = .ok (.getfield 279, 3) := dc_180 1 23 (by decide +kernel)
theorem dX11_tried_25 : decode cX11_tried 25 = .ok (.getfield 397, 3) := dc_180 1 141 (by decide +kernel)
theorem dX11_tried_28 : decode cX11_tried 28 = .ok (.iload_n 1, 1) := dc_27 (by decide +kernel)
theorem dX11_tried_29 : decode cX11_tried 29 = .ok (.iaload, 1) := dc_46 (by decide +kernel)
theorem dX11_tried_30 : decode cX11_tried 30 = .ok (.ifCond .ne 5, 3) := dc_154 0 5 5 (by decide +kernel)
theorem dX11_tried_35 : decode cX11_tried 35 = .ok (.aload_n 0, 1) := dc_42 (by decide +kernel)
theorem dX11_tried_36 : decode cX11_tried 36 = .ok (.iload_n 1, 1) := dc_27 (by decide +kernel)
theorem dX11_tried_37 : decode cX11_tried 37 = .ok (.invokevirtual 400, 3) := dc_182 1 144 (by decide +kernel)
theorem dX11_tried_40 : decode cX11_tried 40 = .ok (.ifCond .ne 6, 3) := dc_154 0 6 6 (by decide +kernel)
theorem dX11_tried_46 : decode cX11_tried 46 = .ok (.aload_n 0, 1) := dc_42 (by decide +kernel)
theorem dX11_tried_47 : decode cX11_tried 47 = .ok (.aload_n 0, 1) := dc_42 (by decide +kernel)
theorem dX11_tried_48 : decode cX11_tried 48 = .ok (.getfield 10, 3) := dc_180 0 10 (by decide +kernel)
theorem dX11_tried_51 : decode cX11_tried 51 = .ok (.getfield 85, 3) := dc_180 0 85 (by decide +kernel)
theorem dX11_tried_54 : decode cX11_tried 54 = .ok (.invokevirtual 222, 3) := dc_182 0 222 (by decide +kernel)
theorem dX11_tried_57 : decode cX11_tried 57 = .ok (.istore_n 3, 1) := dc_62 (by decide +kernel)
theorem dX11_tried_58 : decode cX11_tried 58 = .ok (.iload_n 3, 1) := dc_29 (by decide +kernel)
theorem dX11_tried_59 : decode cX11_tried 59 = .ok (.iconst (-1), 1) := dc_2 (by decide +kernel)
theorem dX11_tried_60 : decode cX11_tried 60 = .ok (.if_icmp .eq 8, 3) := dc_159 0 8 8 (by decide +kernel)
theorem dX11_tried_68 : decode cX11_tried 68 = .ok (.aload_n 0, 1) := dc_42 (by decide +kernel)
theorem dX11_tried_69 : decode cX11_tried 69 = .ok (.getfield 10, 3) := dc_180 0 10 (by decide +kernel)
theorem dX11_tried_72 : decode cX11_tried 72 = .ok (.dup, 1) := dc_89 (by decide +kernel)
theorem dX11_tried_73 : decode cX11_tried 73 = .ok (.getfield 219, 3) := dc_180 0 219 (by decide +kernel)
theorem dX11_tried_76 : decode cX11_tried 76 = .ok (.iconst 1, 1) := dc_4 (by decide +kernel)
theorem dX11_tried_77 : decode cX11_tried 77 = .ok (.iadd, 1) := dc_96 (by decide +kernel)
theorem dX11_tried_78 : decode cX11_tried 78 = .ok (.putfield 219, 3) := dc_181 0 219 (by decide +kernel)
theorem dX11_tried_81 : decode cX11_tried 81 = .ok (.aload_n 0, 1) := dc_42 (by decide +kernel)
theorem dX11_tried_82 : decode cX11_tried 82 = .ok (.invokevirtual 231, 3) := dc_182 0 231 (by decide +kernel)
theorem dX11_tried_85 : decode cX11_tried 85 = .ok (.aload_n 0, 1) := dc_42 (by decide +kernel)
theorem dX11_tried_86 : decode cX11_tried 86 = .ok (.invokevirtual 383, 3) := dc_182 1 127 (by decide +kernel)
theorem dX11_tried_89 : decode cX11_tried 89 = .ok (.aload_n 0, 1) := dc_42 (by decide +kernel)
theorem dX11_tried_90 : decode cX11_tried 90 = .ok (.getfield 10, 3) := dc_180 0 10 (by decide +kernel)
theorem dX11_tried_93 : decode cX11_tried 93 = .ok (.getfield 85, 3) := dc_180 0 85 (by decide +kernel)
theorem dX11_tried_96 : decode cX11_tried 96 = .ok (.istore 4, 2) := dc_54 4 (by decide +kernel)
theorem dX11_tried_98 : decode cX11_tried 98 = .ok (.aload_n 0, 1) := dc_42 (by decide +kernel)
theorem dX11_tried_99 : decode cX11_tried 99 = .ok (.getfield 10, 3) := dc_180 0 10 (by decide +kernel)
theorem dX11_tried_102 : decode cX11_tried 102 = .ok (.getfield 279, 3) := dc_180 1 23 (by decide +kernel)
theorem dX11_tried_105 : decode cX11_tried 105 = .ok (.iload_n 1, 1) := dc_27 (by decide +kernel)
theorem dX11_tried_106 : decode cX11_tried 106 = .ok (.iload 4, 2) := dc_21 4 (by decide +kernel)
theorem dX11_tried_108 : decode cX11_tried 108 = .ok (.invokevirtual 403, 3) := dc_182 1 147 (by decide +kernel)
theorem dX11_tried_111 : decode cX11_tried 111 = .ok (.aload_n 0, 1) := dc_42 (by decide +kernel)
theorem dX11_tried_112 : decode cX11_tried 112 = .ok (.getfield 10, 3) := dc_180 0 10 (by decide +kernel)
theorem dX11_tried_115 : decode cX11_tried 115 = .ok (.aload_n 0, 1) := dc_42 (by decide +kernel)
theorem dX11_tried_116 : decode cX11_tried 116 = .ok (.getfield 10, 3) := dc_180 0 10 (by decide +kernel)
theorem dX11_tried_119 : decode cX11_tried 119 = .ok (.getfield 279, 3) := dc_180 1 23 (by decide +kernel)
theorem dX11_tried_122 : decode cX11_tried 122 = .ok (.getfield 397, 3) := dc_180 1 141 (by decide +kernel)
theorem dX11_tried_125 : decode cX11_tried 125 = .ok (.iload_n 1, 1) := dc_27 (by decide +kernel)
theorem dX11_tried_126 : decode cX11_tried 126 = .ok (.iaload, 1) := dc_46 (by decide +kernel)
theorem dX11_tried_127 : decode cX11_tried 127 = .ok (.invokevirtual 297, 3) := dc_182 1 41 (by decide +kernel)
theorem dX11_tried_130 : decode cX11_tried 130 = .ok (.aload_n 0, 1) := dc_42 (by decide +kernel)
theorem dX11_tried_131 : decode cX11_tried 131 = .ok (.iload 4, 2) := dc_21 4 (by decide +kernel)
theorem dX11_tried_133 : decode cX11_tried 133 = .ok (.iload_n 2, 1) := dc_28 (by decide +kernel)
theorem dX11_tried_134 : decode cX11_tried 134 = .ok (.invokevirtual 407, 3) := dc_182 1 151 (by decide +kernel)
theorem kw_5_196 : (Jvm.Cond.methodLink "ParishUnion" (407 : Nat) ({ cls := "ParishUnion", name := "sumOfTry", desc := "(II)I" } : Jvm.MethodName)) ∈ gT := gT_of (tb_5 _ (List.mem_of_getElem? (i := 196) rfl)) rfl
theorem kw_5_199 : (Jvm.Cond.code ({ cls := "ParishUnion", name := "sumOfTry", desc := "(II)I" } : Jvm.MethodName) prog_1_method_66_code (5 : Nat) (Option.some Jvm.ClassFile.FieldType.int)) ∈ gT := gT_of (tb_5 _ (List.mem_of_getElem? (i := 199) rfl)) rfl
theorem okX11_sumOfTry : gQok yX11_sumOfTry cX11_sumOfTry 5 (Option.some Jvm.ClassFile.FieldType.int) 2 := ⟨kw_5_199, kw_1_1, by decide +kernel, by decide +kernel, by decide +kernel⟩
theorem kw_5_198 : (Jvm.Cond.instanceMethod ({ cls := "ParishUnion", name := "sumOfTry", desc := "(II)I" } : Jvm.MethodName)) ∈ gT := gT_of (tb_5 _ (List.mem_of_getElem? (i := 198) rfl)) rfl
theorem kw_0_38 : (Jvm.Cond.selects "ParishUnion" ({ cls := "ParishUnion", name := "sumOfTry", desc := "(II)I" } : Jvm.MethodName) ({ cls := "ParishUnion", name := "sumOfTry", desc := "(II)I" } : Jvm.MethodName)) ∈ gT := gT_of (tb_0 _ (List.mem_of_getElem? (i := 38) rfl)) rfl
theorem dX11_tried_137 : decode cX11_tried 137 = .ok (.istore 5, 2) := dc_54 5 (by decide +kernel)
theorem dX11_tried_139 : decode cX11_tried 139 = .ok (.aload_n 0, 1) := dc_42 (by decide +kernel)
theorem dX11_tried_140 : decode cX11_tried 140 = .ok (.iload 4, 2) := dc_21 4 (by decide +kernel)
theorem dX11_tried_142 : decode cX11_tried 142 = .ok (.invokevirtual 410, 3) := dc_182 1 154 (by decide +kernel)
theorem dX11_tried_145 : decode cX11_tried 145 = .ok (.aload_n 0, 1) := dc_42 (by decide +kernel)
theorem dX11_tried_146 : decode cX11_tried 146 = .ok (.getfield 10, 3) := dc_180 0 10 (by decide +kernel)
theorem dX11_tried_149 : decode cX11_tried 149 = .ok (.dup, 1) := dc_89 (by decide +kernel)
theorem dX11_tried_150 : decode cX11_tried 150 = .ok (.getfield 219, 3) := dc_180 0 219 (by decide +kernel)
theorem dX11_tried_153 : decode cX11_tried 153 = .ok (.iconst 1, 1) := dc_4 (by decide +kernel)
theorem dX11_tried_154 : decode cX11_tried 154 = .ok (.isub, 1) := dc_100 (by decide +kernel)
theorem dX11_tried_155 : decode cX11_tried 155 = .ok (.putfield 219, 3) := dc_181 0 219 (by decide +kernel)
theorem dX11_tried_158 : decode cX11_tried 158 = .ok (.iload 5, 2) := dc_21 5 (by decide +kernel)
theorem dX11_tried_160 : decode cX11_tried 160 = .ok (.ireturn, 1) := dc_172 (by decide +kernel)
theorem dX11_tried_63 : decode cX11_tried 63 = .ok (.bipush (-10), 2) := dc_16 246 (-10) (by decide +kernel)
theorem dX11_tried_65 : decode cX11_tried 65 = .ok (.iload_n 3, 1) := dc_29 (by decide +kernel)
theorem dX11_tried_66 : decode cX11_tried 66 = .ok (.isub, 1) := dc_100 (by decide +kernel)
theorem dX11_tried_67 : decode cX11_tried 67 = .ok (.ireturn, 1) := dc_172 (by decide +kernel)
theorem dX11_tried_43 : decode cX11_tried 43 = .ok (.bipush (-3), 2) := dc_16 253 (-3) (by decide +kernel)
theorem dX11_tried_45 : decode cX11_tried 45 = .ok (.ireturn, 1) := dc_172 (by decide +kernel)
abbrev R_X11_tried : Room := { frames := 10, cells := 0, slots := 0, locals := 218 }
set_option maxRecDepth 100000 in
set_option maxHeartbeats 4000000 in
theorem s_X11_tried {l : Launch} {n0 : Nat} {D : va_G} {cA : Nat → ClassId} {M : gM} (a : Int) (r_a : -2147483648 ≤ a ∧ a ≤ 2147483647) (b : Int) (r_b : -2147483648 ≤ b ∧ b ≤ 2147483647) {sz : Nat} (hsz : 206 ≤ sz) (I : gI sz M) (C : gC sz M) (q_1_13 : 0 ≤ M 1 13 ∧ M 1 13 ≤ 10)  : Met l yX11_tried (gWsOf yX11_tried cX11_tried 6 (Option.some Jvm.ClassFile.FieldType.int)) R_X11_tried (gPc n0 D cA [gA n0 0, gJ a, gJ b] M sz) (gQi n0 D cA sz (fun z M1 => (-2147483648 ≤ z ∧ z ≤ 2147483647) ∧ gI sz M1 ∧ gC sz M1 ∧ gFr 4290902392 M M1 ∧ (gSm11 M M1 ∧ M1 1 13 = M 1 13))) 0 0 (fun q => n0 ≤ q) := by
  refine gMetI [gA n0 0, gJ a, gJ b] (by decide) (Nat.le_of_ble_eq_true rfl) ⟨rfl, rfl⟩ ?_
  intro p e s m args below meth cd Q X hq
  have X : gCx p s m args meth cd n0 D cA "ParishUnion" cX11_tried 6 := X
  show G p l e R_X11_tried s m args below meth cd n0 D cA 6 Q 0 0 M sz 0 [(0, gA n0 0), (1, gJ a), (2, gJ b)] []
  obtain ⟨v1, hv1, rv1⟩ := gRd I (by decide) (gsz hsz (by decide)) rc_1_13.1
  obtain ⟨v2, hv2, rv2⟩ := gRd I (by decide) (gsz hsz (by decide)) rc_1_10.1
  obtain ⟨v3, hv3, rv3⟩ := gRd I (by decide) (gsz hsz (by decide)) rc_1_15.1
  refine g_iload_n (n := 1) X 1 dX11_tried_0 rfl rfl rfl ?_
  refine g_iconst (n := 2) X dX11_tried_1 rfl ?_
  refine g_iconst (n := 3) X dX11_tried_2 rfl ?_
  refine g_callSi (n := 6) (As := [gJ a, gJ 0, gJ 2]) (rest := []) (cs1 := 0) (ss1 := 0) X (s_X11_within a (by omega) 0 (by omega) 2 (by omega) hsz I C ) okX11_within kw_3_29 kw_3_30 ⟨rfl, rfl⟩ ⟨Nat.le_of_ble_eq_true rfl, Nat.le_of_ble_eq_true rfl⟩ rfl rfl (Nat.le_of_ble_eq_true rfl) ⟨Nat.le_of_ble_eq_true rfl, Nat.le_of_ble_eq_true rfl⟩ rfl rfl dX11_tried_3 rfl (fun v4 M5 P6 => ?_)
  obtain ⟨rfl, rv4, xv4⟩ := P6
  refine g_if_eq (n := 9) (tgt := 33) X dX11_tried_6 (by decide) (by omega) rfl (fun c7 => ?_) (fun c7 => ?_)
  · refine g_iconst (n := 34) X dX11_tried_33 rfl ?_
    exact hq _ _ _ _ dX11_tried_34 ⟨by omega, I, C, gFr.rf, ⟨gSm11.rf, rfl⟩⟩
  · refine g_iload_n (n := 10) X 2 dX11_tried_9 rfl rfl rfl ?_
    refine g_iconst (n := 11) X dX11_tried_10 rfl ?_
    refine g_iconst (n := 12) X dX11_tried_11 rfl ?_
    refine g_callSi (n := 15) (As := [gJ b, gJ 0, gJ 2]) (rest := []) (cs1 := 0) (ss1 := 0) X (s_X11_within b (by omega) 0 (by omega) 2 (by omega) hsz I C ) okX11_within kw_3_29 kw_3_30 ⟨rfl, rfl⟩ ⟨Nat.le_of_ble_eq_true rfl, Nat.le_of_ble_eq_true rfl⟩ rfl rfl (Nat.le_of_ble_eq_true rfl) ⟨Nat.le_of_ble_eq_true rfl, Nat.le_of_ble_eq_true rfl⟩ rfl rfl dX11_tried_12 rfl (fun v8 M9 P10 => ?_)
    obtain ⟨rfl, rv8, xv8⟩ := P10
    refine g_if_eq (n := 18) (tgt := 33) X dX11_tried_15 (by decide) (by omega) rfl (fun c11 => ?_) (fun c11 => ?_)
    · refine g_iconst (n := 34) X dX11_tried_33 rfl ?_
      exact hq _ _ _ _ dX11_tried_34 ⟨by omega, I, C, gFr.rf, ⟨gSm11.rf, rfl⟩⟩
    · refine g_aload_n (n := 19) X 0 dX11_tried_18 rfl rfl rfl ?_
      refine gg_11_0 (n := 22) (z := 1) X (by decide) (gsz hsz (by decide)) lay_0 kw_2_231 dX11_tried_19 rfl (rf_0_0 I (gsz hsz (by decide))) (by decide) ?_
      refine gg_9_6 (n := 25) (z := 15) X (by decide) (gsz hsz (by decide)) lay_1 kw_2_119 dX11_tried_22 rfl (rf_1_6 I (gsz hsz (by decide))) (by decide) ?_
      refine gg_2_2 (n := 28) (z := 18) X (by decide) (gsz hsz (by decide)) lay_15 kw_1_102 dX11_tried_25 rfl (rf_15_2 I (gsz hsz (by decide))) (by decide) ?_
      refine g_iload_n (n := 29) X 1 dX11_tried_28 rfl rfl rfl ?_
      obtain ⟨v12, hv12, rv12⟩ := gRd I (by decide) (gsz hsz (by decide)) (ra_18 a).1
      refine g_iald2 (n := 30) (v := v12) X (by decide) (gsz hsz (by decide)) lay_18 (by omega) (by omega) (by decide) dX11_tried_29 rfl hv12 ?_
      refine g_if_ne (n := 33) (tgt := 35) X dX11_tried_30 (by decide) (by omega) rfl (fun c13 => ?_) (fun c13 => ?_)
      · refine g_aload_n (n := 36) X 0 dX11_tried_35 rfl rfl rfl ?_
        refine g_iload_n (n := 37) X 1 dX11_tried_36 rfl rfl rfl ?_
        refine g_callVi (n := 40) (As := [gJ a]) (rest := []) (cs1 := 0) (ss1 := 0) X (s_X11_rowFits2 a (by omega) hsz I C ) okX11_rowFits kw_5_153 ⟨kw_5_155, kw_0_34⟩ ⟨rfl, rfl⟩ ⟨Nat.le_of_ble_eq_true rfl, Nat.le_of_ble_eq_true rfl⟩ rfl (by decide) (gsz hsz (by decide)) lay_0 rfl rfl (Nat.le_of_ble_eq_true rfl) ⟨Nat.le_of_ble_eq_true rfl, Nat.le_of_ble_eq_true rfl⟩ rfl rfl dX11_tried_37 rfl (fun v14 M15 P16 => ?_)
        obtain ⟨rfl, rv14, xv14⟩ := P16
        refine g_if_ne (n := 43) (tgt := 46) X dX11_tried_40 (by decide) (by omega) rfl (fun c17 => ?_) (fun c17 => ?_)
        · refine g_aload_n (n := 47) X 0 dX11_tried_46 rfl rfl rfl ?_
          refine g_aload_n (n := 48) X 0 dX11_tried_47 rfl rfl rfl ?_
          refine gg_11_0 (n := 51) (z := 1) X (by decide) (gsz hsz (by decide)) lay_0 kw_2_231 dX11_tried_48 rfl (rf_0_0 I (gsz hsz (by decide))) (by decide) ?_
          refine gg_9_15 (n := 54) (z := v3) X (by decide) (gsz hsz (by decide)) lay_1 kw_2_139 dX11_tried_51 rfl hv3 ?_
          refine g_callVi (n := 57) (As := [gJ v3]) (rest := []) (cs1 := 0) (ss1 := 0) X (s_X11_readTape v3 (by omega) hsz I C (by have := hv1; omega)) okX11_readTape kw_3_199 ⟨kw_3_201, kw_0_6⟩ ⟨rfl, rfl⟩ ⟨Nat.le_of_ble_eq_true rfl, Nat.le_of_ble_eq_true rfl⟩ rfl (by decide) (gsz hsz (by decide)) lay_0 rfl rfl (Nat.le_of_ble_eq_true rfl) ⟨Nat.le_of_ble_eq_true rfl, Nat.le_of_ble_eq_true rfl⟩ rfl rfl dX11_tried_54 rfl (fun v18 M19 P20 => ?_)
          obtain ⟨rv18, IM19, CM19, FM19⟩ := P20
          refine g_istore_n (n := 58) (L' := [(3, gJ v18), (0, gA n0 0), (1, gJ a), (2, gJ b)]) X dX11_tried_57 rfl (by decide) rfl rfl ?_
          refine g_iload_n (n := 59) X 0 dX11_tried_58 rfl rfl rfl ?_
          refine g_iconst (n := 60) X dX11_tried_59 rfl ?_
          refine g_icmp_eq (n := 63) (tgt := 68) X dX11_tried_60 (by decide) (by omega) (by omega) rfl (fun c21 => ?_) (fun c21 => ?_)
          · refine g_aload_n (n := 69) X 1 dX11_tried_68 rfl rfl rfl ?_
            refine gg_11_0 (n := 72) (z := 1) X (by decide) (gsz hsz (by decide)) lay_0 kw_2_231 dX11_tried_69 rfl (rf_0_0 IM19 (gsz hsz (by decide))) (by decide) ?_
            refine g_dup (n := 73) X dX11_tried_72 rfl rfl ?_
            refine gg_9_13 (n := 76) (z := v1) X (by decide) (gsz hsz (by decide)) lay_1 kw_2_135 dX11_tried_73 rfl ((gFr.at FM19 rc_1_13.2.2 rfl).trans hv1) ?_
            refine g_iconst (n := 77) X dX11_tried_76 rfl ?_
            refine g_iadd (n := 78) (z := v1 + 1) X dX11_tried_77 (by omega) rfl ?_
            refine gp_9_13 (n := 81) X (by decide) (gsz hsz (by decide)) lay_1 kw_2_135 dX11_tried_78 rfl ?_
            refine G.nm (fun M22 e23 => ?_)
            have IM22 : gI sz M22 := gI.set IM19 rc_1_13.1 (by omega) e23
            have CM22 : gC sz M22 := gC.set CM19 rc_1_13.2.1 e23
            refine g_aload_n (n := 82) X 1 dX11_tried_81 rfl rfl rfl ?_
            refine g_callVv (n := 85) (As := []) (rest := []) (cs1 := 0) (ss1 := 0) X (s_X11_findHomes  hsz IM22 CM22 ) okX11_findHomes kw_4_97 ⟨kw_4_99, kw_0_17⟩ ⟨rfl, rfl⟩ ⟨Nat.le_of_ble_eq_true rfl, Nat.le_of_ble_eq_true rfl⟩ rfl (by decide) (gsz hsz (by decide)) lay_0 rfl rfl (Nat.le_of_ble_eq_true rfl) ⟨Nat.le_of_ble_eq_true rfl, Nat.le_of_ble_eq_true rfl⟩ rfl rfl dX11_tried_82 rfl (fun M25 P26 => ?_)
            obtain ⟨IM25, CM25, FM25⟩ := P26
            refine g_aload_n (n := 86) X 1 dX11_tried_85 rfl rfl rfl ?_
            refine g_callVv (n := 89) (As := []) (rest := []) (cs1 := 0) (ss1 := 0) X (s_X11_rememberBefore  hsz IM25 CM25 ) okX11_rememberBefore kw_5_157 ⟨kw_5_159, kw_0_35⟩ ⟨rfl, rfl⟩ ⟨Nat.le_of_ble_eq_true rfl, Nat.le_of_ble_eq_true rfl⟩ rfl (by decide) (gsz hsz (by decide)) lay_0 rfl rfl (Nat.le_of_ble_eq_true rfl) ⟨Nat.le_of_ble_eq_true rfl, Nat.le_of_ble_eq_true rfl⟩ rfl rfl dX11_tried_86 rfl (fun M28 P29 => ?_)
            obtain ⟨IM28, CM28, FM28, xM28⟩ := P29
            have hBr := xM28
            have hFM := ((gFr.c (gFr.c (gFr.s (gFr.c gFr.rf FM19 rfl) e23 rc_1_13.2.2 rfl) FM25 rfl) FM28 rfl) : gFr 4273996096 M M28)
            have hNr : M28 1 10 ≤ 16 := by have q1 := ((gFr.at FM28 rc_1_10.2.2 rfl).trans ((gFr.at FM25 rc_1_10.2.2 rfl).trans ((congrFun (congrFun e23 _) _).trans ((gset_ne (by omega)).trans ((gFr.at FM19 rc_1_10.2.2 rfl).trans hv2))))); omega
            refine g_aload_n (n := 90) X 1 dX11_tried_89 rfl rfl rfl ?_
            refine gg_11_0 (n := 93) (z := 1) X (by decide) (gsz hsz (by decide)) lay_0 kw_2_231 dX11_tried_90 rfl (rf_0_0 IM28 (gsz hsz (by decide))) (by decide) ?_
            refine gg_9_15 (n := 96) (z := v3) X (by decide) (gsz hsz (by decide)) lay_1 kw_2_139 dX11_tried_93 rfl ((gFr.at FM28 rc_1_15.2.2 rfl).trans ((gFr.at FM25 rc_1_15.2.2 rfl).trans ((congrFun (congrFun e23 _) _).trans ((gset_ne (by omega)).trans ((gFr.at FM19 rc_1_15.2.2 rfl).trans hv3))))) ?_
            refine g_istore (n := 98) (L' := [(4, gJ v3), (3, gJ v18), (0, gA n0 0), (1, gJ a), (2, gJ b)]) X dX11_tried_96 (by decide) rfl rfl ?_
            refine g_aload_n (n := 99) X 2 dX11_tried_98 rfl rfl rfl ?_
            refine gg_11_0 (n := 102) (z := 1) X (by decide) (gsz hsz (by decide)) lay_0 kw_2_231 dX11_tried_99 rfl (rf_0_0 IM28 (gsz hsz (by decide))) (by decide) ?_
            refine gg_9_6 (n := 105) (z := 15) X (by decide) (gsz hsz (by decide)) lay_1 kw_2_119 dX11_tried_102 rfl (rf_1_6 IM28 (gsz hsz (by decide))) (by decide) ?_
            refine g_iload_n (n := 106) X 3 dX11_tried_105 rfl rfl rfl ?_
            refine g_iload (n := 108) X 0 dX11_tried_106 rfl rfl ?_
            refine g_callVv (n := 111) (As := [gJ a, gJ v3]) (rest := []) (cs1 := 0) (ss1 := 0) X (s_X2_tellRow a (by omega) v3 (by omega) hsz IM28 CM28 ) okX2_tellRow kw_5_184 ⟨kw_5_185, kw_5_186⟩ ⟨rfl, rfl⟩ ⟨Nat.le_of_ble_eq_true rfl, Nat.le_of_ble_eq_true rfl⟩ rfl (by decide) (gsz hsz (by decide)) lay_15 rfl rfl (Nat.le_of_ble_eq_true rfl) ⟨Nat.le_of_ble_eq_true rfl, Nat.le_of_ble_eq_true rfl⟩ rfl rfl dX11_tried_108 rfl (fun M31 P32 => ?_)
            obtain ⟨IM31, CM31, FM31⟩ := P32
            refine g_aload_n (n := 112) X 2 dX11_tried_111 rfl rfl rfl ?_
            refine gg_11_0 (n := 115) (z := 1) X (by decide) (gsz hsz (by decide)) lay_0 kw_2_231 dX11_tried_112 rfl (rf_0_0 IM31 (gsz hsz (by decide))) (by decide) ?_
            refine g_aload_n (n := 116) X 2 dX11_tried_115 rfl rfl rfl ?_
            refine gg_11_0 (n := 119) (z := 1) X (by decide) (gsz hsz (by decide)) lay_0 kw_2_231 dX11_tried_116 rfl (rf_0_0 IM31 (gsz hsz (by decide))) (by decide) ?_
            refine gg_9_6 (n := 122) (z := 15) X (by decide) (gsz hsz (by decide)) lay_1 kw_2_119 dX11_tried_119 rfl (rf_1_6 IM31 (gsz hsz (by decide))) (by decide) ?_
            refine gg_2_2 (n := 125) (z := 18) X (by decide) (gsz hsz (by decide)) lay_15 kw_1_102 dX11_tried_122 rfl (rf_15_2 IM31 (gsz hsz (by decide))) (by decide) ?_
            refine g_iload_n (n := 126) X 3 dX11_tried_125 rfl rfl rfl ?_
            refine g_iald2 (n := 127) (v := v12) X (by decide) (gsz hsz (by decide)) lay_18 (by omega) (by omega) (by decide) dX11_tried_126 rfl ((gFr.at FM31 (ra_18 a).2.2 rfl).trans ((gFr.at FM28 (ra_18 a).2.2 rfl).trans ((gFr.at FM25 (ra_18 a).2.2 rfl).trans ((congrFun (congrFun e23 _) _).trans ((gset_ne (by omega)).trans ((gFr.at FM19 (ra_18 a).2.2 rfl).trans hv12)))))) ?_
            have tM31_15 : M31 1 15 = v3 := ((gFr.at FM31 rc_1_15.2.2 rfl).trans ((gFr.at FM28 rc_1_15.2.2 rfl).trans ((gFr.at FM25 rc_1_15.2.2 rfl).trans ((congrFun (congrFun e23 _) _).trans ((gset_ne (by omega)).trans ((gFr.at FM19 rc_1_15.2.2 rfl).trans hv3))))))
            refine g_callVv (n := 130) (As := [gJ v12]) (rest := []) (cs1 := 0) (ss1 := 0) X (s_X9_goBy v12 (by omega) hsz IM31 CM31 ) okX9_goBy kw_4_185 ⟨kw_4_186, kw_4_187⟩ ⟨rfl, rfl⟩ ⟨Nat.le_of_ble_eq_true rfl, Nat.le_of_ble_eq_true rfl⟩ rfl (by decide) (gsz hsz (by decide)) lay_1 rfl rfl (Nat.le_of_ble_eq_true rfl) ⟨Nat.le_of_ble_eq_true rfl, Nat.le_of_ble_eq_true rfl⟩ rfl rfl dX11_tried_127 rfl (fun M34 P35 => ?_)
            obtain ⟨IM34, CM34, FM34, xM34⟩ := P35
            refine g_aload_n (n := 131) X 2 dX11_tried_130 rfl rfl rfl ?_
            refine g_iload (n := 133) X 0 dX11_tried_131 rfl rfl ?_
            refine g_iload_n (n := 134) X 4 dX11_tried_133 rfl rfl rfl ?_
            refine g_callVi (n := 137) (As := [gJ v3, gJ b]) (rest := []) (cs1 := 0) (ss1 := 0) X (s_X11_sumOfTry v3 (by omega) b (by omega) hsz IM34 CM34 ) okX11_sumOfTry kw_5_196 ⟨kw_5_198, kw_0_38⟩ ⟨rfl, rfl⟩ ⟨Nat.le_of_ble_eq_true rfl, Nat.le_of_ble_eq_true rfl⟩ rfl (by decide) (gsz hsz (by decide)) lay_0 rfl rfl (Nat.le_of_ble_eq_true rfl) ⟨Nat.le_of_ble_eq_true rfl, Nat.le_of_ble_eq_true rfl⟩ rfl rfl dX11_tried_134 rfl (fun v36 M37 P38 => ?_)
            obtain ⟨rfl, rv36⟩ := P38
            refine g_istore (n := 139) (L' := [(5, gJ v36), (4, gJ v3), (3, gJ v18), (0, gA n0 0), (1, gJ a), (2, gJ b)]) X dX11_tried_137 (by decide) rfl rfl ?_
            refine g_aload_n (n := 140) X 3 dX11_tried_139 rfl rfl rfl ?_
            refine g_iload (n := 142) X 1 dX11_tried_140 rfl rfl ?_
            refine g_callVv (n := 145) (As := [gJ v3]) (rest := []) (cs1 := 0) (ss1 := 0) X (s_X11_bringBack v3 (by omega) hsz IM34 CM34 ) okX11_bringBack kw_5_188 ⟨kw_5_190, kw_0_37⟩ ⟨rfl, rfl⟩ ⟨Nat.le_of_ble_eq_true rfl, Nat.le_of_ble_eq_true rfl⟩ rfl (by decide) (gsz hsz (by decide)) lay_0 rfl rfl (Nat.le_of_ble_eq_true rfl) ⟨Nat.le_of_ble_eq_true rfl, Nat.le_of_ble_eq_true rfl⟩ rfl rfl dX11_tried_142 rfl (fun M40 P41 => ?_)
            obtain ⟨IM40, CM40, FM40, xM40⟩ := P41
            refine g_aload_n (n := 146) X 3 dX11_tried_145 rfl rfl rfl ?_
            refine gg_11_0 (n := 149) (z := 1) X (by decide) (gsz hsz (by decide)) lay_0 kw_2_231 dX11_tried_146 rfl (rf_0_0 IM40 (gsz hsz (by decide))) (by decide) ?_
            refine g_dup (n := 150) X dX11_tried_149 rfl rfl ?_
            refine gg_9_13 (n := 153) (z := v1 + 1) X (by decide) (gsz hsz (by decide)) lay_1 kw_2_135 dX11_tried_150 rfl ((gFr.at FM40 rc_1_13.2.2 rfl).trans ((gFr.at FM34 rc_1_13.2.2 rfl).trans ((gFr.at FM31 rc_1_13.2.2 rfl).trans ((gFr.at FM28 rc_1_13.2.2 rfl).trans ((gFr.at FM25 rc_1_13.2.2 rfl).trans ((congrFun (congrFun e23 _) _).trans (gset_eq _ _ _ _))))))) ?_
            refine g_iconst (n := 154) X dX11_tried_153 rfl ?_
            refine g_isub (n := 155) (z := v1) X dX11_tried_154 (by omega) rfl ?_
            refine gp_9_13 (n := 158) X (by decide) (gsz hsz (by decide)) lay_1 kw_2_135 dX11_tried_155 rfl ?_
            refine G.nm (fun M42 e43 => ?_)
            have IM42 : gI sz M42 := gI.set IM40 rc_1_13.1 (by omega) e43
            have CM42 : gC sz M42 := gC.set CM40 rc_1_13.2.1 e43
            refine g_iload (n := 160) X 0 dX11_tried_158 rfl rfl ?_
            exact hq _ _ _ _ dX11_tried_160 ⟨by omega, IM42, CM42, (gFr.s (gFr.c (gFr.c (gFr.c (gFr.c (gFr.c (gFr.s (gFr.c gFr.rf FM19 rfl) e23 rc_1_13.2.2 rfl) FM25 rfl) FM28 rfl) FM31 rfl) FM34 rfl) FM40 rfl) e43 rc_1_13.2.2 rfl), ⟨gSm11.of (by omega) hFM rfl (gSm.acts (⟨(fun i k h0 h1 hk => (xM40.1 i k h0 (by rw [(gFr.at ((gFr.c (gFr.c gFr.rf FM31 rfl) FM34 rfl) : gFr 16848976 M28 M34) rc_1_10.2.2 rfl)]; exact h1) hk).trans ((gFr.Q ((gFr.c (gFr.c gFr.rf FM31 rfl) FM34 rfl) : gFr 16848976 M28 M34) rfl (by omega) k).trans (hBr.1 i k h0 h1 hk))), (fun b h0 h1 => (xM40.2.1 b h0 h1).trans ((gFr.at ((gFr.c (gFr.c gFr.rf FM31 rfl) FM34 rfl) : gFr 16848976 M28 M34) (ra_163 b).2.2 rfl).trans (hBr.2.1 b h0 h1))), (fun b h0 h1 => (xM40.2.2.1 b h0 h1).trans ((gFr.at ((gFr.c (gFr.c gFr.rf FM31 rfl) FM34 rfl) : gFr 16848976 M28 M34) (ra_164 b).2.2 rfl).trans (hBr.2.2.1 b h0 h1))), (fun b h0 h1 => (xM40.2.2.2.1 b h0 h1).trans ((gFr.at ((gFr.c (gFr.c gFr.rf FM31 rfl) FM34 rfl) : gFr 16848976 M28 M34) (ra_165 b).2.2 rfl).trans (hBr.2.2.2.1 b h0 h1))), (fun b h0 h1 => (xM40.2.2.2.2.1 b h0 h1).trans ((gFr.at ((gFr.c (gFr.c gFr.rf FM31 rfl) FM34 rfl) : gFr 16848976 M28 M34) (ra_166 b).2.2 rfl).trans (hBr.2.2.2.2.1 b h0 h1))), (fun b h0 h1 => (xM40.2.2.2.2.2.1 b h0 h1).trans ((gFr.at ((gFr.c (gFr.c gFr.rf FM31 rfl) FM34 rfl) : gFr 16848976 M28 M34) (ra_167 b).2.2 rfl).trans (hBr.2.2.2.2.2.1 b h0 h1))), (fun b h0 h1 => (xM40.2.2.2.2.2.2.1 b h0 h1).trans ((gFr.at ((gFr.c (gFr.c gFr.rf FM31 rfl) FM34 rfl) : gFr 16848976 M28 M34) (ra_168 b).2.2 rfl).trans (hBr.2.2.2.2.2.2.1 b h0 h1))), (fun b h0 h1 => (xM40.2.2.2.2.2.2.2.1 b h0 h1).trans ((gFr.at ((gFr.c (gFr.c gFr.rf FM31 rfl) FM34 rfl) : gFr 16848976 M28 M34) (ra_169 b).2.2 rfl).trans (hBr.2.2.2.2.2.2.2.1 b h0 h1))), (xM40.2.2.2.2.2.2.2.2.1.trans ((gFr.at ((gFr.c (gFr.c gFr.rf FM31 rfl) FM34 rfl) : gFr 16848976 M28 M34) rc_162_7.2.2 rfl).trans hBr.2.2.2.2.2.2.2.2.1)), (xM40.2.2.2.2.2.2.2.2.2.1.trans ((gFr.at ((gFr.c (gFr.c gFr.rf FM31 rfl) FM34 rfl) : gFr 16848976 M28 M34) rc_162_8.2.2 rfl).trans hBr.2.2.2.2.2.2.2.2.2.1)), (xM40.2.2.2.2.2.2.2.2.2.2.1.trans ((gFr.at ((gFr.c (gFr.c gFr.rf FM31 rfl) FM34 rfl) : gFr 16848976 M28 M34) rc_162_9.2.2 rfl).trans hBr.2.2.2.2.2.2.2.2.2.2)), (xM40.2.2.2.2.2.2.2.2.2.2.2.trans ((gFr.at FM28 rc_1_15.2.2 rfl).trans ((gFr.at FM25 rc_1_15.2.2 rfl).trans ((congrFun (congrFun e23 _) _).trans ((gset_ne (by omega)).trans ((gFr.at FM19 rc_1_15.2.2 rfl).trans hv3))))).symm)⟩ : gSm M28 M40) e43), by have q1 := ((congrFun (congrFun e43 _) _).trans (gset_eq _ _ _ _)); omega⟩⟩
          · refine g_bipush (n := 65) X dX11_tried_63 (by decide +kernel) rfl ?_
            refine g_iload_n (n := 66) X 0 dX11_tried_65 rfl rfl rfl ?_
            refine g_isub (n := 67) (z := (-10) - v18) X dX11_tried_66 rfl rfl ?_
            exact hq _ _ _ _ dX11_tried_67 ⟨by omega, IM19, CM19, (gFr.c gFr.rf FM19 rfl), ⟨gSm11.of (by omega) ((gFr.c gFr.rf FM19 rfl) : gFr 1015021824 M M19) rfl gSm.rf, by have q1 := ((gFr.at FM19 rc_1_13.2.2 rfl).trans hv1); omega⟩⟩
        · refine g_bipush (n := 45) X dX11_tried_43 (by decide +kernel) rfl ?_
          exact hq _ _ _ _ dX11_tried_45 ⟨by omega, I, C, gFr.rf, ⟨gSm11.rf, rfl⟩⟩
      · refine g_iconst (n := 34) X dX11_tried_33 rfl ?_
        exact hq _ _ _ _ dX11_tried_34 ⟨by omega, I, C, gFr.rf, ⟨gSm11.rf, rfl⟩⟩
