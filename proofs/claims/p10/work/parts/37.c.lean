def gBf (M : gM) : Prop := (∀ i k : Int, 0 ≤ i → i < M 1 10 → gCp k → M (174 + i) k = M (31 + i) k) ∧ (∀ b : Int, 0 ≤ b → b < 4 → M 163 b = M 16 b) ∧ (∀ b : Int, 0 ≤ b → b < 301 → M 164 b = M 17 b) ∧ (∀ b : Int, 0 ≤ b → b < 3 → M 165 b = M 18 b) ∧ (∀ b : Int, 0 ≤ b → b < 30 → M 166 b = M 19 b) ∧ (∀ b : Int, 0 ≤ b → b < 6 → M 167 b = M 20 b) ∧ (∀ b : Int, 0 ≤ b → b < 6 → M 168 b = M 21 b) ∧ (∀ b : Int, 0 ≤ b → b < 6 → M 169 b = M 22 b) ∧ M 162 7 = M 15 7 ∧ M 162 8 = M 15 8 ∧ M 162 9 = M 15 9
def gSm (M M1 : gM) : Prop := (∀ i k : Int, 0 ≤ i → i < M 1 10 → gCp k → M1 (31 + i) k = M (31 + i) k) ∧ (∀ b : Int, 0 ≤ b → b < 4 → M1 16 b = M 16 b) ∧ (∀ b : Int, 0 ≤ b → b < 301 → M1 17 b = M 17 b) ∧ (∀ b : Int, 0 ≤ b → b < 3 → M1 18 b = M 18 b) ∧ (∀ b : Int, 0 ≤ b → b < 30 → M1 19 b = M 19 b) ∧ (∀ b : Int, 0 ≤ b → b < 6 → M1 20 b = M 20 b) ∧ (∀ b : Int, 0 ≤ b → b < 6 → M1 21 b = M 21 b) ∧ (∀ b : Int, 0 ≤ b → b < 6 → M1 22 b = M 22 b) ∧ M1 15 7 = M 15 7 ∧ M1 15 8 = M 15 8 ∧ M1 15 9 = M 15 9 ∧ M1 1 15 = M 1 15
theorem gSm.rf {M : gM} : gSm M M := ⟨fun _ _ _ _ _ => rfl, fun _ _ _ => rfl, fun _ _ _ => rfl, fun _ _ _ => rfl, fun _ _ _ => rfl, fun _ _ _ => rfl, fun _ _ _ => rfl, fun _ _ _ => rfl, rfl, rfl, rfl, rfl⟩
theorem dX11_rememberBefore_0 : decode cX11_rememberBefore 0 = .ok (.iconst 0, 1) := dc_3 (by decide +kernel)
theorem dX11_rememberBefore_1 : decode cX11_rememberBefore 1 = .ok (.istore_n 1, 1) := dc_60 (by decide +kernel)
theorem dX11_rememberBefore_2 : decode cX11_rememberBefore 2 = .ok (.iload_n 1, 1) := dc_27 (by decide +kernel)
theorem dX11_rememberBefore_3 : decode cX11_rememberBefore 3 = .ok (.aload_n 0, 1) := dc_42 (by decide +kernel)
theorem dX11_rememberBefore_4 : decode cX11_rememberBefore 4 = .ok (.getfield 10, 3) := dc_180 0 10 (by decide +kernel)
theorem dX11_rememberBefore_7 : decode cX11_rememberBefore 7 = .ok (.getfield 98, 3) := dc_180 0 98 (by decide +kernel)
theorem dX11_rememberBefore_10 : decode cX11_rememberBefore 10 = .ok (.if_icmp .ge 27, 3) := dc_162 0 27 27 (by decide +kernel)
theorem dX11_rememberBefore_37 : decode cX11_rememberBefore 37 = .ok (.aload_n 0, 1) := dc_42 (by decide +kernel)
theorem dX11_rememberBefore_38 : decode cX11_rememberBefore 38 = .ok (.getfield 39, 3) := dc_180 0 39 (by decide +kernel)
theorem kw_2_235 : (Jvm.Cond.fieldLink "ParishUnion" (39 : Nat) "ParishUnion" "houseBefore" "LParishUnion$House;") ∈ gT := gT_of (tb_2 _ (List.mem_of_getElem? (i := 235) rfl)) rfl
theorem rf_0_4 {sz : Nat} {M : gM} (I : gI sz M) (h : (0 : Int) < (sz : Int)) : M 0 4 = 162 + 1 := gI.rf I (by decide) h (by decide +kernel)
theorem dX11_rememberBefore_41 : decode cX11_rememberBefore 41 = .ok (.aload_n 0, 1) := dc_42 (by decide +kernel)
theorem dX11_rememberBefore_42 : decode cX11_rememberBefore 42 = .ok (.getfield 10, 3) := dc_180 0 10 (by decide +kernel)
theorem dX11_rememberBefore_45 : decode cX11_rememberBefore 45 = .ok (.getfield 279, 3) := dc_180 1 23 (by decide +kernel)
theorem dX11_rememberBefore_48 : decode cX11_rememberBefore 48 = .ok (.invokevirtual 464, 3) := dc_182 1 208 (by decide +kernel)
theorem kw_5_165 : (Jvm.Cond.methodLink "ParishUnion" (464 : Nat) ({ cls := "ParishUnion$House", name := "copyFrom", desc := "(LParishUnion$House;)V" } : Jvm.MethodName)) ∈ gT := gT_of (tb_5 _ (List.mem_of_getElem? (i := 165) rfl)) rfl
theorem kw_5_168 : (Jvm.Cond.code ({ cls := "ParishUnion$House", name := "copyFrom", desc := "(LParishUnion$House;)V" } : Jvm.MethodName) prog_4_method_2_code (2 : Nat) (Option.none : Option Jvm.ClassFile.FieldType)) ∈ gT := gT_of (tb_5 _ (List.mem_of_getElem? (i := 168) rfl)) rfl
theorem okX2_copyFrom : gQok yX2_copyFrom cX2_copyFrom 2 (Option.none : Option Jvm.ClassFile.FieldType) 1 := ⟨kw_5_168, kw_1_5, by decide +kernel, by decide +kernel, by decide +kernel⟩
theorem kw_5_166 : (Jvm.Cond.instanceMethod ({ cls := "ParishUnion$House", name := "copyFrom", desc := "(LParishUnion$House;)V" } : Jvm.MethodName)) ∈ gT := gT_of (tb_5 _ (List.mem_of_getElem? (i := 166) rfl)) rfl
theorem kw_5_167 : (Jvm.Cond.selects "ParishUnion$House" ({ cls := "ParishUnion$House", name := "copyFrom", desc := "(LParishUnion$House;)V" } : Jvm.MethodName) ({ cls := "ParishUnion$House", name := "copyFrom", desc := "(LParishUnion$House;)V" } : Jvm.MethodName)) ∈ gT := gT_of (tb_5 _ (List.mem_of_getElem? (i := 167) rfl)) rfl
theorem dX11_rememberBefore_51 : decode cX11_rememberBefore 51 = .ok (.return_, 1) := dc_177 (by decide +kernel)
theorem dX11_rememberBefore_13 : decode cX11_rememberBefore 13 = .ok (.aload_n 0, 1) := dc_42 (by decide +kernel)
theorem dX11_rememberBefore_14 : decode cX11_rememberBefore 14 = .ok (.getfield 32, 3) := dc_180 0 32 (by decide +kernel)
theorem kw_2_234 : (Jvm.Cond.fieldLink "ParishUnion" (32 : Nat) "ParishUnion" "personsBefore" "[LParishUnion$Person;") ∈ gT := gT_of (tb_2 _ (List.mem_of_getElem? (i := 234) rfl)) rfl
theorem rf_0_3 {sz : Nat} {M : gM} (I : gI sz M) (h : (0 : Int) < (sz : Int)) : M 0 3 = 161 + 1 := gI.rf I (by decide) h (by decide +kernel)
theorem dX11_rememberBefore_17 : decode cX11_rememberBefore 17 = .ok (.iload_n 1, 1) := dc_27 (by decide +kernel)
theorem dX11_rememberBefore_18 : decode cX11_rememberBefore 18 = .ok (.aaload, 1) := dc_50 (by decide +kernel)
theorem dX11_rememberBefore_19 : decode cX11_rememberBefore 19 = .ok (.aload_n 0, 1) := dc_42 (by decide +kernel)
theorem dX11_rememberBefore_20 : decode cX11_rememberBefore 20 = .ok (.getfield 10, 3) := dc_180 0 10 (by decide +kernel)
theorem dX11_rememberBefore_23 : decode cX11_rememberBefore 23 = .ok (.getfield 89, 3) := dc_180 0 89 (by decide +kernel)
theorem dX11_rememberBefore_26 : decode cX11_rememberBefore 26 = .ok (.iload_n 1, 1) := dc_27 (by decide +kernel)
theorem dX11_rememberBefore_27 : decode cX11_rememberBefore 27 = .ok (.aaload, 1) := dc_50 (by decide +kernel)
theorem dX11_rememberBefore_28 : decode cX11_rememberBefore 28 = .ok (.invokevirtual 461, 3) := dc_182 1 205 (by decide +kernel)
theorem kw_5_161 : (Jvm.Cond.methodLink "ParishUnion" (461 : Nat) ({ cls := "ParishUnion$Person", name := "copyFrom", desc := "(LParishUnion$Person;)V" } : Jvm.MethodName)) ∈ gT := gT_of (tb_5 _ (List.mem_of_getElem? (i := 161) rfl)) rfl
theorem kw_5_164 : (Jvm.Cond.code ({ cls := "ParishUnion$Person", name := "copyFrom", desc := "(LParishUnion$Person;)V" } : Jvm.MethodName) prog_8_method_3_code (2 : Nat) (Option.none : Option Jvm.ClassFile.FieldType)) ∈ gT := gT_of (tb_5 _ (List.mem_of_getElem? (i := 164) rfl)) rfl
theorem okX6_copyFrom : gQok yX6_copyFrom cX6_copyFrom 2 (Option.none : Option Jvm.ClassFile.FieldType) 1 := ⟨kw_5_164, kw_1_8, by decide +kernel, by decide +kernel, by decide +kernel⟩
theorem kw_5_162 : (Jvm.Cond.instanceMethod ({ cls := "ParishUnion$Person", name := "copyFrom", desc := "(LParishUnion$Person;)V" } : Jvm.MethodName)) ∈ gT := gT_of (tb_5 _ (List.mem_of_getElem? (i := 162) rfl)) rfl
theorem kw_5_163 : (Jvm.Cond.selects "ParishUnion$Person" ({ cls := "ParishUnion$Person", name := "copyFrom", desc := "(LParishUnion$Person;)V" } : Jvm.MethodName) ({ cls := "ParishUnion$Person", name := "copyFrom", desc := "(LParishUnion$Person;)V" } : Jvm.MethodName)) ∈ gT := gT_of (tb_5 _ (List.mem_of_getElem? (i := 163) rfl)) rfl
theorem dX11_rememberBefore_31 : decode cX11_rememberBefore 31 = .ok (.iinc 1 1, 3) := dc_132 1 1 1 (by decide +kernel)
theorem dX11_rememberBefore_34 : decode cX11_rememberBefore 34 = .ok (.goto (-32), 3) := dc_167 255 224 (-32) (by decide +kernel)
abbrev R_X11_rememberBefore : Room := { frames := 5, cells := 0, slots := 0, locals := 141 }
set_option maxRecDepth 100000 in
set_option maxHeartbeats 4000000 in
theorem s_X11_rememberBefore {l : Launch} {n0 : Nat} {D : va_G} {cA : Nat → ClassId} {M : gM}  {sz : Nat} (hsz : 206 ≤ sz) (I : gI sz M) (C : gC sz M)   : Met l yX11_rememberBefore (gWsOf yX11_rememberBefore cX11_rememberBefore 2 (Option.none : Option Jvm.ClassFile.FieldType)) R_X11_rememberBefore (gPc n0 D cA [gA n0 0] M sz) (gQv n0 D cA sz (fun M1 => gI sz M1 ∧ gC sz M1 ∧ gFr 3221225472 M M1 ∧ (gBf M1))) 0 0 (fun q => n0 ≤ q) := by
  refine gMetV [gA n0 0] (by decide) (Nat.le_of_ble_eq_true rfl) ⟨rfl, rfl⟩ ?_
  intro p e s m args below meth cd Q X hq
  have X : gCx p s m args meth cd n0 D cA "ParishUnion" cX11_rememberBefore 2 := X
  show G p l e R_X11_rememberBefore s m args below meth cd n0 D cA 2 Q 0 0 M sz 0 [(0, gA n0 0)] []
  obtain ⟨v1, hv1, rv1⟩ := gRd I (by decide) (gsz hsz (by decide)) rc_1_10.1
  refine g_iconst (n := 1) X dX11_rememberBefore_0 rfl ?_
  refine g_istore_n (n := 2) (L' := [(1, gJ 0), (0, gA n0 0)]) X dX11_rememberBefore_1 rfl (by decide) rfl rfl ?_
  have j4 : ∀ (N50 : Nat) (v2 : Int) (M3 : gM) , (0 ≤ v2 ∧ v2 ≤ 16) → gI sz M3 → gC sz M3 → gFr 1073741824 M M3 → (∀ j k : Int, 0 ≤ j → j < v2 → gCp k → M3 (174 + j) k = M (31 + j) k) → (16 - v2).toNat < N50 → G p l e R_X11_rememberBefore s m args below meth cd n0 D cA 2 Q 0 0 M3 sz 2 [(0, gA n0 0), (1, gJ v2)] [] := by
    intro N50; induction N50 with
    | zero => intro v2 M3 rv2 IM3 CM3 FM3 hB hm52; exfalso; omega
    | succ N50 ih51 =>
      intro v2 M3 rv2 IM3 CM3 FM3 hB hm52
      refine g_iload_n (n := 3) X 1 dX11_rememberBefore_2 rfl rfl rfl ?_
      refine g_aload_n (n := 4) X 0 dX11_rememberBefore_3 rfl rfl rfl ?_
      refine gg_11_0 (n := 7) (z := 1) X (by decide) (gsz hsz (by decide)) lay_0 kw_2_231 dX11_rememberBefore_4 rfl (rf_0_0 IM3 (gsz hsz (by decide))) (by decide) ?_
      refine gg_9_10 (n := 10) (z := v1) X (by decide) (gsz hsz (by decide)) lay_1 kw_2_127 dX11_rememberBefore_7 rfl ((gFr.at FM3 rc_1_10.2.2 rfl).trans hv1) ?_
      refine g_icmp_ge (n := 13) (tgt := 37) X dX11_rememberBefore_10 (by decide) (by omega) (by omega) rfl (fun c53 => ?_) (fun c53 => ?_)
      · refine g_aload_n (n := 38) X 0 dX11_rememberBefore_37 rfl rfl rfl ?_
        refine gg_11_4 (n := 41) (z := 162) X (by decide) (gsz hsz (by decide)) lay_0 kw_2_235 dX11_rememberBefore_38 rfl (rf_0_4 IM3 (gsz hsz (by decide))) (by decide) ?_
        refine g_aload_n (n := 42) X 0 dX11_rememberBefore_41 rfl rfl rfl ?_
        refine gg_11_0 (n := 45) (z := 1) X (by decide) (gsz hsz (by decide)) lay_0 kw_2_231 dX11_rememberBefore_42 rfl (rf_0_0 IM3 (gsz hsz (by decide))) (by decide) ?_
        refine gg_9_6 (n := 48) (z := 15) X (by decide) (gsz hsz (by decide)) lay_1 kw_2_119 dX11_rememberBefore_45 rfl (rf_1_6 IM3 (gsz hsz (by decide))) (by decide) ?_
        refine g_callVv (n := 51) (As := [gA n0 15]) (rest := []) (cs1 := 0) (ss1 := 0) X (s_X2_copyFrom_162_15  hsz IM3 CM3 ) okX2_copyFrom kw_5_165 ⟨kw_5_166, kw_5_167⟩ ⟨rfl, rfl⟩ ⟨Nat.le_of_ble_eq_true rfl, Nat.le_of_ble_eq_true rfl⟩ rfl (by decide) (gsz hsz (by decide)) lay_162 rfl rfl (Nat.le_of_ble_eq_true rfl) ⟨Nat.le_of_ble_eq_true rfl, Nat.le_of_ble_eq_true rfl⟩ rfl rfl dX11_rememberBefore_48 rfl (fun M55 P56 => ?_)
        obtain ⟨IM55, CM55, FM55, xM55⟩ := P56
        exact hq _ _ _ dX11_rememberBefore_51 ⟨IM55, CM55, (gFr.c (gFr.c gFr.rf FM3 rfl) FM55 rfl), ⟨(fun i k h0 h1 hk => by have q1 := ((gFr.at FM55 rc_1_10.2.2 rfl).trans ((gFr.at FM3 rc_1_10.2.2 rfl).trans hv1)); have q2 : M55 1 10 = M 1 10 := gFr.at ((gFr.c (gFr.c gFr.rf FM3 rfl) FM55 rfl) : gFr 3221225472 M M55) rc_1_10.2.2 rfl; rw [gFr.P (o := 31 + i) ((gFr.c (gFr.c gFr.rf FM3 rfl) FM55 rfl) : gFr 3221225472 M M55) rfl (by omega) k, gFr.Q (o := 174 + i) FM55 rfl (by omega) k]; exact hB i k h0 (by omega) hk), (fun b h0 h1 => ((xM55.1) b h0 h1).trans (gFr.at FM55 (ra_16 b).2.2 rfl).symm), (fun b h0 h1 => ((xM55.2.1) b h0 h1).trans (gFr.at FM55 (ra_17 b).2.2 rfl).symm), (fun b h0 h1 => ((xM55.2.2.1) b h0 h1).trans (gFr.at FM55 (ra_18 b).2.2 rfl).symm), (fun b h0 h1 => ((xM55.2.2.2.1) b h0 h1).trans (gFr.at FM55 (ra_19 b).2.2 rfl).symm), (fun b h0 h1 => ((xM55.2.2.2.2.1) b h0 h1).trans (gFr.at FM55 (ra_20 b).2.2 rfl).symm), (fun b h0 h1 => ((xM55.2.2.2.2.2.1) b h0 h1).trans (gFr.at FM55 (ra_21 b).2.2 rfl).symm), (fun b h0 h1 => ((xM55.2.2.2.2.2.2.1) b h0 h1).trans (gFr.at FM55 (ra_22 b).2.2 rfl).symm), ((xM55.2.2.2.2.2.2.2.1).trans (gFr.at FM55 rc_15_7.2.2 rfl).symm), ((xM55.2.2.2.2.2.2.2.2.1).trans (gFr.at FM55 rc_15_8.2.2 rfl).symm), ((xM55.2.2.2.2.2.2.2.2.2).trans (gFr.at FM55 rc_15_9.2.2 rfl).symm)⟩⟩
      · refine g_aload_n (n := 14) X 0 dX11_rememberBefore_13 rfl rfl rfl ?_
        refine gg_11_3 (n := 17) (z := 161) X (by decide) (gsz hsz (by decide)) lay_0 kw_2_234 dX11_rememberBefore_14 rfl (rf_0_3 IM3 (gsz hsz (by decide))) (by decide) ?_
        refine g_iload_n (n := 18) X 1 dX11_rememberBefore_17 rfl rfl rfl ?_
        obtain ⟨o57, ho57, ro57⟩ : ∃ o : Int, o = 174 + v2 ∧ (174 ≤ o ∧ o < 190) := ⟨_, rfl, by omega⟩
        refine g_aald6 (n := 19) (t := o57) X (by decide) (gsz hsz (by decide)) lay_161 (by omega) (by omega) (by decide) (gA161 IM3 hsz (by omega) (by omega) (by omega)) (by omega) dX11_rememberBefore_18 rfl ?_
        refine g_aload_n (n := 20) X 0 dX11_rememberBefore_19 rfl rfl rfl ?_
        refine gg_11_0 (n := 23) (z := 1) X (by decide) (gsz hsz (by decide)) lay_0 kw_2_231 dX11_rememberBefore_20 rfl (rf_0_0 IM3 (gsz hsz (by decide))) (by decide) ?_
        refine gg_9_1 (n := 26) (z := 5) X (by decide) (gsz hsz (by decide)) lay_1 kw_2_108 dX11_rememberBefore_23 rfl (rf_1_1 IM3 (gsz hsz (by decide))) (by decide) ?_
        refine g_iload_n (n := 27) X 1 dX11_rememberBefore_26 rfl rfl rfl ?_
        obtain ⟨o58, ho58, ro58⟩ : ∃ o : Int, o = 31 + v2 ∧ (31 ≤ o ∧ o < 47) := ⟨_, rfl, by omega⟩
        refine g_aald6 (n := 28) (t := o58) X (by decide) (gsz hsz (by decide)) lay_5 (by omega) (by omega) (by decide) (gA5 IM3 hsz (by omega) (by omega) (by omega)) (by omega) dX11_rememberBefore_27 rfl ?_
        refine g_callVv (n := 31) (As := [gA n0 o58]) (rest := []) (cs1 := 0) (ss1 := 0) X (s_X6_copyFrom o57 (Or.inr (Or.inl ro57)) o58 (Or.inl ro58) hsz IM3 CM3 (by omega)) okX6_copyFrom kw_5_161 ⟨kw_5_162, kw_5_163⟩ ⟨rfl, rfl⟩ ⟨Nat.le_of_ble_eq_true rfl, Nat.le_of_ble_eq_true rfl⟩ rfl (by omega) (by omega) (lay3_Pz (sz := sz) (Or.inr (Or.inl ro57))) rfl rfl (Nat.le_of_ble_eq_true rfl) ⟨Nat.le_of_ble_eq_true rfl, Nat.le_of_ble_eq_true rfl⟩ rfl rfl dX11_rememberBefore_28 rfl (fun M60 P61 => ?_)
        obtain ⟨IM60, CM60, KM60, EM60, NM60⟩ := P61
        have FM60 : gFr 1073741824 M3 M60 := gFr.obj KM60 (gGQ_all ro57)
        refine g_iinc (n := 34) (w := v2 + 1) (L' := [(1, gJ (v2 + 1)), (0, gA n0 0)]) X 1 dX11_rememberBefore_31 rfl rfl (by decide) rfl rfl ?_
        refine g_goto (tgt := 2) X dX11_rememberBefore_34 (by decide) ?_
        refine G.sub (L' := [(0, gA n0 0), (1, gJ (v2 + 1))]) [1, 0] rfl ?_
        exact ih51 (v2 + 1) M60 (by omega) IM60 CM60 (gFr.c (gFr.c gFr.rf FM3 rfl) FM60 rfl) (fun j k h0 h1 hk => if g : j = v2 then (by rw [show 174 + j = o57 by omega, EM60 k hk, show 31 + j = o58 by omega]; exact (gFr.P ((gFr.c gFr.rf FM3 rfl) : gFr 1073741824 M M3) rfl (by omega) k)) else (by rw [KM60 (174 + j) k (by omega)]; exact hB j k h0 (by omega) hk)) (by omega)
  refine G.sub (L' := [(0, gA n0 0), (1, gJ 0)]) [1, 0] rfl ?_
  exact j4 _ 0 M (by omega) I C gFr.rf (fun j k h0 h1 hk => by exfalso; omega) (Nat.lt_succ_self _)
theorem dX11_bringBack_0 : decode cX11_bringBack 0 = .ok (.iconst 0, 1) := dc_3 (by decide +kernel)
theorem dX11_bringBack_1 : decode cX11_bringBack 1 = .ok (.istore_n 2, 1) := dc_61 (by decide +kernel)
theorem dX11_bringBack_2 : decode cX11_bringBack 2 = .ok (.iload_n 2, 1) := dc_28 (by decide +kernel)
theorem dX11_bringBack_3 : decode cX11_bringBack 3 = .ok (.aload_n 0, 1) := dc_42 (by decide +kernel)
theorem dX11_bringBack_4 : decode cX11_bringBack 4 = .ok (.getfield 10, 3) := dc_180 0 10 (by decide +kernel)
theorem dX11_bringBack_7 : decode cX11_bringBack 7 = .ok (.getfield 98, 3) := dc_180 0 98 (by decide +kernel)
theorem dX11_bringBack_10 : decode cX11_bringBack 10 = .ok (.if_icmp .ge 27, 3) := dc_162 0 27 27 (by decide +kernel)
theorem dX11_bringBack_37 : decode cX11_bringBack 37 = .ok (.aload_n 0, 1) := dc_42 (by decide +kernel)
theorem dX11_bringBack_38 : decode cX11_bringBack 38 = .ok (.getfield 10, 3) := dc_180 0 10 (by decide +kernel)
theorem dX11_bringBack_41 : decode cX11_bringBack 41 = .ok (.getfield 279, 3) := dc_180 1 23 (by decide +kernel)
theorem dX11_bringBack_44 : decode cX11_bringBack 44 = .ok (.aload_n 0, 1) := dc_42 (by decide +kernel)
theorem dX11_bringBack_45 : decode cX11_bringBack 45 = .ok (.getfield 39, 3) := dc_180 0 39 (by decide +kernel)
theorem dX11_bringBack_48 : decode cX11_bringBack 48 = .ok (.invokevirtual 464, 3) := dc_182 1 208 (by decide +kernel)
theorem dX11_bringBack_51 : decode cX11_bringBack 51 = .ok (.aload_n 0, 1) := dc_42 (by decide +kernel)
theorem dX11_bringBack_52 : decode cX11_bringBack 52 = .ok (.getfield 10, 3) := dc_180 0 10 (by decide +kernel)
theorem dX11_bringBack_55 : decode cX11_bringBack 55 = .ok (.iload_n 1, 1) := dc_27 (by decide +kernel)
theorem dX11_bringBack_56 : decode cX11_bringBack 56 = .ok (.putfield 85, 3) := dc_181 0 85 (by decide +kernel)
theorem dX11_bringBack_59 : decode cX11_bringBack 59 = .ok (.return_, 1) := dc_177 (by decide +kernel)
theorem dX11_bringBack_13 : decode cX11_bringBack 13 = .ok (.aload_n 0, 1) := dc_42 (by decide +kernel)
theorem dX11_bringBack_14 : decode cX11_bringBack 14 = .ok (.getfield 10, 3) := dc_180 0 10 (by decide +kernel)
theorem dX11_bringBack_17 : decode cX11_bringBack 17 = .ok (.getfield 89, 3) := dc_180 0 89 (by decide +kernel)
theorem dX11_bringBack_20 : decode cX11_bringBack 20 = .ok (.iload_n 2, 1) := dc_28 (by decide +kernel)
theorem dX11_bringBack_21 : decode cX11_bringBack 21 = .ok (.aaload, 1) := dc_50 (by decide +kernel)
theorem dX11_bringBack_22 : decode cX11_bringBack 22 = .ok (.aload_n 0, 1) := dc_42 (by decide +kernel)
theorem dX11_bringBack_23 : decode cX11_bringBack 23 = .ok (.getfield 32, 3) := dc_180 0 32 (by decide +kernel)
theorem dX11_bringBack_26 : decode cX11_bringBack 26 = .ok (.iload_n 2, 1) := dc_28 (by decide +kernel)
theorem dX11_bringBack_27 : decode cX11_bringBack 27 = .ok (.aaload, 1) := dc_50 (by decide +kernel)
theorem dX11_bringBack_28 : decode cX11_bringBack 28 = .ok (.invokevirtual 461, 3) := dc_182 1 205 (by decide +kernel)
theorem dX11_bringBack_31 : decode cX11_bringBack 31 = .ok (.iinc 2 1, 3) := dc_132 2 1 1 (by decide +kernel)
theorem dX11_bringBack_34 : decode cX11_bringBack 34 = .ok (.goto (-32), 3) := dc_167 255 224 (-32) (by decide +kernel)
abbrev R_X11_bringBack : Room := { frames := 5, cells := 0, slots := 0, locals := 141 }
set_option maxRecDepth 100000 in
set_option maxHeartbeats 4000000 in
theorem s_X11_bringBack {l : Launch} {n0 : Nat} {D : va_G} {cA : Nat → ClassId} {M : gM} (a : Int) (r_a : 0 ≤ a ∧ a ≤ 300) {sz : Nat} (hsz : 206 ≤ sz) (I : gI sz M) (C : gC sz M)   : Met l yX11_bringBack (gWsOf yX11_bringBack cX11_bringBack 3 (Option.none : Option Jvm.ClassFile.FieldType)) R_X11_bringBack (gPc n0 D cA [gA n0 0, gJ a] M sz) (gQv n0 D cA sz (fun M1 => gI sz M1 ∧ gC sz M1 ∧ gFr 16840824 M M1 ∧ ((∀ i k : Int, 0 ≤ i → i < M 1 10 → gCp k → M1 (31 + i) k = M (174 + i) k) ∧ (∀ b : Int, 0 ≤ b → b < 4 → M1 16 b = M 163 b) ∧ (∀ b : Int, 0 ≤ b → b < 301 → M1 17 b = M 164 b) ∧ (∀ b : Int, 0 ≤ b → b < 3 → M1 18 b = M 165 b) ∧ (∀ b : Int, 0 ≤ b → b < 30 → M1 19 b = M 166 b) ∧ (∀ b : Int, 0 ≤ b → b < 6 → M1 20 b = M 167 b) ∧ (∀ b : Int, 0 ≤ b → b < 6 → M1 21 b = M 168 b) ∧ (∀ b : Int, 0 ≤ b → b < 6 → M1 22 b = M 169 b) ∧ M1 15 7 = M 162 7 ∧ M1 15 8 = M 162 8 ∧ M1 15 9 = M 162 9 ∧ M1 1 15 = a))) 0 0 (fun q => n0 ≤ q) := by
  refine gMetV [gA n0 0, gJ a] (by decide) (Nat.le_of_ble_eq_true rfl) ⟨rfl, rfl⟩ ?_
  intro p e s m args below meth cd Q X hq
  have X : gCx p s m args meth cd n0 D cA "ParishUnion" cX11_bringBack 3 := X
  show G p l e R_X11_bringBack s m args below meth cd n0 D cA 3 Q 0 0 M sz 0 [(0, gA n0 0), (1, gJ a)] []
  obtain ⟨v1, hv1, rv1⟩ := gRd I (by decide) (gsz hsz (by decide)) rc_1_10.1
  refine g_iconst (n := 1) X dX11_bringBack_0 rfl ?_
  refine g_istore_n (n := 2) (L' := [(2, gJ 0), (0, gA n0 0), (1, gJ a)]) X dX11_bringBack_1 rfl (by decide) rfl rfl ?_
  have j4 : ∀ (N60 : Nat) (v2 : Int) (M3 : gM) , (0 ≤ v2 ∧ v2 ≤ 16) → gI sz M3 → gC sz M3 → gFr 120 M M3 → (∀ j k : Int, 0 ≤ j → j < v2 → gCp k → M3 (31 + j) k = M (174 + j) k) → (16 - v2).toNat < N60 → G p l e R_X11_bringBack s m args below meth cd n0 D cA 3 Q 0 0 M3 sz 2 [(0, gA n0 0), (1, gJ a), (2, gJ v2)] [] := by
    intro N60; induction N60 with
    | zero => intro v2 M3 rv2 IM3 CM3 FM3 hB hm62; exfalso; omega
    | succ N60 ih61 =>
      intro v2 M3 rv2 IM3 CM3 FM3 hB hm62
      refine g_iload_n (n := 3) X 2 dX11_bringBack_2 rfl rfl rfl ?_
      refine g_aload_n (n := 4) X 0 dX11_bringBack_3 rfl rfl rfl ?_
      refine gg_11_0 (n := 7) (z := 1) X (by decide) (gsz hsz (by decide)) lay_0 kw_2_231 dX11_bringBack_4 rfl (rf_0_0 IM3 (gsz hsz (by decide))) (by decide) ?_
      refine gg_9_10 (n := 10) (z := v1) X (by decide) (gsz hsz (by decide)) lay_1 kw_2_127 dX11_bringBack_7 rfl ((gFr.at FM3 rc_1_10.2.2 rfl).trans hv1) ?_
      refine g_icmp_ge (n := 13) (tgt := 37) X dX11_bringBack_10 (by decide) (by omega) (by omega) rfl (fun c63 => ?_) (fun c63 => ?_)
      · refine g_aload_n (n := 38) X 0 dX11_bringBack_37 rfl rfl rfl ?_
        refine gg_11_0 (n := 41) (z := 1) X (by decide) (gsz hsz (by decide)) lay_0 kw_2_231 dX11_bringBack_38 rfl (rf_0_0 IM3 (gsz hsz (by decide))) (by decide) ?_
        refine gg_9_6 (n := 44) (z := 15) X (by decide) (gsz hsz (by decide)) lay_1 kw_2_119 dX11_bringBack_41 rfl (rf_1_6 IM3 (gsz hsz (by decide))) (by decide) ?_
        refine g_aload_n (n := 45) X 0 dX11_bringBack_44 rfl rfl rfl ?_
        refine gg_11_4 (n := 48) (z := 162) X (by decide) (gsz hsz (by decide)) lay_0 kw_2_235 dX11_bringBack_45 rfl (rf_0_4 IM3 (gsz hsz (by decide))) (by decide) ?_
        refine g_callVv (n := 51) (As := [gA n0 162]) (rest := []) (cs1 := 0) (ss1 := 0) X (s_X2_copyFrom_15_162  hsz IM3 CM3 ) okX2_copyFrom kw_5_165 ⟨kw_5_166, kw_5_167⟩ ⟨rfl, rfl⟩ ⟨Nat.le_of_ble_eq_true rfl, Nat.le_of_ble_eq_true rfl⟩ rfl (by decide) (gsz hsz (by decide)) lay_15 rfl rfl (Nat.le_of_ble_eq_true rfl) ⟨Nat.le_of_ble_eq_true rfl, Nat.le_of_ble_eq_true rfl⟩ rfl rfl dX11_bringBack_48 rfl (fun M65 P66 => ?_)
        obtain ⟨IM65, CM65, FM65, xM65⟩ := P66
        refine g_aload_n (n := 52) X 0 dX11_bringBack_51 rfl rfl rfl ?_
        refine gg_11_0 (n := 55) (z := 1) X (by decide) (gsz hsz (by decide)) lay_0 kw_2_231 dX11_bringBack_52 rfl (rf_0_0 IM65 (gsz hsz (by decide))) (by decide) ?_
        refine g_iload_n (n := 56) X 1 dX11_bringBack_55 rfl rfl rfl ?_
        refine gp_9_15 (n := 59) X (by decide) (gsz hsz (by decide)) lay_1 kw_2_139 dX11_bringBack_56 rfl ?_
        refine G.nm (fun M67 e68 => ?_)
        have IM67 : gI sz M67 := gI.set IM65 rc_1_15.1 (by omega) e68
        have CM67 : gC sz M67 := gC.set CM65 rc_1_15.2.1 e68
        exact hq _ _ _ dX11_bringBack_59 ⟨IM67, CM67, (gFr.s (gFr.c (gFr.c gFr.rf FM3 rfl) FM65 rfl) e68 rc_1_15.2.2 rfl), ⟨(fun i k h0 h1 hk => by rw [gFr.P (o := 31 + i) ((gFr.s (gFr.c gFr.rf FM65 rfl) e68 rc_1_15.2.2 rfl) : gFr 16840704 M3 M67) rfl (by omega) k]; exact hB i k h0 (by omega) hk), (fun b h0 h1 => (gFr.at ((gFr.s gFr.rf e68 rc_1_15.2.2 rfl) : gFr 16777216 M65 M67) (ra_16 b).2.2 rfl).trans (((xM65.1) b h0 h1).trans (gFr.at ((gFr.c gFr.rf FM3 rfl) : gFr 120 M M3) (ra_163 b).2.2 rfl))), (fun b h0 h1 => (gFr.at ((gFr.s gFr.rf e68 rc_1_15.2.2 rfl) : gFr 16777216 M65 M67) (ra_17 b).2.2 rfl).trans (((xM65.2.1) b h0 h1).trans (gFr.at ((gFr.c gFr.rf FM3 rfl) : gFr 120 M M3) (ra_164 b).2.2 rfl))), (fun b h0 h1 => (gFr.at ((gFr.s gFr.rf e68 rc_1_15.2.2 rfl) : gFr 16777216 M65 M67) (ra_18 b).2.2 rfl).trans (((xM65.2.2.1) b h0 h1).trans (gFr.at ((gFr.c gFr.rf FM3 rfl) : gFr 120 M M3) (ra_165 b).2.2 rfl))), (fun b h0 h1 => (gFr.at ((gFr.s gFr.rf e68 rc_1_15.2.2 rfl) : gFr 16777216 M65 M67) (ra_19 b).2.2 rfl).trans (((xM65.2.2.2.1) b h0 h1).trans (gFr.at ((gFr.c gFr.rf FM3 rfl) : gFr 120 M M3) (ra_166 b).2.2 rfl))), (fun b h0 h1 => (gFr.at ((gFr.s gFr.rf e68 rc_1_15.2.2 rfl) : gFr 16777216 M65 M67) (ra_20 b).2.2 rfl).trans (((xM65.2.2.2.2.1) b h0 h1).trans (gFr.at ((gFr.c gFr.rf FM3 rfl) : gFr 120 M M3) (ra_167 b).2.2 rfl))), (fun b h0 h1 => (gFr.at ((gFr.s gFr.rf e68 rc_1_15.2.2 rfl) : gFr 16777216 M65 M67) (ra_21 b).2.2 rfl).trans (((xM65.2.2.2.2.2.1) b h0 h1).trans (gFr.at ((gFr.c gFr.rf FM3 rfl) : gFr 120 M M3) (ra_168 b).2.2 rfl))), (fun b h0 h1 => (gFr.at ((gFr.s gFr.rf e68 rc_1_15.2.2 rfl) : gFr 16777216 M65 M67) (ra_22 b).2.2 rfl).trans (((xM65.2.2.2.2.2.2.1) b h0 h1).trans (gFr.at ((gFr.c gFr.rf FM3 rfl) : gFr 120 M M3) (ra_169 b).2.2 rfl))), ((gFr.at ((gFr.s gFr.rf e68 rc_1_15.2.2 rfl) : gFr 16777216 M65 M67) rc_15_7.2.2 rfl).trans ((xM65.2.2.2.2.2.2.2.1).trans (gFr.at ((gFr.c gFr.rf FM3 rfl) : gFr 120 M M3) rc_162_7.2.2 rfl))), ((gFr.at ((gFr.s gFr.rf e68 rc_1_15.2.2 rfl) : gFr 16777216 M65 M67) rc_15_8.2.2 rfl).trans ((xM65.2.2.2.2.2.2.2.2.1).trans (gFr.at ((gFr.c gFr.rf FM3 rfl) : gFr 120 M M3) rc_162_8.2.2 rfl))), ((gFr.at ((gFr.s gFr.rf e68 rc_1_15.2.2 rfl) : gFr 16777216 M65 M67) rc_15_9.2.2 rfl).trans ((xM65.2.2.2.2.2.2.2.2.2).trans (gFr.at ((gFr.c gFr.rf FM3 rfl) : gFr 120 M M3) rc_162_9.2.2 rfl))), ((congrFun (congrFun e68 _) _).trans (gset_eq _ _ _ _))⟩⟩
      · refine g_aload_n (n := 14) X 0 dX11_bringBack_13 rfl rfl rfl ?_
        refine gg_11_0 (n := 17) (z := 1) X (by decide) (gsz hsz (by decide)) lay_0 kw_2_231 dX11_bringBack_14 rfl (rf_0_0 IM3 (gsz hsz (by decide))) (by decide) ?_
        refine gg_9_1 (n := 20) (z := 5) X (by decide) (gsz hsz (by decide)) lay_1 kw_2_108 dX11_bringBack_17 rfl (rf_1_1 IM3 (gsz hsz (by decide))) (by decide) ?_
        refine g_iload_n (n := 21) X 2 dX11_bringBack_20 rfl rfl rfl ?_
        obtain ⟨o69, ho69, ro69⟩ : ∃ o : Int, o = 31 + v2 ∧ (31 ≤ o ∧ o < 47) := ⟨_, rfl, by omega⟩
        refine g_aald6 (n := 22) (t := o69) X (by decide) (gsz hsz (by decide)) lay_5 (by omega) (by omega) (by decide) (gA5 IM3 hsz (by omega) (by omega) (by omega)) (by omega) dX11_bringBack_21 rfl ?_
        refine g_aload_n (n := 23) X 0 dX11_bringBack_22 rfl rfl rfl ?_
        refine gg_11_3 (n := 26) (z := 161) X (by decide) (gsz hsz (by decide)) lay_0 kw_2_234 dX11_bringBack_23 rfl (rf_0_3 IM3 (gsz hsz (by decide))) (by decide) ?_
        refine g_iload_n (n := 27) X 2 dX11_bringBack_26 rfl rfl rfl ?_
        obtain ⟨o70, ho70, ro70⟩ : ∃ o : Int, o = 174 + v2 ∧ (174 ≤ o ∧ o < 190) := ⟨_, rfl, by omega⟩
        refine g_aald6 (n := 28) (t := o70) X (by decide) (gsz hsz (by decide)) lay_161 (by omega) (by omega) (by decide) (gA161 IM3 hsz (by omega) (by omega) (by omega)) (by omega) dX11_bringBack_27 rfl ?_
        refine g_callVv (n := 31) (As := [gA n0 o70]) (rest := []) (cs1 := 0) (ss1 := 0) X (s_X6_copyFrom o69 (Or.inl ro69) o70 (Or.inr (Or.inl ro70)) hsz IM3 CM3 (by omega)) okX6_copyFrom kw_5_161 ⟨kw_5_162, kw_5_163⟩ ⟨rfl, rfl⟩ ⟨Nat.le_of_ble_eq_true rfl, Nat.le_of_ble_eq_true rfl⟩ rfl (Po0 ro69) (Posz hsz ro69) (lay2_P ro69) rfl rfl (Nat.le_of_ble_eq_true rfl) ⟨Nat.le_of_ble_eq_true rfl, Nat.le_of_ble_eq_true rfl⟩ rfl rfl dX11_bringBack_28 rfl (fun M72 P73 => ?_)
        obtain ⟨IM72, CM72, KM72, EM72, NM72⟩ := P73
        have FM72 : gFr 120 M3 M72 := gFr.obj KM72 (gGP_all ro69)
        refine g_iinc (n := 34) (w := v2 + 1) (L' := [(2, gJ (v2 + 1)), (0, gA n0 0), (1, gJ a)]) X 2 dX11_bringBack_31 rfl rfl (by decide) rfl rfl ?_
        refine g_goto (tgt := 2) X dX11_bringBack_34 (by decide) ?_
        refine G.sub (L' := [(0, gA n0 0), (1, gJ a), (2, gJ (v2 + 1))]) [1, 2, 0] rfl ?_
        exact ih61 (v2 + 1) M72 (by omega) IM72 CM72 (gFr.c (gFr.c gFr.rf FM3 rfl) FM72 rfl) (fun j k h0 h1 hk => if g : j = v2 then (by rw [show 31 + j = o69 by omega, EM72 k hk, show 174 + j = o70 by omega]; exact (gFr.Q ((gFr.c gFr.rf FM3 rfl) : gFr 120 M M3) rfl (by omega) k)) else (by rw [KM72 (31 + j) k (by omega)]; exact hB j k h0 (by omega) hk)) (by omega)
  refine G.sub (L' := [(0, gA n0 0), (1, gJ a), (2, gJ 0)]) [1, 2, 0] rfl ?_
  exact j4 _ 0 M (by omega) I C gFr.rf (fun j k h0 h1 hk => by exfalso; omega) (Nat.lt_succ_self _)
