theorem dX11_image_7 : decode cX11_image 7 = .ok (.aload_n 0, 1) := dc_42 (by decide +kernel)
theorem dX11_image_8 : decode cX11_image 8 = .ok (.new 7, 3) := dc_187 0 7 (by decide +kernel)
theorem dX11_image_11 : decode cX11_image 11 = .ok (.dup, 1) := dc_89 (by decide +kernel)
theorem dX11_image_12 : decode cX11_image 12 = .ok (.invokespecial 9, 3) := dc_183 0 9 (by decide +kernel)
theorem dX11_image_15 : decode cX11_image 15 = .ok (.putfield 416, 3) := dc_181 1 160 (by decide +kernel)
theorem rc_0_9 : gRg 0 9 = (0, 207) ∧ gCr 0 9 = false ∧ gG 0 9 = 34 := by decide +kernel
theorem gG_im {o : Int} (h : 206 ≤ o) (b : Int) : (154704725978809594380550144 : Nat).testBit (gG o b) = true := by
  unfold gG
  rw [if_neg (by omega), if_neg (by omega), if_neg (by omega), if_neg (by omega), if_neg (by omega)]
  unfold gGi
  repeat' split
  all_goals rfl
theorem gFr.free {S : Nat} {M M1 : gM} (F : gFr S M M1) (h : S &&& 154704725978809577200680960 = 0) {o : Int} (ho : 206 ≤ o) (b : Int) : M1 o b = M o b := F o b (by
  have h0 : (154704725978809577200680960 : Nat).testBit (gG o b) = true := by
    unfold gG
    rw [if_neg (by omega), if_neg (by omega), if_neg (by omega), if_neg (by omega), if_neg (by omega)]
    unfold gGi
    repeat' split
    all_goals rfl
  have h1 : (S &&& 154704725978809577200680960).testBit (gG o b) = (S.testBit (gG o b) && (154704725978809577200680960 : Nat).testBit (gG o b)) := Nat.testBit_and S _ (gG o b)
  rw [h, h0, Bool.and_true, Nat.zero_testBit] at h1
  exact h1.symm)
set_option maxRecDepth 100000 in
set_option maxHeartbeats 4000000 in
theorem s_X11_image0 {l : Launch} {n0 : Nat} {D : va_G} {cA : Nat → ClassId} {M : gM} (I : gI 206 M) (C : gC 206 M) (hkept : M 0 9 = 0) (hfree : gZ 206 M) : Met l yX11_image (gWsOf yX11_image cX11_image 1 (Option.some Jvm.ClassFile.FieldType.int)) { frames := 7, cells := 152, slots := 10507, locals := 187 } (gPc n0 D cA [gA n0 0] M 206) (gQi n0 D cA 358 (fun z M1 => (0 ≤ z ∧ z ≤ 300) ∧ gI 358 M1 ∧ gC 358 M1 ∧ gFr 154704725978809594380550144 M M1 ∧ M1 0 9 = 207 ∧ z = M 1 15 ∧ (∀ b : Int, 0 ≤ b → b < 6 → M1 208 b = M 3 b) ∧ (∀ b : Int, 0 ≤ b → b < 36 → M1 209 b = M 4 b) ∧ (∀ j k : Int, 0 ≤ j → j < M 1 10 → gCp k → M1 (236 + j) k = M (31 + j) k) ∧ (∀ j k : Int, 0 ≤ j → j < M 1 11 → 0 ≤ k ∧ k ≤ 8 → M1 (252 + j) k = M (47 + j) k) ∧ M1 206 10 = M 1 10 ∧ M1 206 11 = M 1 11 ∧ M1 206 12 = M 1 12 ∧ M1 206 13 = M 1 13 ∧ M1 206 14 = M 1 14 ∧ M1 206 15 = M 1 15 ∧ (∀ b : Int, 0 ≤ b → b < 40 → M1 232 b = M 27 b) ∧ (∀ b : Int, 0 ≤ b → b < 40 → M1 233 b = M 28 b) ∧ (∀ b : Int, 0 ≤ b → b < 40 → M1 234 b = M 29 b) ∧ M1 231 3 = M 26 3 ∧ (∀ b : Int, 0 ≤ b → b < 301 → M1 222 b = M 17 b) ∧ M1 220 7 = M 15 7 ∧ M1 220 8 = M 15 8 ∧ M1 220 9 = M 15 9)) 152 10507 (fun q => n0 ≤ q) := by
  refine gMet_of [gA n0 0] (by decide) (Nat.le_of_ble_eq_true rfl) ?_
  intro p e s m args below meth cd X hr hm
  have X : gCx p s m args meth cd n0 D cA "ParishUnion" cX11_image 1 := X
  show G p l e ({ frames := 7, cells := 152, slots := 10507, locals := 187 } : Room) s m args below meth cd n0 D cA 1 (MQ below (gQi n0 D cA 358 (fun z M1 => (0 ≤ z ∧ z ≤ 300) ∧ gI 358 M1 ∧ gC 358 M1 ∧ gFr 154704725978809594380550144 M M1 ∧ M1 0 9 = 207 ∧ z = M 1 15 ∧ (∀ b : Int, 0 ≤ b → b < 6 → M1 208 b = M 3 b) ∧ (∀ b : Int, 0 ≤ b → b < 36 → M1 209 b = M 4 b) ∧ (∀ j k : Int, 0 ≤ j → j < M 1 10 → gCp k → M1 (236 + j) k = M (31 + j) k) ∧ (∀ j k : Int, 0 ≤ j → j < M 1 11 → 0 ≤ k ∧ k ≤ 8 → M1 (252 + j) k = M (47 + j) k) ∧ M1 206 10 = M 1 10 ∧ M1 206 11 = M 1 11 ∧ M1 206 12 = M 1 12 ∧ M1 206 13 = M 1 13 ∧ M1 206 14 = M 1 14 ∧ M1 206 15 = M 1 15 ∧ (∀ b : Int, 0 ≤ b → b < 40 → M1 232 b = M 27 b) ∧ (∀ b : Int, 0 ≤ b → b < 40 → M1 233 b = M 28 b) ∧ (∀ b : Int, 0 ≤ b → b < 40 → M1 234 b = M 29 b) ∧ M1 231 3 = M 26 3 ∧ (∀ b : Int, 0 ≤ b → b < 301 → M1 222 b = M 17 b) ∧ M1 220 7 = M 15 7 ∧ M1 220 8 = M 15 8 ∧ M1 220 9 = M 15 9)) args s 152 10507 (fun q => n0 ≤ q)) 0 0 M 206 0 [(0, gA n0 0)] []
  refine g_aload_n (n := 1) X 0 dX11_image_0 rfl rfl rfl ?_
  refine gn_11_9 (n := 4) X (by omega) (by omega) lay_0 kw_3_0 dX11_image_1 rfl hkept ?_
  refine g_ifnonnullN (n := 7) X dX11_image_4 rfl ?_
  refine g_aload_n (n := 8) X 0 dX11_image_7 rfl rfl rfl ?_
  refine g_new (n := 11) (N := 16) (ci := 9) X tyX9 iX9 tyX9_ok rfl rfl gtyok_9 kw_1_29 kw_1_30 kw_1_2 lay_206 (Nat.le_of_ble_eq_true rfl) (Nat.le_of_ble_eq_true rfl) dX11_image_8 rfl ?_
  refine G.nm (fun M1 e2 => ?_)
  have ZM1 : gZ 206 M1 := gZ.new hfree e2
  refine g_dup (n := 12) X dX11_image_11 rfl rfl ?_
  refine g_callIv (n := 15) (As := []) (rest := [gA n0 206, gA n0 0]) (cs1 := 152) (ss1 := 10507) X (c_X9_init_206 ((congrFun (congrFun e2 _) _).trans (gnew_eq _ _ _)) ((congrFun (congrFun e2 _) _).trans (gnew_eq _ _ _)) ((congrFun (congrFun e2 _) _).trans (gnew_eq _ _ _)) ((congrFun (congrFun e2 _) _).trans (gnew_eq _ _ _)) ((congrFun (congrFun e2 _) _).trans (gnew_eq _ _ _)) ((congrFun (congrFun e2 _) _).trans (gnew_eq _ _ _)) ZM1) okX9_init kw_1_31 kw_1_32 rfl ⟨rfl, rfl⟩ ⟨Nat.le_of_ble_eq_true rfl, Nat.le_of_ble_eq_true rfl⟩ rfl rfl (Nat.le_of_ble_eq_true rfl) ⟨Nat.le_of_ble_eq_true rfl, Nat.le_of_ble_eq_true rfl⟩ rfl rfl dX11_image_12 rfl (fun M4 P5 => ?_)
  obtain ⟨ZM4, q_206_0, q_206_1, q_206_2, q_206_3, q_206_4, q_206_5, q_206_6, q_206_7, q_206_8, q_206_9, q_206_10, q_206_11, q_206_12, q_206_13, q_206_14, q_206_15, q_210_0, q_212_0, q_292_0, q_292_1, q_292_2, q_292_3, q_292_4, q_207_0, q_207_1, q_214_0, q_214_1, q_214_2, q_214_3, q_214_4, q_214_5, q_220_0, q_220_1, q_220_2, q_220_3, q_220_4, q_220_5, q_220_6, q_220_7, q_220_8, q_220_9, q_228_0, q_228_1, q_231_0, q_231_1, q_231_2, q_231_3, qa0, qa1, qa2, qa3, qa4, qa5, qa6, qa7, qa8, qa9, qa10, qa11, F6⟩ := P5
  refine gp_11_9 (n := 18) X (by omega) (by omega) lay_0 kw_3_0 (by omega) dX11_image_15 rfl ?_
  refine G.nm (fun M5 e5 => ?_)
  have ZM5 : gZ 206 M5 := gZ.set ZM4 ⟨rc_0_9.1, rc_0_9.2.1⟩ (by omega) e5
  have E4 : ∀ a b : Int, a < 206 → M4 a b = M a b := fun a b h => (congrFun (F6 a h) b).trans ((congrFun (congrFun e2 _) _).trans (gnew_ne (by omega)))
  have I4 : gI 206 M4 := fun o k h0 h1 => by rw [E4 o k h1]; exact I o k h0 h1
  have C4 : gC 206 M4 := by
    refine ⟨fun o ho => ?_, fun o ho => ?_, fun o i ho => ?_⟩
    · rw [E4 _ _ (by unfold gRz at ho; omega), E4 _ _ (by unfold gRz at ho; omega)]; exact C.1 o ho
    · rw [E4 _ _ (by unfold gPz at ho; omega), E4 _ _ (by unfold gPz at ho; omega), E4 _ _ (by unfold gPz at ho; omega)]; exact C.2.1 o ho
    · rw [E4 _ _ (by unfold gAz at ho; omega), E4 _ _ (by unfold gAz at ho; omega)]; exact C.2.2 o i ho
  have I5 : gI 206 M5 := gI.set I4 rc_0_9.1 (by omega) e5
  have C5 : gC 358 M5 := gC_second (gC.set C4 rc_0_9.2.1 e5) ZM5
  have J5 : gI 358 M5 := fun o k h0 h1 => by
    by_cases g : o < 206
    · exact I5 o k h0 g
    · exact gI_second ZM5 ((congrFun (congrFun e5 _) _).trans ((gset_ne (by omega)).trans q_206_0)) ((congrFun (congrFun e5 _) _).trans ((gset_ne (by omega)).trans q_206_1)) ((congrFun (congrFun e5 _) _).trans ((gset_ne (by omega)).trans q_206_2)) ((congrFun (congrFun e5 _) _).trans ((gset_ne (by omega)).trans q_206_3)) ((congrFun (congrFun e5 _) _).trans ((gset_ne (by omega)).trans q_206_4)) ((congrFun (congrFun e5 _) _).trans ((gset_ne (by omega)).trans q_206_5)) ((congrFun (congrFun e5 _) _).trans ((gset_ne (by omega)).trans q_206_6)) ((congrFun (congrFun e5 _) _).trans ((gset_ne (by omega)).trans q_206_7)) ((congrFun (congrFun e5 _) _).trans ((gset_ne (by omega)).trans q_206_8)) ((congrFun (congrFun e5 _) _).trans ((gset_ne (by omega)).trans q_206_9)) ((congrFun (congrFun e5 _) _).trans ((gset_ne (by omega)).trans q_207_0)) ((congrFun (congrFun e5 _) _).trans ((gset_ne (by omega)).trans q_207_1)) (fun i h0 h1 => ((congrFun (congrFun e5 _) _).trans ((gset_ne (by omega)).trans (qa8 i h0 h1)))) (fun i h0 h1 => ((congrFun (congrFun e5 _) _).trans ((gset_ne (by omega)).trans (qa9 i h0 h1)))) (fun i h0 h1 => ((congrFun (congrFun e5 _) _).trans ((gset_ne (by omega)).trans (qa10 i h0 h1)))) ((congrFun (congrFun e5 _) _).trans ((gset_ne (by omega)).trans q_214_0)) ((congrFun (congrFun e5 _) _).trans ((gset_ne (by omega)).trans q_214_1)) ((congrFun (congrFun e5 _) _).trans ((gset_ne (by omega)).trans q_214_2)) ((congrFun (congrFun e5 _) _).trans ((gset_ne (by omega)).trans q_214_3)) ((congrFun (congrFun e5 _) _).trans ((gset_ne (by omega)).trans q_214_4)) ((congrFun (congrFun e5 _) _).trans ((gset_ne (by omega)).trans q_220_0)) ((congrFun (congrFun e5 _) _).trans ((gset_ne (by omega)).trans q_220_1)) ((congrFun (congrFun e5 _) _).trans ((gset_ne (by omega)).trans q_220_2)) ((congrFun (congrFun e5 _) _).trans ((gset_ne (by omega)).trans q_220_3)) ((congrFun (congrFun e5 _) _).trans ((gset_ne (by omega)).trans q_220_4)) ((congrFun (congrFun e5 _) _).trans ((gset_ne (by omega)).trans q_220_5)) ((congrFun (congrFun e5 _) _).trans ((gset_ne (by omega)).trans q_220_6)) ((congrFun (congrFun e5 _) _).trans ((gset_ne (by omega)).trans q_228_0)) ((congrFun (congrFun e5 _) _).trans ((gset_ne (by omega)).trans q_228_1)) ((congrFun (congrFun e5 _) _).trans ((gset_ne (by omega)).trans q_231_0)) ((congrFun (congrFun e5 _) _).trans ((gset_ne (by omega)).trans q_231_1)) ((congrFun (congrFun e5 _) _).trans ((gset_ne (by omega)).trans q_231_2)) (fun i h0 h1 => ⟨((congrFun (congrFun e5 _) _).trans ((gset_ne (by omega)).trans (qa11 i h0 h1).1)), ((congrFun (congrFun e5 _) _).trans ((gset_ne (by omega)).trans (qa11 i h0 h1).2.1)), ((congrFun (congrFun e5 _) _).trans ((gset_ne (by omega)).trans (qa11 i h0 h1).2.2.1)), ((congrFun (congrFun e5 _) _).trans ((gset_ne (by omega)).trans (qa11 i h0 h1).2.2.2.1)), ((congrFun (congrFun e5 _) _).trans ((gset_ne (by omega)).trans (qa11 i h0 h1).2.2.2.2))⟩) o k (by omega) h1
  have F5 : gFr 154704725978809594380550144 M M5 := fun o b h => by
    by_cases g : o < 206
    · by_cases q : o = 0 ∧ b = 9
      · rw [q.1, q.2, rc_0_9.2.2] at h; exact absurd h (by decide)
      · rw [e5, gset_ne q]; exact E4 o b g
    · rw [gG_im (by omega) b] at h; cases h
  refine g_aload_n (n := 19) X 0 dX11_image_18 rfl rfl rfl ?_
  refine gg_11_9 (n := 22) (z := 206) X (by omega) (by omega) lay_0 kw_3_0 dX11_image_19 rfl ((congrFun (congrFun e5 _) _).trans (gset_eq _ _ _ _)) (by omega) ?_
  refine g_aload_n (n := 23) X 0 dX11_image_22 rfl rfl rfl ?_
  refine gg_11_0 (n := 26) (z := 1) X (by omega) (by omega) lay_0 kw_2_231 dX11_image_23 rfl (rf_0_0 J5 (by decide)) (by decide) ?_
  refine g_callVv (n := 29) (As := [gA n0 1]) (rest := []) (cs1 := 152) (ss1 := 10507) X (s_X9_copyFrom_206_1 (by decide) J5 C5 rfl) okX9_copyFrom kw_5_212 ⟨kw_5_213, kw_5_214⟩ ⟨rfl, rfl⟩ ⟨Nat.le_of_ble_eq_true rfl, Nat.le_of_ble_eq_true rfl⟩ rfl (by omega) (by omega) lay_206 rfl rfl (Nat.le_of_ble_eq_true rfl) ⟨Nat.le_of_ble_eq_true rfl, Nat.le_of_ble_eq_true rfl⟩ rfl rfl dX11_image_26 rfl (fun M6 P6 => ?_)
  obtain ⟨I6, C6, F6b, x6⟩ := P6
  refine g_aload_n (n := 30) X 0 dX11_image_29 rfl rfl rfl ?_
  refine gg_11_0 (n := 33) (z := 1) X (by omega) (by omega) lay_0 kw_2_231 dX11_image_30 rfl (rf_0_0 I6 (by decide)) (by decide) ?_
  obtain ⟨v, hv, rv⟩ := gRd I6 (by decide) (by decide) rc_1_15.1
  refine gg_9_15 (n := 36) (z := v) X (by omega) (by omega) lay_1 kw_2_139 dX11_image_33 rfl hv ?_
  exact g_ireturn X hr dX11_image_36 (by exact ⟨rv, I6, C6, gFr.c (gFr.c gFr.rf F5 rfl) F6b rfl, (gFr.at F6b rc_0_9.2.2 rfl).trans ((congrFun (congrFun e5 _) _).trans (gset_eq _ _ _ _)), hv.symm.trans ((gFr.at F6b rc_1_15.2.2 rfl).trans ((congrFun (congrFun e5 _) _).trans ((gset_ne (by omega)).trans (E4 1 15 (by omega))))), (fun b h0 h1 => (x6.1 b h0 h1).trans ((congrFun (congrFun e5 _) _).trans ((gset_ne (by omega)).trans (E4 3 b (by omega))))), (fun b h0 h1 => (x6.2.1 b h0 h1).trans ((congrFun (congrFun e5 _) _).trans ((gset_ne (by omega)).trans (E4 4 b (by omega))))), (fun j k h0 h1 hk => by have q0 := ((congrFun (congrFun e5 _) _).trans ((gset_ne (by omega)).trans (E4 1 10 (by omega)))); have q1 := J5 1 10 (by decide) (by decide); rw [rc_1_10.1] at q1; exact (x6.2.2.1 j k h0 (by omega) hk).trans ((congrFun (congrFun e5 _) _).trans ((gset_ne (by omega)).trans (E4 (31 + j) k (by omega))))), (fun j k h0 h1 hk => by have q0 := ((congrFun (congrFun e5 _) _).trans ((gset_ne (by omega)).trans (E4 1 11 (by omega)))); have q1 := J5 1 11 (by decide) (by decide); rw [rc_1_11.1] at q1; exact (x6.2.2.2.1 j k h0 (by omega) hk).trans ((congrFun (congrFun e5 _) _).trans ((gset_ne (by omega)).trans (E4 (47 + j) k (by omega))))), (x6.2.2.2.2.1.trans ((congrFun (congrFun e5 _) _).trans ((gset_ne (by omega)).trans (E4 1 10 (by omega))))), (x6.2.2.2.2.2.1.trans ((congrFun (congrFun e5 _) _).trans ((gset_ne (by omega)).trans (E4 1 11 (by omega))))), (x6.2.2.2.2.2.2.1.trans ((congrFun (congrFun e5 _) _).trans ((gset_ne (by omega)).trans (E4 1 12 (by omega))))), (x6.2.2.2.2.2.2.2.1.trans ((congrFun (congrFun e5 _) _).trans ((gset_ne (by omega)).trans (E4 1 13 (by omega))))), (x6.2.2.2.2.2.2.2.2.1.trans ((congrFun (congrFun e5 _) _).trans ((gset_ne (by omega)).trans (E4 1 14 (by omega))))), (x6.2.2.2.2.2.2.2.2.2.1.trans ((congrFun (congrFun e5 _) _).trans ((gset_ne (by omega)).trans (E4 1 15 (by omega))))), (fun b h0 h1 => (x6.2.2.2.2.2.2.2.2.2.2.1 b h0 h1).trans ((congrFun (congrFun e5 _) _).trans ((gset_ne (by omega)).trans (E4 27 b (by omega))))), (fun b h0 h1 => (x6.2.2.2.2.2.2.2.2.2.2.2.1 b h0 h1).trans ((congrFun (congrFun e5 _) _).trans ((gset_ne (by omega)).trans (E4 28 b (by omega))))), (fun b h0 h1 => (x6.2.2.2.2.2.2.2.2.2.2.2.2.1 b h0 h1).trans ((congrFun (congrFun e5 _) _).trans ((gset_ne (by omega)).trans (E4 29 b (by omega))))), (x6.2.2.2.2.2.2.2.2.2.2.2.2.2.1.trans ((congrFun (congrFun e5 _) _).trans ((gset_ne (by omega)).trans (E4 26 3 (by omega))))), (fun b h0 h1 => (x6.2.2.2.2.2.2.2.2.2.2.2.2.2.2.1 b h0 h1).trans ((congrFun (congrFun e5 _) _).trans ((gset_ne (by omega)).trans (E4 17 b (by omega))))), (x6.2.2.2.2.2.2.2.2.2.2.2.2.2.2.2.1.trans ((congrFun (congrFun e5 _) _).trans ((gset_ne (by omega)).trans (E4 15 7 (by omega))))), (x6.2.2.2.2.2.2.2.2.2.2.2.2.2.2.2.2.1.trans ((congrFun (congrFun e5 _) _).trans ((gset_ne (by omega)).trans (E4 15 8 (by omega))))), (x6.2.2.2.2.2.2.2.2.2.2.2.2.2.2.2.2.2.trans ((congrFun (congrFun e5 _) _).trans ((gset_ne (by omega)).trans (E4 15 9 (by omega)))))⟩)
