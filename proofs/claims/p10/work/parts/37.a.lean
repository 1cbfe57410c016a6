theorem gGP_all {o : Int} (h : 31 ≤ o ∧ o < 47) (b : Int) : (120 : Nat).testBit (gG o b) = true := by
  unfold gG gGn
  rw [if_pos (by omega), if_neg (by omega), if_pos (by omega)]
  unfold gGc6
  by_cases h0 : b = 0
  · rw [if_pos h0]; rfl
  rw [if_neg h0]
  by_cases h1 : b = 1
  · rw [if_pos h1]; rfl
  rw [if_neg h1]
  by_cases h2 : b = 2
  · rw [if_pos h2]; rfl
  rw [if_neg h2]
  by_cases h3 : b = 3
  · rw [if_pos h3]; rfl
  rw [if_neg h3]
  by_cases h4 : b = 4
  · rw [if_pos h4]; rfl
  rw [if_neg h4]
  by_cases h5 : b = 5
  · rw [if_pos h5]; rfl
  rw [if_neg h5]
  by_cases h6 : b = 6
  · rw [if_pos h6]; rfl
  rw [if_neg h6]
  by_cases h7 : b = 7
  · rw [if_pos h7]; rfl
  rw [if_neg h7]
  by_cases h8 : b = 8
  · rw [if_pos h8]; rfl
  rw [if_neg h8]
  by_cases h9 : b = 9
  · rw [if_pos h9]; rfl
  rw [if_neg h9]
  by_cases h10 : b = 10
  · rw [if_pos h10]; rfl
  rw [if_neg h10]
  by_cases h11 : b = 11
  · rw [if_pos h11]; rfl
  rw [if_neg h11]
  by_cases h12 : b = 12
  · rw [if_pos h12]; rfl
  rw [if_neg h12]
  by_cases h13 : b = 13
  · rw [if_pos h13]; rfl
  rw [if_neg h13]
  by_cases h14 : b = 14
  · rw [if_pos h14]; rfl
  rw [if_neg h14]
  rfl
theorem gGQ_all {o : Int} (h : 174 ≤ o ∧ o < 190) (b : Int) : (1073741824 : Nat).testBit (gG o b) = true := by
  unfold gG
  rw [if_neg (by omega), if_neg (by omega), if_neg (by omega), if_pos (by omega)]
  rfl
theorem gGI_all {o : Int} (h : 236 ≤ o ∧ o < 252) (b : Int) : (19342813113834066795298816 : Nat).testBit (gG o b) = true := by
  unfold gG
  rw [if_neg (by omega), if_neg (by omega), if_neg (by omega), if_neg (by omega), if_neg (by omega)]
  unfold gGi
  rw [if_neg (by omega), if_neg (by omega), if_pos (by omega)]
  rfl
theorem gFr.PI {T : Nat} {M M1 : gM} (F : gFr T M M1) (h : T &&& 19342813113834066795298816 = 0) {o : Int} (ho : 236 ≤ o ∧ o < 252) (b : Int) : M1 o b = M o b := F o b (by
  have h1 : (T &&& 19342813113834066795298816).testBit (gG o b) = (T.testBit (gG o b) && (19342813113834066795298816 : Nat).testBit (gG o b)) := Nat.testBit_and T _ (gG o b)
  rw [h, gGI_all ho b, Bool.and_true, Nat.zero_testBit] at h1
  exact h1.symm)
theorem gGIR_all {o : Int} (h : 252 ≤ o ∧ o < 292) (b : Int) : (38685626227668133590597632 : Nat).testBit (gG o b) = true := by
  unfold gG
  rw [if_neg (by omega), if_neg (by omega), if_neg (by omega), if_neg (by omega), if_neg (by omega)]
  unfold gGi
  rw [if_neg (by omega), if_neg (by omega), if_neg (by omega), if_pos (by omega)]
  rfl
theorem gGIA_all {o : Int} (h : 292 ≤ o ∧ o < 358) (b : Int) : (77371252455336267181195264 : Nat).testBit (gG o b) = true := by
  unfold gG
  rw [if_neg (by omega), if_neg (by omega), if_neg (by omega), if_neg (by omega), if_neg (by omega)]
  unfold gGi
  rw [if_neg (by omega), if_neg (by omega), if_neg (by omega), if_neg (by omega)]
  rfl
theorem gFr.P {T : Nat} {M M1 : gM} (F : gFr T M M1) (h : T &&& 120 = 0) {o : Int} (ho : 31 ≤ o ∧ o < 47) (b : Int) : M1 o b = M o b := F o b (by
  have h1 : (T &&& 120).testBit (gG o b) = (T.testBit (gG o b) && (120 : Nat).testBit (gG o b)) := Nat.testBit_and T _ (gG o b)
  rw [h, gGP_all ho b, Bool.and_true, Nat.zero_testBit] at h1
  exact h1.symm)
theorem gFr.Q {T : Nat} {M M1 : gM} (F : gFr T M M1) (h : T &&& 1073741824 = 0) {o : Int} (ho : 174 ≤ o ∧ o < 190) (b : Int) : M1 o b = M o b := F o b (by
  have h1 : (T &&& 1073741824).testBit (gG o b) = (T.testBit (gG o b) && (1073741824 : Nat).testBit (gG o b)) := Nat.testBit_and T _ (gG o b)
  rw [h, gGQ_all ho b, Bool.and_true, Nat.zero_testBit] at h1
  exact h1.symm)
def gCp (k : Int) : Prop := (0 ≤ k ∧ k ≤ 11) ∨ k = 15
theorem gC.copyP {sz : Nat} {M M2 : gM} {o oa : Int} (C : gC sz M) (ho : gPz sz o) (hoa : gPz sz oa) (hf : ∀ a b : Int, ¬ a = o → M2 a b = M a b) (h5 : M2 o 5 = M oa 5) (h8 : M2 o 8 = M oa 8) (h10 : M2 o 10 = M oa 10) : gC sz M2 := by
  refine ⟨fun a ha => ?_, fun a ha => ?_, fun a i ha => ?_⟩
  · have h : ¬ a = o := by unfold gRz at ha; unfold gPz at ho; omega
    rw [hf _ _ h, hf _ _ h]; exact C.1 a ha
  · by_cases q : a = o
    · rw [q, h5, h8, h10]; exact C.2.1 oa hoa
    · rw [hf _ _ q, hf _ _ q, hf _ _ q]; exact C.2.1 a ha
  · have h3 : ¬ a + 3 = o := by unfold gAz at ha; unfold gPz at ho; omega
    have h4 : ¬ a + 4 = o := by unfold gAz at ha; unfold gPz at ho; omega
    rw [hf _ _ h3, hf _ _ h4]; exact C.2.2 a i ha
theorem gC.copyR {sz : Nat} {M M2 : gM} {o oa : Int} (C : gC sz M) (ho : gRz sz o) (hoa : gRz sz oa) (hf : ∀ a b : Int, ¬ a = o → M2 a b = M a b) (h0 : M2 o 0 = M oa 0) (h2 : M2 o 2 = M oa 2) : gC sz M2 := by
  refine ⟨fun a ha => ?_, fun a ha => ?_, fun a i ha => ?_⟩
  · by_cases q : a = o
    · rw [q, h0, h2]; exact C.1 oa hoa
    · rw [hf _ _ q, hf _ _ q]; exact C.1 a ha
  · have h : ¬ a = o := by unfold gPz at ha; unfold gRz at ho; omega
    rw [hf _ _ h, hf _ _ h, hf _ _ h]; exact C.2.1 a ha
  · have h3 : ¬ a + 3 = o := by unfold gAz at ha; unfold gRz at ho; omega
    have h4 : ¬ a + 4 = o := by unfold gAz at ha; unfold gRz at ho; omega
    rw [hf _ _ h3, hf _ _ h4]; exact C.2.2 a i ha
theorem dX6_copyFrom_0 : decode cX6_copyFrom 0 = .ok (.aload_n 0, 1) := dc_42 (by decide +kernel)
theorem dX6_copyFrom_1 : decode cX6_copyFrom 1 = .ok (.aload_n 1, 1) := dc_43 (by decide +kernel)
theorem dX6_copyFrom_2 : decode cX6_copyFrom 2 = .ok (.getfield 9, 3) := dc_180 0 9 (by decide +kernel)
theorem dX6_copyFrom_5 : decode cX6_copyFrom 5 = .ok (.putfield 9, 3) := dc_181 0 9 (by decide +kernel)
theorem dX6_copyFrom_8 : decode cX6_copyFrom 8 = .ok (.aload_n 0, 1) := dc_42 (by decide +kernel)
theorem dX6_copyFrom_9 : decode cX6_copyFrom 9 = .ok (.aload_n 1, 1) := dc_43 (by decide +kernel)
theorem dX6_copyFrom_10 : decode cX6_copyFrom 10 = .ok (.getfield 15, 3) := dc_180 0 15 (by decide +kernel)
theorem dX6_copyFrom_13 : decode cX6_copyFrom 13 = .ok (.putfield 15, 3) := dc_181 0 15 (by decide +kernel)
theorem dX6_copyFrom_16 : decode cX6_copyFrom 16 = .ok (.aload_n 0, 1) := dc_42 (by decide +kernel)
theorem dX6_copyFrom_17 : decode cX6_copyFrom 17 = .ok (.aload_n 1, 1) := dc_43 (by decide +kernel)
theorem dX6_copyFrom_18 : decode cX6_copyFrom 18 = .ok (.getfield 18, 3) := dc_180 0 18 (by decide +kernel)
theorem dX6_copyFrom_21 : decode cX6_copyFrom 21 = .ok (.putfield 18, 3) := dc_181 0 18 (by decide +kernel)
theorem dX6_copyFrom_24 : decode cX6_copyFrom 24 = .ok (.aload_n 0, 1) := dc_42 (by decide +kernel)
theorem dX6_copyFrom_25 : decode cX6_copyFrom 25 = .ok (.aload_n 1, 1) := dc_43 (by decide +kernel)
theorem dX6_copyFrom_26 : decode cX6_copyFrom 26 = .ok (.getfield 21, 3) := dc_180 0 21 (by decide +kernel)
theorem dX6_copyFrom_29 : decode cX6_copyFrom 29 = .ok (.putfield 21, 3) := dc_181 0 21 (by decide +kernel)
theorem dX6_copyFrom_32 : decode cX6_copyFrom 32 = .ok (.aload_n 0, 1) := dc_42 (by decide +kernel)
theorem dX6_copyFrom_33 : decode cX6_copyFrom 33 = .ok (.aload_n 1, 1) := dc_43 (by decide +kernel)
theorem dX6_copyFrom_34 : decode cX6_copyFrom 34 = .ok (.getfield 24, 3) := dc_180 0 24 (by decide +kernel)
theorem dX6_copyFrom_37 : decode cX6_copyFrom 37 = .ok (.putfield 24, 3) := dc_181 0 24 (by decide +kernel)
theorem dX6_copyFrom_40 : decode cX6_copyFrom 40 = .ok (.aload_n 0, 1) := dc_42 (by decide +kernel)
theorem dX6_copyFrom_41 : decode cX6_copyFrom 41 = .ok (.aload_n 1, 1) := dc_43 (by decide +kernel)
theorem dX6_copyFrom_42 : decode cX6_copyFrom 42 = .ok (.getfield 40, 3) := dc_180 0 40 (by decide +kernel)
theorem dX6_copyFrom_45 : decode cX6_copyFrom 45 = .ok (.putfield 40, 3) := dc_181 0 40 (by decide +kernel)
theorem dX6_copyFrom_48 : decode cX6_copyFrom 48 = .ok (.aload_n 0, 1) := dc_42 (by decide +kernel)
theorem dX6_copyFrom_49 : decode cX6_copyFrom 49 = .ok (.aload_n 1, 1) := dc_43 (by decide +kernel)
theorem dX6_copyFrom_50 : decode cX6_copyFrom 50 = .ok (.getfield 27, 3) := dc_180 0 27 (by decide +kernel)
theorem dX6_copyFrom_53 : decode cX6_copyFrom 53 = .ok (.putfield 27, 3) := dc_181 0 27 (by decide +kernel)
theorem dX6_copyFrom_56 : decode cX6_copyFrom 56 = .ok (.aload_n 0, 1) := dc_42 (by decide +kernel)
theorem dX6_copyFrom_57 : decode cX6_copyFrom 57 = .ok (.aload_n 1, 1) := dc_43 (by decide +kernel)
theorem dX6_copyFrom_58 : decode cX6_copyFrom 58 = .ok (.getfield 30, 3) := dc_180 0 30 (by decide +kernel)
theorem dX6_copyFrom_61 : decode cX6_copyFrom 61 = .ok (.putfield 30, 3) := dc_181 0 30 (by decide +kernel)
theorem dX6_copyFrom_64 : decode cX6_copyFrom 64 = .ok (.aload_n 0, 1) := dc_42 (by decide +kernel)
theorem dX6_copyFrom_65 : decode cX6_copyFrom 65 = .ok (.aload_n 1, 1) := dc_43 (by decide +kernel)
theorem dX6_copyFrom_66 : decode cX6_copyFrom 66 = .ok (.getfield 43, 3) := dc_180 0 43 (by decide +kernel)
theorem dX6_copyFrom_69 : decode cX6_copyFrom 69 = .ok (.putfield 43, 3) := dc_181 0 43 (by decide +kernel)
theorem dX6_copyFrom_72 : decode cX6_copyFrom 72 = .ok (.aload_n 0, 1) := dc_42 (by decide +kernel)
theorem dX6_copyFrom_73 : decode cX6_copyFrom 73 = .ok (.aload_n 1, 1) := dc_43 (by decide +kernel)
theorem dX6_copyFrom_74 : decode cX6_copyFrom 74 = .ok (.getfield 46, 3) := dc_180 0 46 (by decide +kernel)
theorem dX6_copyFrom_77 : decode cX6_copyFrom 77 = .ok (.putfield 46, 3) := dc_181 0 46 (by decide +kernel)
theorem dX6_copyFrom_80 : decode cX6_copyFrom 80 = .ok (.aload_n 0, 1) := dc_42 (by decide +kernel)
theorem dX6_copyFrom_81 : decode cX6_copyFrom 81 = .ok (.aload_n 1, 1) := dc_43 (by decide +kernel)
theorem dX6_copyFrom_82 : decode cX6_copyFrom 82 = .ok (.getfield 49, 3) := dc_180 0 49 (by decide +kernel)
theorem dX6_copyFrom_85 : decode cX6_copyFrom 85 = .ok (.putfield 49, 3) := dc_181 0 49 (by decide +kernel)
theorem dX6_copyFrom_88 : decode cX6_copyFrom 88 = .ok (.aload_n 0, 1) := dc_42 (by decide +kernel)
theorem dX6_copyFrom_89 : decode cX6_copyFrom 89 = .ok (.aload_n 1, 1) := dc_43 (by decide +kernel)
theorem dX6_copyFrom_90 : decode cX6_copyFrom 90 = .ok (.getfield 33, 3) := dc_180 0 33 (by decide +kernel)
theorem dX6_copyFrom_93 : decode cX6_copyFrom 93 = .ok (.putfield 33, 3) := dc_181 0 33 (by decide +kernel)
theorem dX6_copyFrom_96 : decode cX6_copyFrom 96 = .ok (.aload_n 0, 1) := dc_42 (by decide +kernel)
theorem dX6_copyFrom_97 : decode cX6_copyFrom 97 = .ok (.aload_n 1, 1) := dc_43 (by decide +kernel)
theorem dX6_copyFrom_98 : decode cX6_copyFrom 98 = .ok (.getfield 52, 3) := dc_180 0 52 (by decide +kernel)
theorem kw_1_223 : (Jvm.Cond.fieldLink "ParishUnion$Person" (52 : Nat) "ParishUnion$Person" "home" "I") ∈ gT := gT_of (tb_1 _ (List.mem_of_getElem? (i := 223) rfl)) rfl
theorem dX6_copyFrom_101 : decode cX6_copyFrom 101 = .ok (.putfield 52, 3) := dc_181 0 52 (by decide +kernel)
theorem dX6_copyFrom_104 : decode cX6_copyFrom 104 = .ok (.return_, 1) := dc_177 (by decide +kernel)
abbrev R_s_X6_copyFrom : Room := { frames := 0, cells := 0, slots := 0, locals := 0 }
set_option maxRecDepth 100000 in
set_option maxHeartbeats 4000000 in
theorem s_X6_copyFrom {l : Launch} {n0 : Nat} {D : va_G} {cA : Nat → ClassId} {M : gM} {sz : Nat} (o : Int) (r_o : gPz sz o) (oa : Int) (r_oa : gPz sz oa) (hsz : 206 ≤ sz) (I : gI sz M) (C : gC sz M) (hne : ¬ oa = o)  : Met l yX6_copyFrom (gWsOf yX6_copyFrom cX6_copyFrom 2 (Option.none : Option Jvm.ClassFile.FieldType)) R_s_X6_copyFrom (gPc n0 D cA [gA n0 o, gA n0 oa] M sz) (gQv n0 D cA sz (fun M1 => gI sz M1 ∧ gC sz M1 ∧ (∀ a b : Int, ¬ a = o → M1 a b = M a b) ∧ (∀ k : Int, gCp k → M1 o k = M oa k) ∧ (∀ k : Int, ¬ gCp k → M1 o k = M o k))) 0 0 (fun q => n0 ≤ q) := by
  refine gMetV [gA n0 o, gA n0 oa] (by decide) (Nat.le_of_ble_eq_true rfl) ⟨rfl, rfl⟩ ?_
  intro p e s m args below meth cd Q X hq
  have X : gCx p s m args meth cd n0 D cA "ParishUnion$Person" cX6_copyFrom 2 := X
  show G p l e R_s_X6_copyFrom s m args below meth cd n0 D cA 2 Q 0 0 M sz 0 [(0, gA n0 o), (1, gA n0 oa)] []
  refine g_aload_n (n := 1) X 0 dX6_copyFrom_0 rfl rfl rfl ?_
  refine g_aload_n (n := 2) X 1 dX6_copyFrom_1 rfl rfl rfl ?_
  obtain ⟨v1, hv1, rv1⟩ := gRd I (Pzo0 r_oa) (Pzosz hsz r_oa) (rPz_0 r_oa).1
  refine gg_6_0 (n := 5) (z := v1) X (Pzo0 r_oa) (Pzosz hsz r_oa) (lay3_Pz r_oa) kw_1_175 dX6_copyFrom_2 rfl hv1 ?_
  refine gp_6_0 (n := 8) X (Pzo0 r_o) (Pzosz hsz r_o) (lay3_Pz r_o) kw_1_175 dX6_copyFrom_5 rfl ?_
  refine G.nm (fun M2 e3 => ?_)
  have IM2 : gI sz M2 := gI.set I (rPz_0 r_o).1 (by omega) e3
  have CM2 : gC sz M2 := gC.set C (rPz_0 r_o).2 e3
  refine g_aload_n (n := 9) X 0 dX6_copyFrom_8 rfl rfl rfl ?_
  refine g_aload_n (n := 10) X 1 dX6_copyFrom_9 rfl rfl rfl ?_
  obtain ⟨v4, hv4, rv4⟩ := gRd IM2 (Pzo0 r_oa) (Pzosz hsz r_oa) (rPz_1 r_oa).1
  refine gg_6_1 (n := 13) (z := v4) X (Pzo0 r_oa) (Pzosz hsz r_oa) (lay3_Pz r_oa) kw_1_178 dX6_copyFrom_10 rfl hv4 ?_
  refine gp_6_1 (n := 16) X (Pzo0 r_o) (Pzosz hsz r_o) (lay3_Pz r_o) kw_1_178 dX6_copyFrom_13 rfl ?_
  refine G.nm (fun M5 e6 => ?_)
  have IM5 : gI sz M5 := gI.set IM2 (rPz_1 r_o).1 (by omega) e6
  have CM5 : gC sz M5 := gC.set CM2 (rPz_1 r_o).2 e6
  refine g_aload_n (n := 17) X 0 dX6_copyFrom_16 rfl rfl rfl ?_
  refine g_aload_n (n := 18) X 1 dX6_copyFrom_17 rfl rfl rfl ?_
  obtain ⟨v7, hv7, rv7⟩ := gRd IM5 (Pzo0 r_oa) (Pzosz hsz r_oa) (rPz_2 r_oa).1
  refine gg_6_2 (n := 21) (z := v7) X (Pzo0 r_oa) (Pzosz hsz r_oa) (lay3_Pz r_oa) kw_1_181 dX6_copyFrom_18 rfl hv7 ?_
  refine gp_6_2 (n := 24) X (Pzo0 r_o) (Pzosz hsz r_o) (lay3_Pz r_o) kw_1_181 dX6_copyFrom_21 rfl ?_
  refine G.nm (fun M8 e9 => ?_)
  have IM8 : gI sz M8 := gI.set IM5 (rPz_2 r_o).1 (by omega) e9
  have CM8 : gC sz M8 := gC.set CM5 (rPz_2 r_o).2 e9
  refine g_aload_n (n := 25) X 0 dX6_copyFrom_24 rfl rfl rfl ?_
  refine g_aload_n (n := 26) X 1 dX6_copyFrom_25 rfl rfl rfl ?_
  obtain ⟨v10, hv10, rv10⟩ := gRd IM8 (Pzo0 r_oa) (Pzosz hsz r_oa) (rPz_3 r_oa).1
  refine gg_6_3 (n := 29) (z := v10) X (Pzo0 r_oa) (Pzosz hsz r_oa) (lay3_Pz r_oa) kw_1_184 dX6_copyFrom_26 rfl hv10 ?_
  refine gp_6_3 (n := 32) X (Pzo0 r_o) (Pzosz hsz r_o) (lay3_Pz r_o) kw_1_184 dX6_copyFrom_29 rfl ?_
  refine G.nm (fun M11 e12 => ?_)
  have IM11 : gI sz M11 := gI.set IM8 (rPz_3 r_o).1 (by omega) e12
  have CM11 : gC sz M11 := gC.set CM8 (rPz_3 r_o).2 e12
  refine g_aload_n (n := 33) X 0 dX6_copyFrom_32 rfl rfl rfl ?_
  refine g_aload_n (n := 34) X 1 dX6_copyFrom_33 rfl rfl rfl ?_
  obtain ⟨v13, hv13, rv13⟩ := gRd IM11 (Pzo0 r_oa) (Pzosz hsz r_oa) (rPz_4 r_oa).1
  refine gg_6_4 (n := 37) (z := v13) X (Pzo0 r_oa) (Pzosz hsz r_oa) (lay3_Pz r_oa) kw_1_187 dX6_copyFrom_34 rfl hv13 ?_
  refine gp_6_4 (n := 40) X (Pzo0 r_o) (Pzosz hsz r_o) (lay3_Pz r_o) kw_1_187 dX6_copyFrom_37 rfl ?_
  refine G.nm (fun M14 e15 => ?_)
  have IM14 : gI sz M14 := gI.set IM11 (rPz_4 r_o).1 (by omega) e15
  have CM14 : gC sz M14 := gC.set CM11 (rPz_4 r_o).2 e15
  refine g_aload_n (n := 41) X 0 dX6_copyFrom_40 rfl rfl rfl ?_
  refine g_aload_n (n := 42) X 1 dX6_copyFrom_41 rfl rfl rfl ?_
  obtain ⟨v16, hv16, rv16⟩ := gRd IM14 (Pzo0 r_oa) (Pzosz hsz r_oa) (rPz_5 r_oa).1
  refine gg_6_5 (n := 45) (z := v16) X (Pzo0 r_oa) (Pzosz hsz r_oa) (lay3_Pz r_oa) kw_1_191 dX6_copyFrom_42 rfl hv16 ?_
  refine gp_6_5 (n := 48) X (Pzo0 r_o) (Pzosz hsz r_o) (lay3_Pz r_o) kw_1_191 dX6_copyFrom_45 rfl ?_
  refine G.nm (fun M17 e18 => ?_)
  have IM17 : gI sz M17 := gI.set IM14 (rPz_5 r_o).1 (by omega) e18
  refine g_aload_n (n := 49) X 0 dX6_copyFrom_48 rfl rfl rfl ?_
  refine g_aload_n (n := 50) X 1 dX6_copyFrom_49 rfl rfl rfl ?_
  obtain ⟨v19, hv19, rv19⟩ := gRd IM17 (Pzo0 r_oa) (Pzosz hsz r_oa) (rPz_6 r_oa).1
  refine gg_6_6 (n := 53) (z := v19) X (Pzo0 r_oa) (Pzosz hsz r_oa) (lay3_Pz r_oa) kw_1_196 dX6_copyFrom_50 rfl hv19 ?_
  refine gp_6_6 (n := 56) X (Pzo0 r_o) (Pzosz hsz r_o) (lay3_Pz r_o) kw_1_196 dX6_copyFrom_53 rfl ?_
  refine G.nm (fun M20 e21 => ?_)
  have IM20 : gI sz M20 := gI.set IM17 (rPz_6 r_o).1 (by omega) e21
  refine g_aload_n (n := 57) X 0 dX6_copyFrom_56 rfl rfl rfl ?_
  refine g_aload_n (n := 58) X 1 dX6_copyFrom_57 rfl rfl rfl ?_
  obtain ⟨v22, hv22, rv22⟩ := gRd IM20 (Pzo0 r_oa) (Pzosz hsz r_oa) (rPz_7 r_oa).1
  refine gg_6_7 (n := 61) (z := v22) X (Pzo0 r_oa) (Pzosz hsz r_oa) (lay3_Pz r_oa) kw_1_200 dX6_copyFrom_58 rfl hv22 ?_
  refine gp_6_7 (n := 64) X (Pzo0 r_o) (Pzosz hsz r_o) (lay3_Pz r_o) kw_1_200 dX6_copyFrom_61 rfl ?_
  refine G.nm (fun M23 e24 => ?_)
  have IM23 : gI sz M23 := gI.set IM20 (rPz_7 r_o).1 (by omega) e24
  refine g_aload_n (n := 65) X 0 dX6_copyFrom_64 rfl rfl rfl ?_
  refine g_aload_n (n := 66) X 1 dX6_copyFrom_65 rfl rfl rfl ?_
  obtain ⟨v25, hv25, rv25⟩ := gRd IM23 (Pzo0 r_oa) (Pzosz hsz r_oa) (rPz_8 r_oa).1
  refine gg_6_8 (n := 69) (z := v25) X (Pzo0 r_oa) (Pzosz hsz r_oa) (lay3_Pz r_oa) kw_1_203 dX6_copyFrom_66 rfl hv25 ?_
  refine gp_6_8 (n := 72) X (Pzo0 r_o) (Pzosz hsz r_o) (lay3_Pz r_o) kw_1_203 dX6_copyFrom_69 rfl ?_
  refine G.nm (fun M26 e27 => ?_)
  have IM26 : gI sz M26 := gI.set IM23 (rPz_8 r_o).1 (by omega) e27
  refine g_aload_n (n := 73) X 0 dX6_copyFrom_72 rfl rfl rfl ?_
  refine g_aload_n (n := 74) X 1 dX6_copyFrom_73 rfl rfl rfl ?_
  obtain ⟨v28, hv28, rv28⟩ := gRd IM26 (Pzo0 r_oa) (Pzosz hsz r_oa) (rPz_9 r_oa).1
  refine gg_6_9 (n := 77) (z := v28) X (Pzo0 r_oa) (Pzosz hsz r_oa) (lay3_Pz r_oa) kw_1_206 dX6_copyFrom_74 rfl hv28 ?_
  refine gp_6_9 (n := 80) X (Pzo0 r_o) (Pzosz hsz r_o) (lay3_Pz r_o) kw_1_206 dX6_copyFrom_77 rfl ?_
  refine G.nm (fun M29 e30 => ?_)
  have IM29 : gI sz M29 := gI.set IM26 (rPz_9 r_o).1 (by omega) e30
  refine g_aload_n (n := 81) X 0 dX6_copyFrom_80 rfl rfl rfl ?_
  refine g_aload_n (n := 82) X 1 dX6_copyFrom_81 rfl rfl rfl ?_
  obtain ⟨v31, hv31, rv31⟩ := gRd IM29 (Pzo0 r_oa) (Pzosz hsz r_oa) (rPz_10 r_oa).1
  refine gg_6_10 (n := 85) (z := v31) X (Pzo0 r_oa) (Pzosz hsz r_oa) (lay3_Pz r_oa) kw_1_209 dX6_copyFrom_82 rfl hv31 ?_
  refine gp_6_10 (n := 88) X (Pzo0 r_o) (Pzosz hsz r_o) (lay3_Pz r_o) kw_1_209 dX6_copyFrom_85 rfl ?_
  refine G.nm (fun M32 e33 => ?_)
  have IM32 : gI sz M32 := gI.set IM29 (rPz_10 r_o).1 (by omega) e33
  refine g_aload_n (n := 89) X 0 dX6_copyFrom_88 rfl rfl rfl ?_
  refine g_aload_n (n := 90) X 1 dX6_copyFrom_89 rfl rfl rfl ?_
  obtain ⟨v34, hv34, rv34⟩ := gRd IM32 (Pzo0 r_oa) (Pzosz hsz r_oa) (rPz_11 r_oa).1
  refine gg_6_11 (n := 93) (z := v34) X (Pzo0 r_oa) (Pzosz hsz r_oa) (lay3_Pz r_oa) kw_1_212 dX6_copyFrom_90 rfl hv34 ?_
  refine gp_6_11 (n := 96) X (Pzo0 r_o) (Pzosz hsz r_o) (lay3_Pz r_o) kw_1_212 dX6_copyFrom_93 rfl ?_
  refine G.nm (fun M35 e36 => ?_)
  have IM35 : gI sz M35 := gI.set IM32 (rPz_11 r_o).1 (by omega) e36
  refine g_aload_n (n := 97) X 0 dX6_copyFrom_96 rfl rfl rfl ?_
  refine g_aload_n (n := 98) X 1 dX6_copyFrom_97 rfl rfl rfl ?_
  obtain ⟨v37, hv37, rv37⟩ := gRd IM35 (Pzo0 r_oa) (Pzosz hsz r_oa) (rPz_15 r_oa).1
  refine gg_6_15 (n := 101) (z := v37) X (Pzo0 r_oa) (Pzosz hsz r_oa) (lay3_Pz r_oa) kw_1_223 dX6_copyFrom_98 rfl hv37 ?_
  refine gp_6_15 (n := 104) X (Pzo0 r_o) (Pzosz hsz r_o) (lay3_Pz r_o) kw_1_223 dX6_copyFrom_101 rfl ?_
  refine G.nm (fun M38 e39 => ?_)
  have IM38 : gI sz M38 := gI.set IM35 (rPz_15 r_o).1 (by omega) e39
  have y0 : M38 o 0 = M oa 0 := ((congrFun (congrFun e39 _) _).trans ((gset_ne (by omega)).trans ((congrFun (congrFun e36 _) _).trans ((gset_ne (by omega)).trans ((congrFun (congrFun e33 _) _).trans ((gset_ne (by omega)).trans ((congrFun (congrFun e30 _) _).trans ((gset_ne (by omega)).trans ((congrFun (congrFun e27 _) _).trans ((gset_ne (by omega)).trans ((congrFun (congrFun e24 _) _).trans ((gset_ne (by omega)).trans ((congrFun (congrFun e21 _) _).trans ((gset_ne (by omega)).trans ((congrFun (congrFun e18 _) _).trans ((gset_ne (by omega)).trans ((congrFun (congrFun e15 _) _).trans ((gset_ne (by omega)).trans ((congrFun (congrFun e12 _) _).trans ((gset_ne (by omega)).trans ((congrFun (congrFun e9 _) _).trans ((gset_ne (by omega)).trans ((congrFun (congrFun e6 _) _).trans ((gset_ne (by omega)).trans ((congrFun (congrFun e3 _) _).trans (gset_eq _ _ _ _)))))))))))))))))))))))))).trans ((hv1 : M oa 0 = v1).symm.trans rfl)
  have y1 : M38 o 1 = M oa 1 := ((congrFun (congrFun e39 _) _).trans ((gset_ne (by omega)).trans ((congrFun (congrFun e36 _) _).trans ((gset_ne (by omega)).trans ((congrFun (congrFun e33 _) _).trans ((gset_ne (by omega)).trans ((congrFun (congrFun e30 _) _).trans ((gset_ne (by omega)).trans ((congrFun (congrFun e27 _) _).trans ((gset_ne (by omega)).trans ((congrFun (congrFun e24 _) _).trans ((gset_ne (by omega)).trans ((congrFun (congrFun e21 _) _).trans ((gset_ne (by omega)).trans ((congrFun (congrFun e18 _) _).trans ((gset_ne (by omega)).trans ((congrFun (congrFun e15 _) _).trans ((gset_ne (by omega)).trans ((congrFun (congrFun e12 _) _).trans ((gset_ne (by omega)).trans ((congrFun (congrFun e9 _) _).trans ((gset_ne (by omega)).trans ((congrFun (congrFun e6 _) _).trans (gset_eq _ _ _ _)))))))))))))))))))))))).trans ((hv4 : M2 oa 1 = v4).symm.trans ((congrFun (congrFun e3 _) _).trans ((gset_ne (by omega)).trans rfl)))
  have y2 : M38 o 2 = M oa 2 := ((congrFun (congrFun e39 _) _).trans ((gset_ne (by omega)).trans ((congrFun (congrFun e36 _) _).trans ((gset_ne (by omega)).trans ((congrFun (congrFun e33 _) _).trans ((gset_ne (by omega)).trans ((congrFun (congrFun e30 _) _).trans ((gset_ne (by omega)).trans ((congrFun (congrFun e27 _) _).trans ((gset_ne (by omega)).trans ((congrFun (congrFun e24 _) _).trans ((gset_ne (by omega)).trans ((congrFun (congrFun e21 _) _).trans ((gset_ne (by omega)).trans ((congrFun (congrFun e18 _) _).trans ((gset_ne (by omega)).trans ((congrFun (congrFun e15 _) _).trans ((gset_ne (by omega)).trans ((congrFun (congrFun e12 _) _).trans ((gset_ne (by omega)).trans ((congrFun (congrFun e9 _) _).trans (gset_eq _ _ _ _)))))))))))))))))))))).trans ((hv7 : M5 oa 2 = v7).symm.trans ((congrFun (congrFun e6 _) _).trans ((gset_ne (by omega)).trans ((congrFun (congrFun e3 _) _).trans ((gset_ne (by omega)).trans rfl)))))
  have y3 : M38 o 3 = M oa 3 := ((congrFun (congrFun e39 _) _).trans ((gset_ne (by omega)).trans ((congrFun (congrFun e36 _) _).trans ((gset_ne (by omega)).trans ((congrFun (congrFun e33 _) _).trans ((gset_ne (by omega)).trans ((congrFun (congrFun e30 _) _).trans ((gset_ne (by omega)).trans ((congrFun (congrFun e27 _) _).trans ((gset_ne (by omega)).trans ((congrFun (congrFun e24 _) _).trans ((gset_ne (by omega)).trans ((congrFun (congrFun e21 _) _).trans ((gset_ne (by omega)).trans ((congrFun (congrFun e18 _) _).trans ((gset_ne (by omega)).trans ((congrFun (congrFun e15 _) _).trans ((gset_ne (by omega)).trans ((congrFun (congrFun e12 _) _).trans (gset_eq _ _ _ _)))))))))))))))))))).trans ((hv10 : M8 oa 3 = v10).symm.trans ((congrFun (congrFun e9 _) _).trans ((gset_ne (by omega)).trans ((congrFun (congrFun e6 _) _).trans ((gset_ne (by omega)).trans ((congrFun (congrFun e3 _) _).trans ((gset_ne (by omega)).trans rfl)))))))
  have y4 : M38 o 4 = M oa 4 := ((congrFun (congrFun e39 _) _).trans ((gset_ne (by omega)).trans ((congrFun (congrFun e36 _) _).trans ((gset_ne (by omega)).trans ((congrFun (congrFun e33 _) _).trans ((gset_ne (by omega)).trans ((congrFun (congrFun e30 _) _).trans ((gset_ne (by omega)).trans ((congrFun (congrFun e27 _) _).trans ((gset_ne (by omega)).trans ((congrFun (congrFun e24 _) _).trans ((gset_ne (by omega)).trans ((congrFun (congrFun e21 _) _).trans ((gset_ne (by omega)).trans ((congrFun (congrFun e18 _) _).trans ((gset_ne (by omega)).trans ((congrFun (congrFun e15 _) _).trans (gset_eq _ _ _ _)))))))))))))))))).trans ((hv13 : M11 oa 4 = v13).symm.trans ((congrFun (congrFun e12 _) _).trans ((gset_ne (by omega)).trans ((congrFun (congrFun e9 _) _).trans ((gset_ne (by omega)).trans ((congrFun (congrFun e6 _) _).trans ((gset_ne (by omega)).trans ((congrFun (congrFun e3 _) _).trans ((gset_ne (by omega)).trans rfl)))))))))
  have y5 : M38 o 5 = M oa 5 := ((congrFun (congrFun e39 _) _).trans ((gset_ne (by omega)).trans ((congrFun (congrFun e36 _) _).trans ((gset_ne (by omega)).trans ((congrFun (congrFun e33 _) _).trans ((gset_ne (by omega)).trans ((congrFun (congrFun e30 _) _).trans ((gset_ne (by omega)).trans ((congrFun (congrFun e27 _) _).trans ((gset_ne (by omega)).trans ((congrFun (congrFun e24 _) _).trans ((gset_ne (by omega)).trans ((congrFun (congrFun e21 _) _).trans ((gset_ne (by omega)).trans ((congrFun (congrFun e18 _) _).trans (gset_eq _ _ _ _)))))))))))))))).trans ((hv16 : M14 oa 5 = v16).symm.trans ((congrFun (congrFun e15 _) _).trans ((gset_ne (by omega)).trans ((congrFun (congrFun e12 _) _).trans ((gset_ne (by omega)).trans ((congrFun (congrFun e9 _) _).trans ((gset_ne (by omega)).trans ((congrFun (congrFun e6 _) _).trans ((gset_ne (by omega)).trans ((congrFun (congrFun e3 _) _).trans ((gset_ne (by omega)).trans rfl)))))))))))
  have y6 : M38 o 6 = M oa 6 := ((congrFun (congrFun e39 _) _).trans ((gset_ne (by omega)).trans ((congrFun (congrFun e36 _) _).trans ((gset_ne (by omega)).trans ((congrFun (congrFun e33 _) _).trans ((gset_ne (by omega)).trans ((congrFun (congrFun e30 _) _).trans ((gset_ne (by omega)).trans ((congrFun (congrFun e27 _) _).trans ((gset_ne (by omega)).trans ((congrFun (congrFun e24 _) _).trans ((gset_ne (by omega)).trans ((congrFun (congrFun e21 _) _).trans (gset_eq _ _ _ _)))))))))))))).trans ((hv19 : M17 oa 6 = v19).symm.trans ((congrFun (congrFun e18 _) _).trans ((gset_ne (by omega)).trans ((congrFun (congrFun e15 _) _).trans ((gset_ne (by omega)).trans ((congrFun (congrFun e12 _) _).trans ((gset_ne (by omega)).trans ((congrFun (congrFun e9 _) _).trans ((gset_ne (by omega)).trans ((congrFun (congrFun e6 _) _).trans ((gset_ne (by omega)).trans ((congrFun (congrFun e3 _) _).trans ((gset_ne (by omega)).trans rfl)))))))))))))
  have y7 : M38 o 7 = M oa 7 := ((congrFun (congrFun e39 _) _).trans ((gset_ne (by omega)).trans ((congrFun (congrFun e36 _) _).trans ((gset_ne (by omega)).trans ((congrFun (congrFun e33 _) _).trans ((gset_ne (by omega)).trans ((congrFun (congrFun e30 _) _).trans ((gset_ne (by omega)).trans ((congrFun (congrFun e27 _) _).trans ((gset_ne (by omega)).trans ((congrFun (congrFun e24 _) _).trans (gset_eq _ _ _ _)))))))))))).trans ((hv22 : M20 oa 7 = v22).symm.trans ((congrFun (congrFun e21 _) _).trans ((gset_ne (by omega)).trans ((congrFun (congrFun e18 _) _).trans ((gset_ne (by omega)).trans ((congrFun (congrFun e15 _) _).trans ((gset_ne (by omega)).trans ((congrFun (congrFun e12 _) _).trans ((gset_ne (by omega)).trans ((congrFun (congrFun e9 _) _).trans ((gset_ne (by omega)).trans ((congrFun (congrFun e6 _) _).trans ((gset_ne (by omega)).trans ((congrFun (congrFun e3 _) _).trans ((gset_ne (by omega)).trans rfl)))))))))))))))
  have y8 : M38 o 8 = M oa 8 := ((congrFun (congrFun e39 _) _).trans ((gset_ne (by omega)).trans ((congrFun (congrFun e36 _) _).trans ((gset_ne (by omega)).trans ((congrFun (congrFun e33 _) _).trans ((gset_ne (by omega)).trans ((congrFun (congrFun e30 _) _).trans ((gset_ne (by omega)).trans ((congrFun (congrFun e27 _) _).trans (gset_eq _ _ _ _)))))))))).trans ((hv25 : M23 oa 8 = v25).symm.trans ((congrFun (congrFun e24 _) _).trans ((gset_ne (by omega)).trans ((congrFun (congrFun e21 _) _).trans ((gset_ne (by omega)).trans ((congrFun (congrFun e18 _) _).trans ((gset_ne (by omega)).trans ((congrFun (congrFun e15 _) _).trans ((gset_ne (by omega)).trans ((congrFun (congrFun e12 _) _).trans ((gset_ne (by omega)).trans ((congrFun (congrFun e9 _) _).trans ((gset_ne (by omega)).trans ((congrFun (congrFun e6 _) _).trans ((gset_ne (by omega)).trans ((congrFun (congrFun e3 _) _).trans ((gset_ne (by omega)).trans rfl)))))))))))))))))
  have y9 : M38 o 9 = M oa 9 := ((congrFun (congrFun e39 _) _).trans ((gset_ne (by omega)).trans ((congrFun (congrFun e36 _) _).trans ((gset_ne (by omega)).trans ((congrFun (congrFun e33 _) _).trans ((gset_ne (by omega)).trans ((congrFun (congrFun e30 _) _).trans (gset_eq _ _ _ _)))))))).trans ((hv28 : M26 oa 9 = v28).symm.trans ((congrFun (congrFun e27 _) _).trans ((gset_ne (by omega)).trans ((congrFun (congrFun e24 _) _).trans ((gset_ne (by omega)).trans ((congrFun (congrFun e21 _) _).trans ((gset_ne (by omega)).trans ((congrFun (congrFun e18 _) _).trans ((gset_ne (by omega)).trans ((congrFun (congrFun e15 _) _).trans ((gset_ne (by omega)).trans ((congrFun (congrFun e12 _) _).trans ((gset_ne (by omega)).trans ((congrFun (congrFun e9 _) _).trans ((gset_ne (by omega)).trans ((congrFun (congrFun e6 _) _).trans ((gset_ne (by omega)).trans ((congrFun (congrFun e3 _) _).trans ((gset_ne (by omega)).trans rfl)))))))))))))))))))
  have y10 : M38 o 10 = M oa 10 := ((congrFun (congrFun e39 _) _).trans ((gset_ne (by omega)).trans ((congrFun (congrFun e36 _) _).trans ((gset_ne (by omega)).trans ((congrFun (congrFun e33 _) _).trans (gset_eq _ _ _ _)))))).trans ((hv31 : M29 oa 10 = v31).symm.trans ((congrFun (congrFun e30 _) _).trans ((gset_ne (by omega)).trans ((congrFun (congrFun e27 _) _).trans ((gset_ne (by omega)).trans ((congrFun (congrFun e24 _) _).trans ((gset_ne (by omega)).trans ((congrFun (congrFun e21 _) _).trans ((gset_ne (by omega)).trans ((congrFun (congrFun e18 _) _).trans ((gset_ne (by omega)).trans ((congrFun (congrFun e15 _) _).trans ((gset_ne (by omega)).trans ((congrFun (congrFun e12 _) _).trans ((gset_ne (by omega)).trans ((congrFun (congrFun e9 _) _).trans ((gset_ne (by omega)).trans ((congrFun (congrFun e6 _) _).trans ((gset_ne (by omega)).trans ((congrFun (congrFun e3 _) _).trans ((gset_ne (by omega)).trans rfl)))))))))))))))))))))
  have y11 : M38 o 11 = M oa 11 := ((congrFun (congrFun e39 _) _).trans ((gset_ne (by omega)).trans ((congrFun (congrFun e36 _) _).trans (gset_eq _ _ _ _)))).trans ((hv34 : M32 oa 11 = v34).symm.trans ((congrFun (congrFun e33 _) _).trans ((gset_ne (by omega)).trans ((congrFun (congrFun e30 _) _).trans ((gset_ne (by omega)).trans ((congrFun (congrFun e27 _) _).trans ((gset_ne (by omega)).trans ((congrFun (congrFun e24 _) _).trans ((gset_ne (by omega)).trans ((congrFun (congrFun e21 _) _).trans ((gset_ne (by omega)).trans ((congrFun (congrFun e18 _) _).trans ((gset_ne (by omega)).trans ((congrFun (congrFun e15 _) _).trans ((gset_ne (by omega)).trans ((congrFun (congrFun e12 _) _).trans ((gset_ne (by omega)).trans ((congrFun (congrFun e9 _) _).trans ((gset_ne (by omega)).trans ((congrFun (congrFun e6 _) _).trans ((gset_ne (by omega)).trans ((congrFun (congrFun e3 _) _).trans ((gset_ne (by omega)).trans rfl)))))))))))))))))))))))
  have y15 : M38 o 15 = M oa 15 := ((congrFun (congrFun e39 _) _).trans (gset_eq _ _ _ _)).trans ((hv37 : M35 oa 15 = v37).symm.trans ((congrFun (congrFun e36 _) _).trans ((gset_ne (by omega)).trans ((congrFun (congrFun e33 _) _).trans ((gset_ne (by omega)).trans ((congrFun (congrFun e30 _) _).trans ((gset_ne (by omega)).trans ((congrFun (congrFun e27 _) _).trans ((gset_ne (by omega)).trans ((congrFun (congrFun e24 _) _).trans ((gset_ne (by omega)).trans ((congrFun (congrFun e21 _) _).trans ((gset_ne (by omega)).trans ((congrFun (congrFun e18 _) _).trans ((gset_ne (by omega)).trans ((congrFun (congrFun e15 _) _).trans ((gset_ne (by omega)).trans ((congrFun (congrFun e12 _) _).trans ((gset_ne (by omega)).trans ((congrFun (congrFun e9 _) _).trans ((gset_ne (by omega)).trans ((congrFun (congrFun e6 _) _).trans ((gset_ne (by omega)).trans ((congrFun (congrFun e3 _) _).trans ((gset_ne (by omega)).trans rfl)))))))))))))))))))))))))
  have yf : ∀ a b : Int, ¬ a = o → M38 a b = M a b := fun a b h => ((congrFun (congrFun e39 _) _).trans ((gset_ne (fun q => h q.1)).trans ((congrFun (congrFun e36 _) _).trans ((gset_ne (fun q => h q.1)).trans ((congrFun (congrFun e33 _) _).trans ((gset_ne (fun q => h q.1)).trans ((congrFun (congrFun e30 _) _).trans ((gset_ne (fun q => h q.1)).trans ((congrFun (congrFun e27 _) _).trans ((gset_ne (fun q => h q.1)).trans ((congrFun (congrFun e24 _) _).trans ((gset_ne (fun q => h q.1)).trans ((congrFun (congrFun e21 _) _).trans ((gset_ne (fun q => h q.1)).trans ((congrFun (congrFun e18 _) _).trans ((gset_ne (fun q => h q.1)).trans ((congrFun (congrFun e15 _) _).trans ((gset_ne (fun q => h q.1)).trans ((congrFun (congrFun e12 _) _).trans ((gset_ne (fun q => h q.1)).trans ((congrFun (congrFun e9 _) _).trans ((gset_ne (fun q => h q.1)).trans ((congrFun (congrFun e6 _) _).trans ((gset_ne (fun q => h q.1)).trans ((congrFun (congrFun e3 _) _).trans ((gset_ne (fun q => h q.1)).trans rfl))))))))))))))))))))))))))
  have yC : gC sz M38 := gC.copyP C r_o r_oa yf y5 y8 y10
  have yk : ∀ k : Int, gCp k → M38 o k = M oa k := by
    intro k hk; unfold gCp at hk
    rcases (by omega : k = 0 ∨ k = 1 ∨ k = 2 ∨ k = 3 ∨ k = 4 ∨ k = 5 ∨ k = 6 ∨ k = 7 ∨ k = 8 ∨ k = 9 ∨ k = 10 ∨ k = 11 ∨ k = 15) with rfl | rfl | rfl | rfl | rfl | rfl | rfl | rfl | rfl | rfl | rfl | rfl | rfl
    · exact y0
    · exact y1
    · exact y2
    · exact y3
    · exact y4
    · exact y5
    · exact y6
    · exact y7
    · exact y8
    · exact y9
    · exact y10
    · exact y11
    · exact y15
  have yn : ∀ k : Int, ¬ gCp k → M38 o k = M o k := by
    intro k hk; unfold gCp at hk
    exact ((congrFun (congrFun e39 _) _).trans ((gset_ne (by omega)).trans ((congrFun (congrFun e36 _) _).trans ((gset_ne (by omega)).trans ((congrFun (congrFun e33 _) _).trans ((gset_ne (by omega)).trans ((congrFun (congrFun e30 _) _).trans ((gset_ne (by omega)).trans ((congrFun (congrFun e27 _) _).trans ((gset_ne (by omega)).trans ((congrFun (congrFun e24 _) _).trans ((gset_ne (by omega)).trans ((congrFun (congrFun e21 _) _).trans ((gset_ne (by omega)).trans ((congrFun (congrFun e18 _) _).trans ((gset_ne (by omega)).trans ((congrFun (congrFun e15 _) _).trans ((gset_ne (by omega)).trans ((congrFun (congrFun e12 _) _).trans ((gset_ne (by omega)).trans ((congrFun (congrFun e9 _) _).trans ((gset_ne (by omega)).trans ((congrFun (congrFun e6 _) _).trans ((gset_ne (by omega)).trans ((congrFun (congrFun e3 _) _).trans ((gset_ne (by omega)).trans rfl))))))))))))))))))))))))))
  exact hq _ _ _ dX6_copyFrom_104 ⟨IM38, yC, yf, yk, yn⟩
