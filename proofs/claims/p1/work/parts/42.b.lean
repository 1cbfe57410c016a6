theorem g_aleni {p : Program} {l : Launch} {e : Env} {R : Room} {s : State} {m : MethodId} {args : Array Value} {below : List Frame} {meth : Method} {c : Code} {n0 : Nat} {D : va_G} {cA : Nat → ClassId} {nL : Nat} {Q : State → Prop} {cells slots : Nat} {M : gM} {sz pc n : Nat} {L : List (Nat × Value)} {st : List Value} {own : String} {cc : ByteArray} (X : gCx p s m args meth c n0 D cA own cc nL) {N : Nat} {o z : Int} (h0 : 0 ≤ o) (h1 : o < (sz : Int)) (hlay : glay o = (1, N)) (hv : Int32.ofNat N = Int32.ofInt z) (hd : decode cc pc = .ok (.arraylength, 1)) (hn : pc + 1 = n) (kk : G p l e R s m args below meth c n0 D cA nL Q cells slots M sz n L (gJ z :: st)) : G p l e R s m args below meth c n0 D cA nL Q cells slots M sz pc L (gA n0 o :: st) := by
  subst hn
  intro H locs ls hl hW hS
  exact va_alen X.1 X.2.1 X.2.2.2.2.2.2.1.1 hW.2 o.toNat 0 (g_hei h0 h1 hlay) rfl hv hd (kk H locs ls hl hW hS)
theorem g_alenl {p : Program} {l : Launch} {e : Env} {R : Room} {s : State} {m : MethodId} {args : Array Value} {below : List Frame} {meth : Method} {c : Code} {n0 : Nat} {D : va_G} {cA : Nat → ClassId} {nL : Nat} {Q : State → Prop} {cells slots : Nat} {M : gM} {sz pc n : Nat} {L : List (Nat × Value)} {st : List Value} {own : String} {cc : ByteArray} (X : gCx p s m args meth c n0 D cA own cc nL) {N : Nat} {o z : Int} (h0 : 0 ≤ o) (h1 : o < (sz : Int)) (hlay : glay o = (2, N)) (hv : Int32.ofNat N = Int32.ofInt z) (hd : decode cc pc = .ok (.arraylength, 1)) (hn : pc + 1 = n) (kk : G p l e R s m args below meth c n0 D cA nL Q cells slots M sz n L (gJ z :: st)) : G p l e R s m args below meth c n0 D cA nL Q cells slots M sz pc L (gA n0 o :: st) := by
  subst hn
  intro H locs ls hl hW hS
  exact va_alen X.1 X.2.1 X.2.2.2.2.2.2.1.1 hW.2 o.toNat 1 (g_hel h0 h1 hlay) rfl hv hd (kk H locs ls hl hW hS)
theorem g_alenb {p : Program} {l : Launch} {e : Env} {R : Room} {s : State} {m : MethodId} {args : Array Value} {below : List Frame} {meth : Method} {c : Code} {n0 : Nat} {D : va_G} {cA : Nat → ClassId} {nL : Nat} {Q : State → Prop} {cells slots : Nat} {M : gM} {sz pc n : Nat} {L : List (Nat × Value)} {st : List Value} {own : String} {cc : ByteArray} (X : gCx p s m args meth c n0 D cA own cc nL) {N : Nat} {o z : Int} (h0 : 0 ≤ o) (h1 : o < (sz : Int)) (hlay : glay o = (3, N)) (hv : Int32.ofNat N = Int32.ofInt z) (hd : decode cc pc = .ok (.arraylength, 1)) (hn : pc + 1 = n) (kk : G p l e R s m args below meth c n0 D cA nL Q cells slots M sz n L (gJ z :: st)) : G p l e R s m args below meth c n0 D cA nL Q cells slots M sz pc L (gA n0 o :: st) := by
  subst hn
  intro H locs ls hl hW hS
  exact va_alen X.1 X.2.1 X.2.2.2.2.2.2.1.1 hW.2 o.toNat 2 (g_heb h0 h1 hlay) rfl hv hd (kk H locs ls hl hW hS)
theorem g_alenz {p : Program} {l : Launch} {e : Env} {R : Room} {s : State} {m : MethodId} {args : Array Value} {below : List Frame} {meth : Method} {c : Code} {n0 : Nat} {D : va_G} {cA : Nat → ClassId} {nL : Nat} {Q : State → Prop} {cells slots : Nat} {M : gM} {sz pc n : Nat} {L : List (Nat × Value)} {st : List Value} {own : String} {cc : ByteArray} (X : gCx p s m args meth c n0 D cA own cc nL) {N : Nat} {o z : Int} (h0 : 0 ≤ o) (h1 : o < (sz : Int)) (hlay : glay o = (4, N)) (hv : Int32.ofNat N = Int32.ofInt z) (hd : decode cc pc = .ok (.arraylength, 1)) (hn : pc + 1 = n) (kk : G p l e R s m args below meth c n0 D cA nL Q cells slots M sz n L (gJ z :: st)) : G p l e R s m args below meth c n0 D cA nL Q cells slots M sz pc L (gA n0 o :: st) := by
  subst hn
  intro H locs ls hl hW hS
  exact va_alen X.1 X.2.1 X.2.2.2.2.2.2.1.1 hW.2 o.toNat 3 (g_hez h0 h1 hlay) rfl hv hd (kk H locs ls hl hW hS)
theorem dX3_copyFrom_0 : decode cX3_copyFrom 0 = .ok (.aload_n 1, 1) := by decide +kernel
theorem dX3_copyFrom_1 : decode cX3_copyFrom 1 = .ok (.getfield 9, 3) := by decide +kernel
theorem dX3_copyFrom_4 : decode cX3_copyFrom 4 = .ok (.iconst 0, 1) := by decide +kernel
theorem dX3_copyFrom_5 : decode cX3_copyFrom 5 = .ok (.aload_n 0, 1) := by decide +kernel
theorem dX3_copyFrom_6 : decode cX3_copyFrom 6 = .ok (.getfield 9, 3) := by decide +kernel
theorem dX3_copyFrom_9 : decode cX3_copyFrom 9 = .ok (.iconst 0, 1) := by decide +kernel
theorem dX3_copyFrom_10 : decode cX3_copyFrom 10 = .ok (.bipush 6, 2) := by decide +kernel
theorem dX3_copyFrom_12 : decode cX3_copyFrom 12 = .ok (.invokestatic 18, 3) := by decide +kernel
theorem kw_5_220 : (Jvm.Cond.methodLink "ParishUnion$Land" (18 : Nat) ({ cls := "java/lang/System", name := "arraycopy", desc := "(Ljava/lang/Object;ILjava/lang/Object;II)V" } : Jvm.MethodName)) ∈ gT := gT_of (tb_5 _ (List.mem_of_getElem? (i := 220) rfl)) rfl
theorem kw_3_209 : (Jvm.Cond.native ({ cls := "java/lang/System", name := "arraycopy", desc := "(Ljava/lang/Object;ILjava/lang/Object;II)V" } : Jvm.MethodName)) ∈ gT := gT_of (tb_3 _ (List.mem_of_getElem? (i := 209) rfl)) rfl
theorem kw_3_208 : (Jvm.Cond.static ({ cls := "java/lang/System", name := "arraycopy", desc := "(Ljava/lang/Object;ILjava/lang/Object;II)V" } : Jvm.MethodName)) ∈ gT := gT_of (tb_3 _ (List.mem_of_getElem? (i := 208) rfl)) rfl
theorem kw_1_16 : (Jvm.Cond.initialized "java/lang/System") ∈ gT := gT_of (tb_1 _ (List.mem_of_getElem? (i := 16) rfl)) rfl
theorem dX3_copyFrom_15 : decode cX3_copyFrom 15 = .ok (.aload_n 1, 1) := by decide +kernel
theorem dX3_copyFrom_16 : decode cX3_copyFrom 16 = .ok (.getfield 15, 3) := by decide +kernel
theorem dX3_copyFrom_19 : decode cX3_copyFrom 19 = .ok (.iconst 0, 1) := by decide +kernel
theorem dX3_copyFrom_20 : decode cX3_copyFrom 20 = .ok (.aload_n 0, 1) := by decide +kernel
theorem dX3_copyFrom_21 : decode cX3_copyFrom 21 = .ok (.getfield 15, 3) := by decide +kernel
theorem dX3_copyFrom_24 : decode cX3_copyFrom 24 = .ok (.iconst 0, 1) := by decide +kernel
theorem dX3_copyFrom_25 : decode cX3_copyFrom 25 = .ok (.aload_n 0, 1) := by decide +kernel
theorem dX3_copyFrom_26 : decode cX3_copyFrom 26 = .ok (.getfield 15, 3) := by decide +kernel
theorem dX3_copyFrom_29 : decode cX3_copyFrom 29 = .ok (.arraylength, 1) := by decide +kernel
theorem dX3_copyFrom_30 : decode cX3_copyFrom 30 = .ok (.invokestatic 18, 3) := by decide +kernel
theorem dX3_copyFrom_33 : decode cX3_copyFrom 33 = .ok (.return_, 1) := by decide +kernel
set_option maxRecDepth 100000 in
set_option maxHeartbeats 4000000 in
theorem c_X3_copyFrom {l : Launch} {n0 : Nat} {D : va_G} {cA : Nat → ClassId} {M : gM}  (f_207_0 : M 207 0 = 209) (f_207_1 : M 207 1 = 210) (f_2_0 : M 2 0 = 4) (f_2_1 : M 2 1 = 5) : Met l yX3_copyFrom (gWsOf yX3_copyFrom cX3_copyFrom 2 (Option.none : Option Jvm.ClassFile.FieldType)) { frames := 4, cells := 0, slots := 0, locals := 120 } (gPc n0 D cA [gA n0 207, gA n0 2] M 358) (gQv n0 D cA 358 (fun M1 => ∀ a : Int, a ≠ 208 → a ≠ 209 → M1 a = M a)) 0 0 (fun q => n0 ≤ q) := by
  refine gMet_of [gA n0 207, gA n0 2] (by decide) (Nat.le_of_ble_eq_true rfl) ?_
  intro p e s m args below meth cd X hr hm
  have X : gCx p s m args meth cd n0 D cA "ParishUnion$Land" cX3_copyFrom 2 := X
  show G p l e ({ frames := 4, cells := 0, slots := 0, locals := 120 } : Room) s m args below meth cd n0 D cA 2 (MQ below (gQv n0 D cA 358 (fun M1 => ∀ a : Int, a ≠ 208 → a ≠ 209 → M1 a = M a)) args s 0 0 (fun q => n0 ≤ q)) 0 0 M 358 0 [(0, gA n0 207), (1, gA n0 2)] []
  refine g_aload_n (n := 1) X 1 dX3_copyFrom_0 rfl rfl rfl ?_
  refine gg_3_0 (n := 4) (z := 3) X (by omega) (by omega) lay_2 kw_1_41 dX3_copyFrom_1 rfl f_2_0 (by omega) ?_
  refine g_iconst (n := 5) X dX3_copyFrom_4 rfl ?_
  refine g_aload_n (n := 6) X 0 dX3_copyFrom_5 rfl rfl rfl ?_
  refine gg_3_0 (n := 9) (z := 208) X (by omega) (by omega) lay_207 kw_1_41 dX3_copyFrom_6 rfl f_207_0 (by omega) ?_
  refine g_iconst (n := 10) X dX3_copyFrom_9 rfl ?_
  refine g_bipush (n := 12) X dX3_copyFrom_10 (by decide +kernel) rfl ?_
  refine g_acopyI (n := 15) X kw_5_220 kw_3_209 kw_3_208 kw_1_16 (by omega) (by omega) lay_3 (by omega) (by omega) lay_208 (by omega) (by omega) (by omega) (by omega) (Nat.le_of_ble_eq_true rfl) (Nat.le_of_ble_eq_true rfl) dX3_copyFrom_12 rfl ?_
  refine G.nm (fun M1 e2 => ?_)
  refine g_aload_n (n := 16) X 1 dX3_copyFrom_15 rfl rfl rfl ?_
  refine gg_3_1 (n := 19) (z := 4) X (by omega) (by omega) lay_2 kw_1_43 dX3_copyFrom_16 rfl ((congrFun (congrFun e2 _) _).trans ((gcpy_ne (by omega)).trans f_2_1)) (by omega) ?_
  refine g_iconst (n := 20) X dX3_copyFrom_19 rfl ?_
  refine g_aload_n (n := 21) X 0 dX3_copyFrom_20 rfl rfl rfl ?_
  refine gg_3_1 (n := 24) (z := 209) X (by omega) (by omega) lay_207 kw_1_43 dX3_copyFrom_21 rfl ((congrFun (congrFun e2 _) _).trans ((gcpy_ne (by omega)).trans f_207_1)) (by omega) ?_
  refine g_iconst (n := 25) X dX3_copyFrom_24 rfl ?_
  refine g_aload_n (n := 26) X 0 dX3_copyFrom_25 rfl rfl rfl ?_
  refine gg_3_1 (n := 29) (z := 209) X (by omega) (by omega) lay_207 kw_1_43 dX3_copyFrom_26 rfl ((congrFun (congrFun e2 _) _).trans ((gcpy_ne (by omega)).trans f_207_1)) (by omega) ?_
  refine g_aleni (n := 30) (z := 36) X (by omega) (by omega) lay_209 (by decide +kernel) dX3_copyFrom_29 rfl ?_
  refine g_acopyI (n := 33) X kw_5_220 kw_3_209 kw_3_208 kw_1_16 (by omega) (by omega) lay_4 (by omega) (by omega) lay_209 (by omega) (by omega) (by omega) (by omega) (Nat.le_of_ble_eq_true rfl) (Nat.le_of_ble_eq_true rfl) dX3_copyFrom_30 rfl ?_
  refine G.nm (fun M3 e4 => ?_)
  exact g_return X hr dX3_copyFrom_33 (by exact (fun a h0 h1 => ((congrFun e4 a).trans ((gcpy_off a (by omega)).trans ((congrFun e2 a).trans ((gcpy_off a (by omega)).trans rfl))))))
theorem dX2_copyFrom_0 : decode cX2_copyFrom 0 = .ok (.aload_n 1, 1) := by decide +kernel
theorem dX2_copyFrom_1 : decode cX2_copyFrom 1 = .ok (.getfield 9, 3) := by decide +kernel
theorem dX2_copyFrom_4 : decode cX2_copyFrom 4 = .ok (.iconst 0, 1) := by decide +kernel
theorem dX2_copyFrom_5 : decode cX2_copyFrom 5 = .ok (.aload_n 0, 1) := by decide +kernel
theorem dX2_copyFrom_6 : decode cX2_copyFrom 6 = .ok (.getfield 9, 3) := by decide +kernel
theorem dX2_copyFrom_9 : decode cX2_copyFrom 9 = .ok (.iconst 0, 1) := by decide +kernel
theorem dX2_copyFrom_10 : decode cX2_copyFrom 10 = .ok (.iconst 4, 1) := by decide +kernel
theorem dX2_copyFrom_11 : decode cX2_copyFrom 11 = .ok (.invokestatic 37, 3) := by decide +kernel
theorem kw_5_169 : (Jvm.Cond.methodLink "ParishUnion$House" (37 : Nat) ({ cls := "java/lang/System", name := "arraycopy", desc := "(Ljava/lang/Object;ILjava/lang/Object;II)V" } : Jvm.MethodName)) ∈ gT := gT_of (tb_5 _ (List.mem_of_getElem? (i := 169) rfl)) rfl
theorem dX2_copyFrom_14 : decode cX2_copyFrom 14 = .ok (.aload_n 1, 1) := by decide +kernel
theorem dX2_copyFrom_15 : decode cX2_copyFrom 15 = .ok (.getfield 15, 3) := by decide +kernel
theorem dX2_copyFrom_18 : decode cX2_copyFrom 18 = .ok (.iconst 0, 1) := by decide +kernel
theorem dX2_copyFrom_19 : decode cX2_copyFrom 19 = .ok (.aload_n 0, 1) := by decide +kernel
theorem dX2_copyFrom_20 : decode cX2_copyFrom 20 = .ok (.getfield 15, 3) := by decide +kernel
theorem dX2_copyFrom_23 : decode cX2_copyFrom 23 = .ok (.iconst 0, 1) := by decide +kernel
theorem dX2_copyFrom_24 : decode cX2_copyFrom 24 = .ok (.aload_n 0, 1) := by decide +kernel
theorem dX2_copyFrom_25 : decode cX2_copyFrom 25 = .ok (.getfield 15, 3) := by decide +kernel
theorem dX2_copyFrom_28 : decode cX2_copyFrom 28 = .ok (.arraylength, 1) := by decide +kernel
theorem dX2_copyFrom_29 : decode cX2_copyFrom 29 = .ok (.invokestatic 37, 3) := by decide +kernel
theorem dX2_copyFrom_32 : decode cX2_copyFrom 32 = .ok (.aload_n 1, 1) := by decide +kernel
theorem dX2_copyFrom_33 : decode cX2_copyFrom 33 = .ok (.getfield 18, 3) := by decide +kernel
theorem dX2_copyFrom_36 : decode cX2_copyFrom 36 = .ok (.iconst 0, 1) := by decide +kernel
theorem dX2_copyFrom_37 : decode cX2_copyFrom 37 = .ok (.aload_n 0, 1) := by decide +kernel
theorem dX2_copyFrom_38 : decode cX2_copyFrom 38 = .ok (.getfield 18, 3) := by decide +kernel
theorem dX2_copyFrom_41 : decode cX2_copyFrom 41 = .ok (.iconst 0, 1) := by decide +kernel
theorem dX2_copyFrom_42 : decode cX2_copyFrom 42 = .ok (.iconst 3, 1) := by decide +kernel
theorem dX2_copyFrom_43 : decode cX2_copyFrom 43 = .ok (.invokestatic 37, 3) := by decide +kernel
theorem dX2_copyFrom_46 : decode cX2_copyFrom 46 = .ok (.aload_n 1, 1) := by decide +kernel
theorem dX2_copyFrom_47 : decode cX2_copyFrom 47 = .ok (.getfield 21, 3) := by decide +kernel
theorem dX2_copyFrom_50 : decode cX2_copyFrom 50 = .ok (.iconst 0, 1) := by decide +kernel
theorem dX2_copyFrom_51 : decode cX2_copyFrom 51 = .ok (.aload_n 0, 1) := by decide +kernel
theorem dX2_copyFrom_52 : decode cX2_copyFrom 52 = .ok (.getfield 21, 3) := by decide +kernel
theorem dX2_copyFrom_55 : decode cX2_copyFrom 55 = .ok (.iconst 0, 1) := by decide +kernel
theorem dX2_copyFrom_56 : decode cX2_copyFrom 56 = .ok (.aload_n 0, 1) := by decide +kernel
theorem dX2_copyFrom_57 : decode cX2_copyFrom 57 = .ok (.getfield 21, 3) := by decide +kernel
theorem dX2_copyFrom_60 : decode cX2_copyFrom 60 = .ok (.arraylength, 1) := by decide +kernel
theorem dX2_copyFrom_61 : decode cX2_copyFrom 61 = .ok (.invokestatic 37, 3) := by decide +kernel
theorem dX2_copyFrom_64 : decode cX2_copyFrom 64 = .ok (.aload_n 1, 1) := by decide +kernel
theorem dX2_copyFrom_65 : decode cX2_copyFrom 65 = .ok (.getfield 24, 3) := by decide +kernel
theorem dX2_copyFrom_68 : decode cX2_copyFrom 68 = .ok (.iconst 0, 1) := by decide +kernel
theorem dX2_copyFrom_69 : decode cX2_copyFrom 69 = .ok (.aload_n 0, 1) := by decide +kernel
theorem dX2_copyFrom_70 : decode cX2_copyFrom 70 = .ok (.getfield 24, 3) := by decide +kernel
theorem dX2_copyFrom_73 : decode cX2_copyFrom 73 = .ok (.iconst 0, 1) := by decide +kernel
theorem dX2_copyFrom_74 : decode cX2_copyFrom 74 = .ok (.bipush 6, 2) := by decide +kernel
theorem dX2_copyFrom_76 : decode cX2_copyFrom 76 = .ok (.invokestatic 37, 3) := by decide +kernel
theorem dX2_copyFrom_79 : decode cX2_copyFrom 79 = .ok (.aload_n 1, 1) := by decide +kernel
theorem dX2_copyFrom_80 : decode cX2_copyFrom 80 = .ok (.getfield 27, 3) := by decide +kernel
theorem dX2_copyFrom_83 : decode cX2_copyFrom 83 = .ok (.iconst 0, 1) := by decide +kernel
theorem dX2_copyFrom_84 : decode cX2_copyFrom 84 = .ok (.aload_n 0, 1) := by decide +kernel
theorem dX2_copyFrom_85 : decode cX2_copyFrom 85 = .ok (.getfield 27, 3) := by decide +kernel
theorem dX2_copyFrom_88 : decode cX2_copyFrom 88 = .ok (.iconst 0, 1) := by decide +kernel
theorem dX2_copyFrom_89 : decode cX2_copyFrom 89 = .ok (.bipush 6, 2) := by decide +kernel
theorem dX2_copyFrom_91 : decode cX2_copyFrom 91 = .ok (.invokestatic 37, 3) := by decide +kernel
theorem dX2_copyFrom_94 : decode cX2_copyFrom 94 = .ok (.aload_n 1, 1) := by decide +kernel
theorem dX2_copyFrom_95 : decode cX2_copyFrom 95 = .ok (.getfield 30, 3) := by decide +kernel
theorem dX2_copyFrom_98 : decode cX2_copyFrom 98 = .ok (.iconst 0, 1) := by decide +kernel
theorem dX2_copyFrom_99 : decode cX2_copyFrom 99 = .ok (.aload_n 0, 1) := by decide +kernel
theorem dX2_copyFrom_100 : decode cX2_copyFrom 100 = .ok (.getfield 30, 3) := by decide +kernel
theorem dX2_copyFrom_103 : decode cX2_copyFrom 103 = .ok (.iconst 0, 1) := by decide +kernel
theorem dX2_copyFrom_104 : decode cX2_copyFrom 104 = .ok (.bipush 6, 2) := by decide +kernel
theorem dX2_copyFrom_106 : decode cX2_copyFrom 106 = .ok (.invokestatic 37, 3) := by decide +kernel
theorem dX2_copyFrom_109 : decode cX2_copyFrom 109 = .ok (.aload_n 0, 1) := by decide +kernel
theorem dX2_copyFrom_110 : decode cX2_copyFrom 110 = .ok (.aload_n 1, 1) := by decide +kernel
theorem dX2_copyFrom_111 : decode cX2_copyFrom 111 = .ok (.getfield 43, 3) := by decide +kernel
theorem dX2_copyFrom_114 : decode cX2_copyFrom 114 = .ok (.putfield 43, 3) := by decide +kernel
theorem dX2_copyFrom_117 : decode cX2_copyFrom 117 = .ok (.aload_n 0, 1) := by decide +kernel
theorem dX2_copyFrom_118 : decode cX2_copyFrom 118 = .ok (.aload_n 1, 1) := by decide +kernel
theorem dX2_copyFrom_119 : decode cX2_copyFrom 119 = .ok (.getfield 46, 3) := by decide +kernel
theorem kw_1_109 : (Jvm.Cond.fieldLink "ParishUnion$House" (46 : Nat) "ParishUnion$House" "store" "I") ∈ gT := gT_of (tb_1 _ (List.mem_of_getElem? (i := 109) rfl)) rfl
theorem dX2_copyFrom_122 : decode cX2_copyFrom 122 = .ok (.putfield 46, 3) := by decide +kernel
theorem dX2_copyFrom_125 : decode cX2_copyFrom 125 = .ok (.aload_n 0, 1) := by decide +kernel
theorem dX2_copyFrom_126 : decode cX2_copyFrom 126 = .ok (.aload_n 1, 1) := by decide +kernel
theorem dX2_copyFrom_127 : decode cX2_copyFrom 127 = .ok (.getfield 33, 3) := by decide +kernel
theorem dX2_copyFrom_130 : decode cX2_copyFrom 130 = .ok (.putfield 33, 3) := by decide +kernel
theorem dX2_copyFrom_133 : decode cX2_copyFrom 133 = .ok (.return_, 1) := by decide +kernel
set_option maxRecDepth 100000 in
set_option maxHeartbeats 4000000 in
theorem c_X2_copyFrom {l : Launch} {n0 : Nat} {D : va_G} {cA : Nat → ClassId} {M : gM}  (f_220_0 : M 220 0 = 222) (f_220_1 : M 220 1 = 223) (f_220_2 : M 220 2 = 224) (f_220_3 : M 220 3 = 225) (f_220_4 : M 220 4 = 226) (f_220_5 : M 220 5 = 227) (f_220_6 : M 220 6 = 228) (f_15_0 : M 15 0 = 17) (f_15_1 : M 15 1 = 18) (f_15_2 : M 15 2 = 19) (f_15_3 : M 15 3 = 20) (f_15_4 : M 15 4 = 21) (f_15_5 : M 15 5 = 22) (f_15_6 : M 15 6 = 23) : Met l yX2_copyFrom (gWsOf yX2_copyFrom cX2_copyFrom 2 (Option.none : Option Jvm.ClassFile.FieldType)) { frames := 4, cells := 0, slots := 0, locals := 120 } (gPc n0 D cA [gA n0 220, gA n0 15] M 358) (gQv n0 D cA 358 (fun M1 => ∀ a : Int, a ≠ 220 → a ≠ 221 → a ≠ 222 → a ≠ 223 → a ≠ 224 → a ≠ 225 → a ≠ 226 → a ≠ 227 → M1 a = M a)) 0 0 (fun q => n0 ≤ q) := by
  refine gMet_of [gA n0 220, gA n0 15] (by decide) (Nat.le_of_ble_eq_true rfl) ?_
  intro p e s m args below meth cd X hr hm
  have X : gCx p s m args meth cd n0 D cA "ParishUnion$House" cX2_copyFrom 2 := X
  show G p l e ({ frames := 4, cells := 0, slots := 0, locals := 120 } : Room) s m args below meth cd n0 D cA 2 (MQ below (gQv n0 D cA 358 (fun M1 => ∀ a : Int, a ≠ 220 → a ≠ 221 → a ≠ 222 → a ≠ 223 → a ≠ 224 → a ≠ 225 → a ≠ 226 → a ≠ 227 → M1 a = M a)) args s 0 0 (fun q => n0 ≤ q)) 0 0 M 358 0 [(0, gA n0 220), (1, gA n0 15)] []
  refine g_aload_n (n := 1) X 1 dX2_copyFrom_0 rfl rfl rfl ?_
  refine gg_2_0 (n := 4) (z := 16) X (by omega) (by omega) lay_15 kw_1_95 dX2_copyFrom_1 rfl f_15_0 (by omega) ?_
  refine g_iconst (n := 5) X dX2_copyFrom_4 rfl ?_
  refine g_aload_n (n := 6) X 0 dX2_copyFrom_5 rfl rfl rfl ?_
  refine gg_2_0 (n := 9) (z := 221) X (by omega) (by omega) lay_220 kw_1_95 dX2_copyFrom_6 rfl f_220_0 (by omega) ?_
  refine g_iconst (n := 10) X dX2_copyFrom_9 rfl ?_
  refine g_iconst (n := 11) X dX2_copyFrom_10 rfl ?_
  refine g_acopyI (n := 14) X kw_5_169 kw_3_209 kw_3_208 kw_1_16 (by omega) (by omega) lay_16 (by omega) (by omega) lay_221 (by omega) (by omega) (by omega) (by omega) (Nat.le_of_ble_eq_true rfl) (Nat.le_of_ble_eq_true rfl) dX2_copyFrom_11 rfl ?_
  refine G.nm (fun M1 e2 => ?_)
  refine g_aload_n (n := 15) X 1 dX2_copyFrom_14 rfl rfl rfl ?_
  refine gg_2_1 (n := 18) (z := 17) X (by omega) (by omega) lay_15 kw_1_98 dX2_copyFrom_15 rfl ((congrFun (congrFun e2 _) _).trans ((gcpy_ne (by omega)).trans f_15_1)) (by omega) ?_
  refine g_iconst (n := 19) X dX2_copyFrom_18 rfl ?_
  refine g_aload_n (n := 20) X 0 dX2_copyFrom_19 rfl rfl rfl ?_
  refine gg_2_1 (n := 23) (z := 222) X (by omega) (by omega) lay_220 kw_1_98 dX2_copyFrom_20 rfl ((congrFun (congrFun e2 _) _).trans ((gcpy_ne (by omega)).trans f_220_1)) (by omega) ?_
  refine g_iconst (n := 24) X dX2_copyFrom_23 rfl ?_
  refine g_aload_n (n := 25) X 0 dX2_copyFrom_24 rfl rfl rfl ?_
  refine gg_2_1 (n := 28) (z := 222) X (by omega) (by omega) lay_220 kw_1_98 dX2_copyFrom_25 rfl ((congrFun (congrFun e2 _) _).trans ((gcpy_ne (by omega)).trans f_220_1)) (by omega) ?_
  refine g_aleni (n := 29) (z := 301) X (by omega) (by omega) lay_222 (by decide +kernel) dX2_copyFrom_28 rfl ?_
  refine g_acopyI (n := 32) X kw_5_169 kw_3_209 kw_3_208 kw_1_16 (by omega) (by omega) lay_17 (by omega) (by omega) lay_222 (by omega) (by omega) (by omega) (by omega) (Nat.le_of_ble_eq_true rfl) (Nat.le_of_ble_eq_true rfl) dX2_copyFrom_29 rfl ?_
  refine G.nm (fun M3 e4 => ?_)
  refine g_aload_n (n := 33) X 1 dX2_copyFrom_32 rfl rfl rfl ?_
  refine gg_2_2 (n := 36) (z := 18) X (by omega) (by omega) lay_15 kw_1_101 dX2_copyFrom_33 rfl ((congrFun (congrFun e4 _) _).trans ((gcpy_ne (by omega)).trans ((congrFun (congrFun e2 _) _).trans ((gcpy_ne (by omega)).trans f_15_2)))) (by omega) ?_
  refine g_iconst (n := 37) X dX2_copyFrom_36 rfl ?_
  refine g_aload_n (n := 38) X 0 dX2_copyFrom_37 rfl rfl rfl ?_
  refine gg_2_2 (n := 41) (z := 223) X (by omega) (by omega) lay_220 kw_1_101 dX2_copyFrom_38 rfl ((congrFun (congrFun e4 _) _).trans ((gcpy_ne (by omega)).trans ((congrFun (congrFun e2 _) _).trans ((gcpy_ne (by omega)).trans f_220_2)))) (by omega) ?_
  refine g_iconst (n := 42) X dX2_copyFrom_41 rfl ?_
  refine g_iconst (n := 43) X dX2_copyFrom_42 rfl ?_
  refine g_acopyI (n := 46) X kw_5_169 kw_3_209 kw_3_208 kw_1_16 (by omega) (by omega) lay_18 (by omega) (by omega) lay_223 (by omega) (by omega) (by omega) (by omega) (Nat.le_of_ble_eq_true rfl) (Nat.le_of_ble_eq_true rfl) dX2_copyFrom_43 rfl ?_
  refine G.nm (fun M5 e6 => ?_)
  refine g_aload_n (n := 47) X 1 dX2_copyFrom_46 rfl rfl rfl ?_
  refine gg_2_3 (n := 50) (z := 19) X (by omega) (by omega) lay_15 kw_1_103 dX2_copyFrom_47 rfl ((congrFun (congrFun e6 _) _).trans ((gcpy_ne (by omega)).trans ((congrFun (congrFun e4 _) _).trans ((gcpy_ne (by omega)).trans ((congrFun (congrFun e2 _) _).trans ((gcpy_ne (by omega)).trans f_15_3)))))) (by omega) ?_
  refine g_iconst (n := 51) X dX2_copyFrom_50 rfl ?_
  refine g_aload_n (n := 52) X 0 dX2_copyFrom_51 rfl rfl rfl ?_
  refine gg_2_3 (n := 55) (z := 224) X (by omega) (by omega) lay_220 kw_1_103 dX2_copyFrom_52 rfl ((congrFun (congrFun e6 _) _).trans ((gcpy_ne (by omega)).trans ((congrFun (congrFun e4 _) _).trans ((gcpy_ne (by omega)).trans ((congrFun (congrFun e2 _) _).trans ((gcpy_ne (by omega)).trans f_220_3)))))) (by omega) ?_
  refine g_iconst (n := 56) X dX2_copyFrom_55 rfl ?_
  refine g_aload_n (n := 57) X 0 dX2_copyFrom_56 rfl rfl rfl ?_
  refine gg_2_3 (n := 60) (z := 224) X (by omega) (by omega) lay_220 kw_1_103 dX2_copyFrom_57 rfl ((congrFun (congrFun e6 _) _).trans ((gcpy_ne (by omega)).trans ((congrFun (congrFun e4 _) _).trans ((gcpy_ne (by omega)).trans ((congrFun (congrFun e2 _) _).trans ((gcpy_ne (by omega)).trans f_220_3)))))) (by omega) ?_
  refine g_aleni (n := 61) (z := 30) X (by omega) (by omega) lay_224 (by decide +kernel) dX2_copyFrom_60 rfl ?_
  refine g_acopyI (n := 64) X kw_5_169 kw_3_209 kw_3_208 kw_1_16 (by omega) (by omega) lay_19 (by omega) (by omega) lay_224 (by omega) (by omega) (by omega) (by omega) (Nat.le_of_ble_eq_true rfl) (Nat.le_of_ble_eq_true rfl) dX2_copyFrom_61 rfl ?_
  refine G.nm (fun M7 e8 => ?_)
  refine g_aload_n (n := 65) X 1 dX2_copyFrom_64 rfl rfl rfl ?_
  refine gg_2_4 (n := 68) (z := 20) X (by omega) (by omega) lay_15 kw_1_104 dX2_copyFrom_65 rfl ((congrFun (congrFun e8 _) _).trans ((gcpy_ne (by omega)).trans ((congrFun (congrFun e6 _) _).trans ((gcpy_ne (by omega)).trans ((congrFun (congrFun e4 _) _).trans ((gcpy_ne (by omega)).trans ((congrFun (congrFun e2 _) _).trans ((gcpy_ne (by omega)).trans f_15_4)))))))) (by omega) ?_
  refine g_iconst (n := 69) X dX2_copyFrom_68 rfl ?_
  refine g_aload_n (n := 70) X 0 dX2_copyFrom_69 rfl rfl rfl ?_
  refine gg_2_4 (n := 73) (z := 225) X (by omega) (by omega) lay_220 kw_1_104 dX2_copyFrom_70 rfl ((congrFun (congrFun e8 _) _).trans ((gcpy_ne (by omega)).trans ((congrFun (congrFun e6 _) _).trans ((gcpy_ne (by omega)).trans ((congrFun (congrFun e4 _) _).trans ((gcpy_ne (by omega)).trans ((congrFun (congrFun e2 _) _).trans ((gcpy_ne (by omega)).trans f_220_4)))))))) (by omega) ?_
  refine g_iconst (n := 74) X dX2_copyFrom_73 rfl ?_
  refine g_bipush (n := 76) X dX2_copyFrom_74 (by decide +kernel) rfl ?_
  refine g_acopyI (n := 79) X kw_5_169 kw_3_209 kw_3_208 kw_1_16 (by omega) (by omega) lay_20 (by omega) (by omega) lay_225 (by omega) (by omega) (by omega) (by omega) (Nat.le_of_ble_eq_true rfl) (Nat.le_of_ble_eq_true rfl) dX2_copyFrom_76 rfl ?_
  refine G.nm (fun M9 e10 => ?_)
  refine g_aload_n (n := 80) X 1 dX2_copyFrom_79 rfl rfl rfl ?_
  refine gg_2_5 (n := 83) (z := 21) X (by omega) (by omega) lay_15 kw_1_105 dX2_copyFrom_80 rfl ((congrFun (congrFun e10 _) _).trans ((gcpy_ne (by omega)).trans ((congrFun (congrFun e8 _) _).trans ((gcpy_ne (by omega)).trans ((congrFun (congrFun e6 _) _).trans ((gcpy_ne (by omega)).trans ((congrFun (congrFun e4 _) _).trans ((gcpy_ne (by omega)).trans ((congrFun (congrFun e2 _) _).trans ((gcpy_ne (by omega)).trans f_15_5)))))))))) (by omega) ?_
  refine g_iconst (n := 84) X dX2_copyFrom_83 rfl ?_
  refine g_aload_n (n := 85) X 0 dX2_copyFrom_84 rfl rfl rfl ?_
  refine gg_2_5 (n := 88) (z := 226) X (by omega) (by omega) lay_220 kw_1_105 dX2_copyFrom_85 rfl ((congrFun (congrFun e10 _) _).trans ((gcpy_ne (by omega)).trans ((congrFun (congrFun e8 _) _).trans ((gcpy_ne (by omega)).trans ((congrFun (congrFun e6 _) _).trans ((gcpy_ne (by omega)).trans ((congrFun (congrFun e4 _) _).trans ((gcpy_ne (by omega)).trans ((congrFun (congrFun e2 _) _).trans ((gcpy_ne (by omega)).trans f_220_5)))))))))) (by omega) ?_
  refine g_iconst (n := 89) X dX2_copyFrom_88 rfl ?_
  refine g_bipush (n := 91) X dX2_copyFrom_89 (by decide +kernel) rfl ?_
  refine g_acopyI (n := 94) X kw_5_169 kw_3_209 kw_3_208 kw_1_16 (by omega) (by omega) lay_21 (by omega) (by omega) lay_226 (by omega) (by omega) (by omega) (by omega) (Nat.le_of_ble_eq_true rfl) (Nat.le_of_ble_eq_true rfl) dX2_copyFrom_91 rfl ?_
  refine G.nm (fun M11 e12 => ?_)
  refine g_aload_n (n := 95) X 1 dX2_copyFrom_94 rfl rfl rfl ?_
  refine gg_2_6 (n := 98) (z := 22) X (by omega) (by omega) lay_15 kw_1_106 dX2_copyFrom_95 rfl ((congrFun (congrFun e12 _) _).trans ((gcpy_ne (by omega)).trans ((congrFun (congrFun e10 _) _).trans ((gcpy_ne (by omega)).trans ((congrFun (congrFun e8 _) _).trans ((gcpy_ne (by omega)).trans ((congrFun (congrFun e6 _) _).trans ((gcpy_ne (by omega)).trans ((congrFun (congrFun e4 _) _).trans ((gcpy_ne (by omega)).trans ((congrFun (congrFun e2 _) _).trans ((gcpy_ne (by omega)).trans f_15_6)))))))))))) (by omega) ?_
  refine g_iconst (n := 99) X dX2_copyFrom_98 rfl ?_
  refine g_aload_n (n := 100) X 0 dX2_copyFrom_99 rfl rfl rfl ?_
  refine gg_2_6 (n := 103) (z := 227) X (by omega) (by omega) lay_220 kw_1_106 dX2_copyFrom_100 rfl ((congrFun (congrFun e12 _) _).trans ((gcpy_ne (by omega)).trans ((congrFun (congrFun e10 _) _).trans ((gcpy_ne (by omega)).trans ((congrFun (congrFun e8 _) _).trans ((gcpy_ne (by omega)).trans ((congrFun (congrFun e6 _) _).trans ((gcpy_ne (by omega)).trans ((congrFun (congrFun e4 _) _).trans ((gcpy_ne (by omega)).trans ((congrFun (congrFun e2 _) _).trans ((gcpy_ne (by omega)).trans f_220_6)))))))))))) (by omega) ?_
  refine g_iconst (n := 104) X dX2_copyFrom_103 rfl ?_
  refine g_bipush (n := 106) X dX2_copyFrom_104 (by decide +kernel) rfl ?_
  refine g_acopyI (n := 109) X kw_5_169 kw_3_209 kw_3_208 kw_1_16 (by omega) (by omega) lay_22 (by omega) (by omega) lay_227 (by omega) (by omega) (by omega) (by omega) (Nat.le_of_ble_eq_true rfl) (Nat.le_of_ble_eq_true rfl) dX2_copyFrom_106 rfl ?_
  refine G.nm (fun M13 e14 => ?_)
  refine g_aload_n (n := 110) X 0 dX2_copyFrom_109 rfl rfl rfl ?_
  refine g_aload_n (n := 111) X 1 dX2_copyFrom_110 rfl rfl rfl ?_
  refine gg_2_7 (n := 114) (z := M13 15 7) X (by omega) (by omega) lay_15 kw_1_107 dX2_copyFrom_111 rfl rfl ?_
  refine gp_2_7 (n := 117) X (by omega) (by omega) lay_220 kw_1_107 dX2_copyFrom_114 rfl ?_
  refine G.nm (fun M15 e16 => ?_)
  refine g_aload_n (n := 118) X 0 dX2_copyFrom_117 rfl rfl rfl ?_
  refine g_aload_n (n := 119) X 1 dX2_copyFrom_118 rfl rfl rfl ?_
  refine gg_2_8 (n := 122) (z := M15 15 8) X (by omega) (by omega) lay_15 kw_1_109 dX2_copyFrom_119 rfl rfl ?_
  refine gp_2_8 (n := 125) X (by omega) (by omega) lay_220 kw_1_109 dX2_copyFrom_122 rfl ?_
  refine G.nm (fun M17 e18 => ?_)
  refine g_aload_n (n := 126) X 0 dX2_copyFrom_125 rfl rfl rfl ?_
  refine g_aload_n (n := 127) X 1 dX2_copyFrom_126 rfl rfl rfl ?_
  refine gg_2_9 (n := 130) (z := M17 15 9) X (by omega) (by omega) lay_15 kw_1_112 dX2_copyFrom_127 rfl rfl ?_
  refine gp_2_9 (n := 133) X (by omega) (by omega) lay_220 kw_1_112 dX2_copyFrom_130 rfl ?_
  refine G.nm (fun M19 e20 => ?_)
  exact g_return X hr dX2_copyFrom_133 (by exact (fun a h0 h1 h2 h3 h4 h5 h6 h7 => ((congrFun e20 a).trans ((gset_off a (by omega)).trans ((congrFun e18 a).trans ((gset_off a (by omega)).trans ((congrFun e16 a).trans ((gset_off a (by omega)).trans ((congrFun e14 a).trans ((gcpy_off a (by omega)).trans ((congrFun e12 a).trans ((gcpy_off a (by omega)).trans ((congrFun e10 a).trans ((gcpy_off a (by omega)).trans ((congrFun e8 a).trans ((gcpy_off a (by omega)).trans ((congrFun e6 a).trans ((gcpy_off a (by omega)).trans ((congrFun e4 a).trans ((gcpy_off a (by omega)).trans ((congrFun e2 a).trans ((gcpy_off a (by omega)).trans rfl))))))))))))))))))))))
theorem dX4_copyFrom_0 : decode cX4_copyFrom 0 = .ok (.aload_n 1, 1) := by decide +kernel
theorem dX4_copyFrom_1 : decode cX4_copyFrom 1 = .ok (.getfield 9, 3) := by decide +kernel
theorem dX4_copyFrom_4 : decode cX4_copyFrom 4 = .ok (.iconst 0, 1) := by decide +kernel
theorem dX4_copyFrom_5 : decode cX4_copyFrom 5 = .ok (.aload_n 0, 1) := by decide +kernel
theorem dX4_copyFrom_6 : decode cX4_copyFrom 6 = .ok (.getfield 9, 3) := by decide +kernel
theorem dX4_copyFrom_9 : decode cX4_copyFrom 9 = .ok (.iconst 0, 1) := by decide +kernel
theorem dX4_copyFrom_10 : decode cX4_copyFrom 10 = .ok (.bipush 20, 2) := by decide +kernel
theorem dX4_copyFrom_12 : decode cX4_copyFrom 12 = .ok (.invokestatic 28, 3) := by decide +kernel
theorem kw_5_237 : (Jvm.Cond.methodLink "ParishUnion$Orders" (28 : Nat) ({ cls := "java/lang/System", name := "arraycopy", desc := "(Ljava/lang/Object;ILjava/lang/Object;II)V" } : Jvm.MethodName)) ∈ gT := gT_of (tb_5 _ (List.mem_of_getElem? (i := 237) rfl)) rfl
theorem dX4_copyFrom_15 : decode cX4_copyFrom 15 = .ok (.aload_n 1, 1) := by decide +kernel
theorem dX4_copyFrom_16 : decode cX4_copyFrom 16 = .ok (.getfield 15, 3) := by decide +kernel
theorem dX4_copyFrom_19 : decode cX4_copyFrom 19 = .ok (.iconst 0, 1) := by decide +kernel
theorem dX4_copyFrom_20 : decode cX4_copyFrom 20 = .ok (.aload_n 0, 1) := by decide +kernel
theorem dX4_copyFrom_21 : decode cX4_copyFrom 21 = .ok (.getfield 15, 3) := by decide +kernel
theorem dX4_copyFrom_24 : decode cX4_copyFrom 24 = .ok (.iconst 0, 1) := by decide +kernel
theorem dX4_copyFrom_25 : decode cX4_copyFrom 25 = .ok (.bipush 20, 2) := by decide +kernel
theorem dX4_copyFrom_27 : decode cX4_copyFrom 27 = .ok (.invokestatic 28, 3) := by decide +kernel
theorem dX4_copyFrom_30 : decode cX4_copyFrom 30 = .ok (.aload_n 1, 1) := by decide +kernel
theorem dX4_copyFrom_31 : decode cX4_copyFrom 31 = .ok (.getfield 18, 3) := by decide +kernel
theorem dX4_copyFrom_34 : decode cX4_copyFrom 34 = .ok (.iconst 0, 1) := by decide +kernel
theorem dX4_copyFrom_35 : decode cX4_copyFrom 35 = .ok (.aload_n 0, 1) := by decide +kernel
theorem dX4_copyFrom_36 : decode cX4_copyFrom 36 = .ok (.getfield 18, 3) := by decide +kernel
theorem dX4_copyFrom_39 : decode cX4_copyFrom 39 = .ok (.iconst 0, 1) := by decide +kernel
theorem dX4_copyFrom_40 : decode cX4_copyFrom 40 = .ok (.bipush 20, 2) := by decide +kernel
theorem dX4_copyFrom_42 : decode cX4_copyFrom 42 = .ok (.invokestatic 28, 3) := by decide +kernel
theorem dX4_copyFrom_45 : decode cX4_copyFrom 45 = .ok (.aload_n 1, 1) := by decide +kernel
theorem dX4_copyFrom_46 : decode cX4_copyFrom 46 = .ok (.getfield 21, 3) := by decide +kernel
theorem dX4_copyFrom_49 : decode cX4_copyFrom 49 = .ok (.iconst 0, 1) := by decide +kernel
theorem dX4_copyFrom_50 : decode cX4_copyFrom 50 = .ok (.aload_n 0, 1) := by decide +kernel
theorem dX4_copyFrom_51 : decode cX4_copyFrom 51 = .ok (.getfield 21, 3) := by decide +kernel
theorem dX4_copyFrom_54 : decode cX4_copyFrom 54 = .ok (.iconst 0, 1) := by decide +kernel
theorem dX4_copyFrom_55 : decode cX4_copyFrom 55 = .ok (.bipush 20, 2) := by decide +kernel
theorem dX4_copyFrom_57 : decode cX4_copyFrom 57 = .ok (.invokestatic 28, 3) := by decide +kernel
theorem dX4_copyFrom_60 : decode cX4_copyFrom 60 = .ok (.iconst 0, 1) := by decide +kernel
theorem dX4_copyFrom_61 : decode cX4_copyFrom 61 = .ok (.istore_n 2, 1) := by decide +kernel
theorem dX4_copyFrom_62 : decode cX4_copyFrom 62 = .ok (.iload_n 2, 1) := by decide +kernel
theorem dX4_copyFrom_63 : decode cX4_copyFrom 63 = .ok (.bipush 20, 2) := by decide +kernel
theorem dX4_copyFrom_65 : decode cX4_copyFrom 65 = .ok (.if_icmp .ge 21, 3) := by decide +kernel
theorem dX4_copyFrom_86 : decode cX4_copyFrom 86 = .ok (.aload_n 0, 1) := by decide +kernel
theorem dX4_copyFrom_87 : decode cX4_copyFrom 87 = .ok (.aload_n 1, 1) := by decide +kernel
theorem dX4_copyFrom_88 : decode cX4_copyFrom 88 = .ok (.getfield 34, 3) := by decide +kernel
theorem kw_1_72 : (Jvm.Cond.fieldLink "ParishUnion$Orders" (34 : Nat) "ParishUnion$Orders" "count" "I") ∈ gT := gT_of (tb_1 _ (List.mem_of_getElem? (i := 72) rfl)) rfl
theorem dX4_copyFrom_91 : decode cX4_copyFrom 91 = .ok (.putfield 34, 3) := by decide +kernel
theorem dX4_copyFrom_94 : decode cX4_copyFrom 94 = .ok (.return_, 1) := by decide +kernel
theorem dX4_copyFrom_68 : decode cX4_copyFrom 68 = .ok (.aload_n 0, 1) := by decide +kernel
theorem dX4_copyFrom_69 : decode cX4_copyFrom 69 = .ok (.getfield 24, 3) := by decide +kernel
theorem dX4_copyFrom_72 : decode cX4_copyFrom 72 = .ok (.iload_n 2, 1) := by decide +kernel
theorem dX4_copyFrom_73 : decode cX4_copyFrom 73 = .ok (.aload_n 1, 1) := by decide +kernel
theorem dX4_copyFrom_74 : decode cX4_copyFrom 74 = .ok (.getfield 24, 3) := by decide +kernel
theorem dX4_copyFrom_77 : decode cX4_copyFrom 77 = .ok (.iload_n 2, 1) := by decide +kernel
theorem dX4_copyFrom_78 : decode cX4_copyFrom 78 = .ok (.baload, 1) := by decide +kernel
theorem dX4_copyFrom_79 : decode cX4_copyFrom 79 = .ok (.bastore, 1) := by decide +kernel
theorem dX4_copyFrom_80 : decode cX4_copyFrom 80 = .ok (.iinc 2 1, 3) := by decide +kernel
theorem dX4_copyFrom_83 : decode cX4_copyFrom 83 = .ok (.goto (-21), 3) := by decide +kernel
set_option maxRecDepth 100000 in
set_option maxHeartbeats 4000000 in
theorem c_X4_copyFrom {l : Launch} {n0 : Nat} {D : va_G} {cA : Nat → ClassId} {M : gM}  (f_214_0 : M 214 0 = 216) (f_214_1 : M 214 1 = 217) (f_214_2 : M 214 2 = 218) (f_214_3 : M 214 3 = 219) (f_214_4 : M 214 4 = 220) (f_9_0 : M 9 0 = 11) (f_9_1 : M 9 1 = 12) (f_9_2 : M 9 2 = 13) (f_9_3 : M 9 3 = 14) (f_9_4 : M 9 4 = 15) (car0 : ∀ i : Int, 0 ≤ i → i < 20 → M 14 i = 0) : Met l yX4_copyFrom (gWsOf yX4_copyFrom cX4_copyFrom 3 (Option.none : Option Jvm.ClassFile.FieldType)) { frames := 4, cells := 0, slots := 0, locals := 120 } (gPc n0 D cA [gA n0 214, gA n0 9] M 358) (gQv n0 D cA 358 (fun M1 => ∀ a : Int, a ≠ 214 → a ≠ 215 → a ≠ 216 → a ≠ 217 → a ≠ 218 → a ≠ 219 → M1 a = M a)) 0 0 (fun q => n0 ≤ q) := by
  refine gMet_of [gA n0 214, gA n0 9] (by decide) (Nat.le_of_ble_eq_true rfl) ?_
  intro p e s m args below meth cd X hr hm
  have X : gCx p s m args meth cd n0 D cA "ParishUnion$Orders" cX4_copyFrom 3 := X
  show G p l e ({ frames := 4, cells := 0, slots := 0, locals := 120 } : Room) s m args below meth cd n0 D cA 3 (MQ below (gQv n0 D cA 358 (fun M1 => ∀ a : Int, a ≠ 214 → a ≠ 215 → a ≠ 216 → a ≠ 217 → a ≠ 218 → a ≠ 219 → M1 a = M a)) args s 0 0 (fun q => n0 ≤ q)) 0 0 M 358 0 [(0, gA n0 214), (1, gA n0 9)] []
  refine g_aload_n (n := 1) X 1 dX4_copyFrom_0 rfl rfl rfl ?_
  refine gg_4_0 (n := 4) (z := 10) X (by omega) (by omega) lay_9 kw_1_62 dX4_copyFrom_1 rfl f_9_0 (by omega) ?_
  refine g_iconst (n := 5) X dX4_copyFrom_4 rfl ?_
  refine g_aload_n (n := 6) X 0 dX4_copyFrom_5 rfl rfl rfl ?_
  refine gg_4_0 (n := 9) (z := 215) X (by omega) (by omega) lay_214 kw_1_62 dX4_copyFrom_6 rfl f_214_0 (by omega) ?_
  refine g_iconst (n := 10) X dX4_copyFrom_9 rfl ?_
  refine g_bipush (n := 12) X dX4_copyFrom_10 (by decide +kernel) rfl ?_
  refine g_acopyI (n := 15) X kw_5_237 kw_3_209 kw_3_208 kw_1_16 (by omega) (by omega) lay_10 (by omega) (by omega) lay_215 (by omega) (by omega) (by omega) (by omega) (Nat.le_of_ble_eq_true rfl) (Nat.le_of_ble_eq_true rfl) dX4_copyFrom_12 rfl ?_
  refine G.nm (fun M1 e2 => ?_)
  refine g_aload_n (n := 16) X 1 dX4_copyFrom_15 rfl rfl rfl ?_
  refine gg_4_1 (n := 19) (z := 11) X (by omega) (by omega) lay_9 kw_1_64 dX4_copyFrom_16 rfl ((congrFun (congrFun e2 _) _).trans ((gcpy_ne (by omega)).trans f_9_1)) (by omega) ?_
  refine g_iconst (n := 20) X dX4_copyFrom_19 rfl ?_
  refine g_aload_n (n := 21) X 0 dX4_copyFrom_20 rfl rfl rfl ?_
  refine gg_4_1 (n := 24) (z := 216) X (by omega) (by omega) lay_214 kw_1_64 dX4_copyFrom_21 rfl ((congrFun (congrFun e2 _) _).trans ((gcpy_ne (by omega)).trans f_214_1)) (by omega) ?_
  refine g_iconst (n := 25) X dX4_copyFrom_24 rfl ?_
  refine g_bipush (n := 27) X dX4_copyFrom_25 (by decide +kernel) rfl ?_
  refine g_acopyI (n := 30) X kw_5_237 kw_3_209 kw_3_208 kw_1_16 (by omega) (by omega) lay_11 (by omega) (by omega) lay_216 (by omega) (by omega) (by omega) (by omega) (Nat.le_of_ble_eq_true rfl) (Nat.le_of_ble_eq_true rfl) dX4_copyFrom_27 rfl ?_
  refine G.nm (fun M3 e4 => ?_)
  refine g_aload_n (n := 31) X 1 dX4_copyFrom_30 rfl rfl rfl ?_
  refine gg_4_2 (n := 34) (z := 12) X (by omega) (by omega) lay_9 kw_1_66 dX4_copyFrom_31 rfl ((congrFun (congrFun e4 _) _).trans ((gcpy_ne (by omega)).trans ((congrFun (congrFun e2 _) _).trans ((gcpy_ne (by omega)).trans f_9_2)))) (by omega) ?_
  refine g_iconst (n := 35) X dX4_copyFrom_34 rfl ?_
  refine g_aload_n (n := 36) X 0 dX4_copyFrom_35 rfl rfl rfl ?_
  refine gg_4_2 (n := 39) (z := 217) X (by omega) (by omega) lay_214 kw_1_66 dX4_copyFrom_36 rfl ((congrFun (congrFun e4 _) _).trans ((gcpy_ne (by omega)).trans ((congrFun (congrFun e2 _) _).trans ((gcpy_ne (by omega)).trans f_214_2)))) (by omega) ?_
  refine g_iconst (n := 40) X dX4_copyFrom_39 rfl ?_
  refine g_bipush (n := 42) X dX4_copyFrom_40 (by decide +kernel) rfl ?_
  refine g_acopyI (n := 45) X kw_5_237 kw_3_209 kw_3_208 kw_1_16 (by omega) (by omega) lay_12 (by omega) (by omega) lay_217 (by omega) (by omega) (by omega) (by omega) (Nat.le_of_ble_eq_true rfl) (Nat.le_of_ble_eq_true rfl) dX4_copyFrom_42 rfl ?_
  refine G.nm (fun M5 e6 => ?_)
  refine g_aload_n (n := 46) X 1 dX4_copyFrom_45 rfl rfl rfl ?_
  refine gg_4_3 (n := 49) (z := 13) X (by omega) (by omega) lay_9 kw_1_68 dX4_copyFrom_46 rfl ((congrFun (congrFun e6 _) _).trans ((gcpy_ne (by omega)).trans ((congrFun (congrFun e4 _) _).trans ((gcpy_ne (by omega)).trans ((congrFun (congrFun e2 _) _).trans ((gcpy_ne (by omega)).trans f_9_3)))))) (by omega) ?_
  refine g_iconst (n := 50) X dX4_copyFrom_49 rfl ?_
  refine g_aload_n (n := 51) X 0 dX4_copyFrom_50 rfl rfl rfl ?_
  refine gg_4_3 (n := 54) (z := 218) X (by omega) (by omega) lay_214 kw_1_68 dX4_copyFrom_51 rfl ((congrFun (congrFun e6 _) _).trans ((gcpy_ne (by omega)).trans ((congrFun (congrFun e4 _) _).trans ((gcpy_ne (by omega)).trans ((congrFun (congrFun e2 _) _).trans ((gcpy_ne (by omega)).trans f_214_3)))))) (by omega) ?_
  refine g_iconst (n := 55) X dX4_copyFrom_54 rfl ?_
  refine g_bipush (n := 57) X dX4_copyFrom_55 (by decide +kernel) rfl ?_
  refine g_acopyI (n := 60) X kw_5_237 kw_3_209 kw_3_208 kw_1_16 (by omega) (by omega) lay_13 (by omega) (by omega) lay_218 (by omega) (by omega) (by omega) (by omega) (Nat.le_of_ble_eq_true rfl) (Nat.le_of_ble_eq_true rfl) dX4_copyFrom_57 rfl ?_
  refine G.nm (fun M7 e8 => ?_)
  refine g_iconst (n := 61) X dX4_copyFrom_60 rfl ?_
  refine g_istore_n (n := 62) (L' := [(2, gJ 0), (0, gA n0 214), (1, gA n0 9)]) X dX4_copyFrom_61 rfl (by decide) rfl rfl ?_
  have loop9 : ∀ (N11 : Nat) (x : Int) (M13 : gM), (∀ a : Int, a ≠ 219 → M13 a = M7 a) → (0 ≤ x ∧ x ≤ 20) → (20 - x).toNat < N11 → G p l e ({ frames := 4, cells := 0, slots := 0, locals := 120 } : Room) s m args below meth cd n0 D cA 3 (MQ below (gQv n0 D cA 358 (fun M1 => ∀ a : Int, a ≠ 214 → a ≠ 215 → a ≠ 216 → a ≠ 217 → a ≠ 218 → a ≠ 219 → M1 a = M a)) args s 0 0 (fun q => n0 ≤ q)) 0 0 M13 358 62 [(0, gA n0 214), (1, gA n0 9), (2, gJ x)] [] := by
    intro N11; induction N11 with
    | zero => intro x M13 F14 ix hm12; exfalso; omega
    | succ N11 ih10 =>
      intro x M13 F14 ix hm12
      refine g_iload_n (n := 63) X 2 dX4_copyFrom_62 rfl rfl rfl ?_
      refine g_bipush (n := 65) X dX4_copyFrom_63 (by decide +kernel) rfl ?_
      refine g_icmp_ge (n := 68) (tgt := 86) X dX4_copyFrom_65 (by decide) (by omega) (by omega) rfl (fun c15 => ?_) (fun c15 => ?_)
      · refine g_aload_n (n := 87) X 0 dX4_copyFrom_86 rfl rfl rfl ?_
        refine g_aload_n (n := 88) X 1 dX4_copyFrom_87 rfl rfl rfl ?_
        refine gg_4_5 (n := 91) (z := M13 9 5) X (by omega) (by omega) lay_9 kw_1_72 dX4_copyFrom_88 rfl rfl ?_
        refine gp_4_5 (n := 94) X (by omega) (by omega) lay_214 kw_1_72 dX4_copyFrom_91 rfl ?_
        refine G.nm (fun M16 e17 => ?_)
        exact g_return X hr dX4_copyFrom_94 (by exact (fun a h0 h1 h2 h3 h4 h5 => ((congrFun e17 a).trans ((gset_off a (by omega)).trans ((F14 a (by omega)).trans ((congrFun e8 a).trans ((gcpy_off a (by omega)).trans ((congrFun e6 a).trans ((gcpy_off a (by omega)).trans ((congrFun e4 a).trans ((gcpy_off a (by omega)).trans ((congrFun e2 a).trans ((gcpy_off a (by omega)).trans rfl)))))))))))))
      · refine g_aload_n (n := 69) X 0 dX4_copyFrom_68 rfl rfl rfl ?_
        refine gg_4_4 (n := 72) (z := 219) X (by omega) (by omega) lay_214 kw_1_70 dX4_copyFrom_69 rfl ((congrFun (F14 214 (by omega)) _).trans ((congrFun (congrFun e8 _) _).trans ((gcpy_ne (by omega)).trans ((congrFun (congrFun e6 _) _).trans ((gcpy_ne (by omega)).trans ((congrFun (congrFun e4 _) _).trans ((gcpy_ne (by omega)).trans ((congrFun (congrFun e2 _) _).trans ((gcpy_ne (by omega)).trans f_214_4))))))))) (by omega) ?_
        refine g_iload_n (n := 73) X 2 dX4_copyFrom_72 rfl rfl rfl ?_
        refine g_aload_n (n := 74) X 1 dX4_copyFrom_73 rfl rfl rfl ?_
        refine gg_4_4 (n := 77) (z := 14) X (by omega) (by omega) lay_9 kw_1_70 dX4_copyFrom_74 rfl ((congrFun (F14 9 (by omega)) _).trans ((congrFun (congrFun e8 _) _).trans ((gcpy_ne (by omega)).trans ((congrFun (congrFun e6 _) _).trans ((gcpy_ne (by omega)).trans ((congrFun (congrFun e4 _) _).trans ((gcpy_ne (by omega)).trans ((congrFun (congrFun e2 _) _).trans ((gcpy_ne (by omega)).trans f_9_4))))))))) (by omega) ?_
        refine g_iload_n (n := 78) X 2 dX4_copyFrom_77 rfl rfl rfl ?_
        refine g_zald (n := 79) X (by omega) (by omega) lay_14 (by omega) (by omega) (by omega) dX4_copyFrom_78 rfl ?_
        rw [show M13 14 x = 0 from ((congrFun ((F14 14 (by omega)).trans ((congrFun e8 _).trans ((gcpy_off _ (by omega)).trans ((congrFun e6 _).trans ((gcpy_off _ (by omega)).trans ((congrFun e4 _).trans ((gcpy_off _ (by omega)).trans ((congrFun e2 _).trans ((gcpy_off _ (by omega)).trans rfl))))))))) _).trans (car0 _ (by omega) (by omega)))]
        refine g_zast (n := 80) (z := 0) X (by omega) (by omega) lay_219 (by omega) (by omega) (by omega) (by decide +kernel) dX4_copyFrom_79 rfl ?_
        refine G.nm (fun M18 e19 => ?_)
        refine g_iinc (n := 83) (w := x + 1) (L' := [(2, gJ (x + 1)), (0, gA n0 214), (1, gA n0 9)]) X 2 dX4_copyFrom_80 rfl rfl (by decide) rfl rfl ?_
        refine g_goto (tgt := 62) X dX4_copyFrom_83 (by decide) ?_
        refine G.sub (L' := [(0, gA n0 214), (1, gA n0 9), (2, gJ (x + 1))]) [1, 2, 0] rfl ?_
        exact ih10 (x + 1) M18 (fun a h0 => ((congrFun e19 a).trans ((gset_off a (by omega)).trans ((F14 a (by omega)).trans rfl)))) (by omega) (by omega)
  refine G.sub (L' := [(0, gA n0 214), (1, gA n0 9), (2, gJ 0)]) [1, 2, 0] rfl ?_
  exact loop9 _ 0 M7 (fun a _ => rfl) (by omega) (Nat.lt_succ_self _)
theorem dX5_copyFrom_0 : decode cX5_copyFrom 0 = .ok (.aload_n 1, 1) := by decide +kernel
theorem dX5_copyFrom_1 : decode cX5_copyFrom 1 = .ok (.getfield 9, 3) := by decide +kernel
theorem dX5_copyFrom_4 : decode cX5_copyFrom 4 = .ok (.iconst 0, 1) := by decide +kernel
theorem dX5_copyFrom_5 : decode cX5_copyFrom 5 = .ok (.aload_n 0, 1) := by decide +kernel
theorem dX5_copyFrom_6 : decode cX5_copyFrom 6 = .ok (.getfield 9, 3) := by decide +kernel
theorem dX5_copyFrom_9 : decode cX5_copyFrom 9 = .ok (.iconst 0, 1) := by decide +kernel
theorem dX5_copyFrom_10 : decode cX5_copyFrom 10 = .ok (.iload_n 2, 1) := by decide +kernel
theorem dX5_copyFrom_11 : decode cX5_copyFrom 11 = .ok (.bipush 7, 2) := by decide +kernel
theorem dX5_copyFrom_13 : decode cX5_copyFrom 13 = .ok (.imul, 1) := by decide +kernel
theorem dX5_copyFrom_14 : decode cX5_copyFrom 14 = .ok (.invokestatic 19, 3) := by decide +kernel
theorem kw_6_3 : (Jvm.Cond.methodLink "ParishUnion$Past" (19 : Nat) ({ cls := "java/lang/System", name := "arraycopy", desc := "(Ljava/lang/Object;ILjava/lang/Object;II)V" } : Jvm.MethodName)) ∈ gT := gT_of (tb_6 _ (List.mem_of_getElem? (i := 3) rfl)) rfl
theorem dX5_copyFrom_17 : decode cX5_copyFrom 17 = .ok (.aload_n 1, 1) := by decide +kernel
theorem dX5_copyFrom_18 : decode cX5_copyFrom 18 = .ok (.getfield 15, 3) := by decide +kernel
theorem dX5_copyFrom_21 : decode cX5_copyFrom 21 = .ok (.iconst 0, 1) := by decide +kernel
theorem dX5_copyFrom_22 : decode cX5_copyFrom 22 = .ok (.aload_n 0, 1) := by decide +kernel
theorem dX5_copyFrom_23 : decode cX5_copyFrom 23 = .ok (.getfield 15, 3) := by decide +kernel
theorem dX5_copyFrom_26 : decode cX5_copyFrom 26 = .ok (.iconst 0, 1) := by decide +kernel
theorem dX5_copyFrom_27 : decode cX5_copyFrom 27 = .ok (.iload_n 2, 1) := by decide +kernel
theorem dX5_copyFrom_28 : decode cX5_copyFrom 28 = .ok (.bipush 16, 2) := by decide +kernel
theorem dX5_copyFrom_30 : decode cX5_copyFrom 30 = .ok (.imul, 1) := by decide +kernel
theorem dX5_copyFrom_31 : decode cX5_copyFrom 31 = .ok (.invokestatic 19, 3) := by decide +kernel
theorem dX5_copyFrom_34 : decode cX5_copyFrom 34 = .ok (.return_, 1) := by decide +kernel
set_option maxRecDepth 100000 in
set_option maxHeartbeats 4000000 in
theorem c_X5_copyFrom {l : Launch} {n0 : Nat} {D : va_G} {cA : Nat → ClassId} {M : gM} (a : Int) (r_a : -2147483648 ≤ a ∧ a ≤ 2147483647) (f_228_0 : M 228 0 = 230) (f_228_1 : M 228 1 = 231) (f_23_0 : M 23 0 = 25) (f_23_1 : M 23 1 = 26) (hab : a = 0) : Met l yX5_copyFrom (gWsOf yX5_copyFrom cX5_copyFrom 3 (Option.none : Option Jvm.ClassFile.FieldType)) { frames := 4, cells := 0, slots := 0, locals := 120 } (gPc n0 D cA [gA n0 228, gA n0 23, gJ a] M 358) (gQv n0 D cA 358 (fun M1 => ∀ a : Int, a ≠ 229 → a ≠ 230 → M1 a = M a)) 0 0 (fun q => n0 ≤ q) := by
  refine gMet_of [gA n0 228, gA n0 23, gJ a] (by decide) (Nat.le_of_ble_eq_true rfl) ?_
  intro p e s m args below meth cd X hr hm
  have X : gCx p s m args meth cd n0 D cA "ParishUnion$Past" cX5_copyFrom 3 := X
  show G p l e ({ frames := 4, cells := 0, slots := 0, locals := 120 } : Room) s m args below meth cd n0 D cA 3 (MQ below (gQv n0 D cA 358 (fun M1 => ∀ a : Int, a ≠ 229 → a ≠ 230 → M1 a = M a)) args s 0 0 (fun q => n0 ≤ q)) 0 0 M 358 0 [(0, gA n0 228), (1, gA n0 23), (2, gJ a)] []
  refine g_aload_n (n := 1) X 1 dX5_copyFrom_0 rfl rfl rfl ?_
  refine gg_5_0 (n := 4) (z := 24) X (by omega) (by omega) lay_23 kw_1_142 dX5_copyFrom_1 rfl f_23_0 (by omega) ?_
  refine g_iconst (n := 5) X dX5_copyFrom_4 rfl ?_
  refine g_aload_n (n := 6) X 0 dX5_copyFrom_5 rfl rfl rfl ?_
  refine gg_5_0 (n := 9) (z := 229) X (by omega) (by omega) lay_228 kw_1_142 dX5_copyFrom_6 rfl f_228_0 (by omega) ?_
  refine g_iconst (n := 10) X dX5_copyFrom_9 rfl ?_
  refine g_iload_n (n := 11) X 2 dX5_copyFrom_10 rfl rfl rfl ?_
  refine g_bipush (n := 13) X dX5_copyFrom_11 (by decide +kernel) rfl ?_
  refine g_imul (n := 14) (z := a * 7) X dX5_copyFrom_13 rfl rfl ?_
  refine g_acopyI (n := 17) X kw_6_3 kw_3_209 kw_3_208 kw_1_16 (by omega) (by omega) lay_24 (by omega) (by omega) lay_229 (by omega) (by omega) (by omega) (by omega) (Nat.le_of_ble_eq_true rfl) (Nat.le_of_ble_eq_true rfl) dX5_copyFrom_14 rfl ?_
  refine G.nm (fun M1 e2 => ?_)
  refine g_aload_n (n := 18) X 1 dX5_copyFrom_17 rfl rfl rfl ?_
  refine gg_5_1 (n := 21) (z := 25) X (by omega) (by omega) lay_23 kw_1_143 dX5_copyFrom_18 rfl ((congrFun (congrFun e2 _) _).trans ((gcpy_ne (by omega)).trans f_23_1)) (by omega) ?_
  refine g_iconst (n := 22) X dX5_copyFrom_21 rfl ?_
  refine g_aload_n (n := 23) X 0 dX5_copyFrom_22 rfl rfl rfl ?_
  refine gg_5_1 (n := 26) (z := 230) X (by omega) (by omega) lay_228 kw_1_143 dX5_copyFrom_23 rfl ((congrFun (congrFun e2 _) _).trans ((gcpy_ne (by omega)).trans f_228_1)) (by omega) ?_
  refine g_iconst (n := 27) X dX5_copyFrom_26 rfl ?_
  refine g_iload_n (n := 28) X 2 dX5_copyFrom_27 rfl rfl rfl ?_
  refine g_bipush (n := 30) X dX5_copyFrom_28 (by decide +kernel) rfl ?_
  refine g_imul (n := 31) (z := a * 16) X dX5_copyFrom_30 rfl rfl ?_
  refine g_acopyL (n := 34) X kw_6_3 kw_3_209 kw_3_208 kw_1_16 (by omega) (by omega) lay_25 (by omega) (by omega) lay_230 (by omega) (by omega) (by omega) (by omega) (Nat.le_of_ble_eq_true rfl) (Nat.le_of_ble_eq_true rfl) dX5_copyFrom_31 rfl ?_
  refine G.nm (fun M3 e4 => ?_)
  exact g_return X hr dX5_copyFrom_34 (by exact (fun a h0 h1 => ((congrFun e4 a).trans ((gcpy_off a (by omega)).trans ((congrFun e2 a).trans ((gcpy_off a (by omega)).trans rfl))))))
theorem dX10_copyFrom_0 : decode cX10_copyFrom 0 = .ok (.aload_n 1, 1) := by decide +kernel
theorem dX10_copyFrom_1 : decode cX10_copyFrom 1 = .ok (.getfield 9, 3) := by decide +kernel
theorem dX10_copyFrom_4 : decode cX10_copyFrom 4 = .ok (.iconst 0, 1) := by decide +kernel
theorem dX10_copyFrom_5 : decode cX10_copyFrom 5 = .ok (.aload_n 0, 1) := by decide +kernel
theorem dX10_copyFrom_6 : decode cX10_copyFrom 6 = .ok (.getfield 9, 3) := by decide +kernel
theorem dX10_copyFrom_9 : decode cX10_copyFrom 9 = .ok (.iconst 0, 1) := by decide +kernel
theorem dX10_copyFrom_10 : decode cX10_copyFrom 10 = .ok (.bipush 40, 2) := by decide +kernel
theorem dX10_copyFrom_12 : decode cX10_copyFrom 12 = .ok (.invokestatic 21, 3) := by decide +kernel
theorem kw_6_8 : (Jvm.Cond.methodLink "ParishUnion$Vagrants" (21 : Nat) ({ cls := "java/lang/System", name := "arraycopy", desc := "(Ljava/lang/Object;ILjava/lang/Object;II)V" } : Jvm.MethodName)) ∈ gT := gT_of (tb_6 _ (List.mem_of_getElem? (i := 8) rfl)) rfl
theorem dX10_copyFrom_15 : decode cX10_copyFrom 15 = .ok (.aload_n 1, 1) := by decide +kernel
theorem dX10_copyFrom_16 : decode cX10_copyFrom 16 = .ok (.getfield 15, 3) := by decide +kernel
theorem dX10_copyFrom_19 : decode cX10_copyFrom 19 = .ok (.iconst 0, 1) := by decide +kernel
theorem dX10_copyFrom_20 : decode cX10_copyFrom 20 = .ok (.aload_n 0, 1) := by decide +kernel
theorem dX10_copyFrom_21 : decode cX10_copyFrom 21 = .ok (.getfield 15, 3) := by decide +kernel
theorem dX10_copyFrom_24 : decode cX10_copyFrom 24 = .ok (.iconst 0, 1) := by decide +kernel
theorem dX10_copyFrom_25 : decode cX10_copyFrom 25 = .ok (.bipush 40, 2) := by decide +kernel
theorem dX10_copyFrom_27 : decode cX10_copyFrom 27 = .ok (.invokestatic 21, 3) := by decide +kernel
theorem dX10_copyFrom_30 : decode cX10_copyFrom 30 = .ok (.aload_n 1, 1) := by decide +kernel
theorem dX10_copyFrom_31 : decode cX10_copyFrom 31 = .ok (.getfield 18, 3) := by decide +kernel
theorem dX10_copyFrom_34 : decode cX10_copyFrom 34 = .ok (.iconst 0, 1) := by decide +kernel
theorem dX10_copyFrom_35 : decode cX10_copyFrom 35 = .ok (.aload_n 0, 1) := by decide +kernel
theorem dX10_copyFrom_36 : decode cX10_copyFrom 36 = .ok (.getfield 18, 3) := by decide +kernel
theorem dX10_copyFrom_39 : decode cX10_copyFrom 39 = .ok (.iconst 0, 1) := by decide +kernel
theorem dX10_copyFrom_40 : decode cX10_copyFrom 40 = .ok (.bipush 40, 2) := by decide +kernel
theorem dX10_copyFrom_42 : decode cX10_copyFrom 42 = .ok (.invokestatic 21, 3) := by decide +kernel
theorem dX10_copyFrom_45 : decode cX10_copyFrom 45 = .ok (.aload_n 0, 1) := by decide +kernel
theorem dX10_copyFrom_46 : decode cX10_copyFrom 46 = .ok (.aload_n 1, 1) := by decide +kernel
theorem dX10_copyFrom_47 : decode cX10_copyFrom 47 = .ok (.getfield 27, 3) := by decide +kernel
theorem dX10_copyFrom_50 : decode cX10_copyFrom 50 = .ok (.putfield 27, 3) := by decide +kernel
theorem dX10_copyFrom_53 : decode cX10_copyFrom 53 = .ok (.return_, 1) := by decide +kernel
set_option maxRecDepth 100000 in
set_option maxHeartbeats 4000000 in
theorem c_X10_copyFrom {l : Launch} {n0 : Nat} {D : va_G} {cA : Nat → ClassId} {M : gM}  (f_231_0 : M 231 0 = 233) (f_231_1 : M 231 1 = 234) (f_231_2 : M 231 2 = 235) (f_26_0 : M 26 0 = 28) (f_26_1 : M 26 1 = 29) (f_26_2 : M 26 2 = 30) : Met l yX10_copyFrom (gWsOf yX10_copyFrom cX10_copyFrom 2 (Option.none : Option Jvm.ClassFile.FieldType)) { frames := 4, cells := 0, slots := 0, locals := 120 } (gPc n0 D cA [gA n0 231, gA n0 26] M 358) (gQv n0 D cA 358 (fun M1 => ∀ a : Int, a ≠ 231 → a ≠ 232 → a ≠ 233 → a ≠ 234 → M1 a = M a)) 0 0 (fun q => n0 ≤ q) := by
  refine gMet_of [gA n0 231, gA n0 26] (by decide) (Nat.le_of_ble_eq_true rfl) ?_
  intro p e s m args below meth cd X hr hm
  have X : gCx p s m args meth cd n0 D cA "ParishUnion$Vagrants" cX10_copyFrom 2 := X
  show G p l e ({ frames := 4, cells := 0, slots := 0, locals := 120 } : Room) s m args below meth cd n0 D cA 2 (MQ below (gQv n0 D cA 358 (fun M1 => ∀ a : Int, a ≠ 231 → a ≠ 232 → a ≠ 233 → a ≠ 234 → M1 a = M a)) args s 0 0 (fun q => n0 ≤ q)) 0 0 M 358 0 [(0, gA n0 231), (1, gA n0 26)] []
  refine g_aload_n (n := 1) X 1 dX10_copyFrom_0 rfl rfl rfl ?_
  refine gg_10_0 (n := 4) (z := 27) X (by omega) (by omega) lay_26 kw_1_156 dX10_copyFrom_1 rfl f_26_0 (by omega) ?_
  refine g_iconst (n := 5) X dX10_copyFrom_4 rfl ?_
  refine g_aload_n (n := 6) X 0 dX10_copyFrom_5 rfl rfl rfl ?_
  refine gg_10_0 (n := 9) (z := 232) X (by omega) (by omega) lay_231 kw_1_156 dX10_copyFrom_6 rfl f_231_0 (by omega) ?_
  refine g_iconst (n := 10) X dX10_copyFrom_9 rfl ?_
  refine g_bipush (n := 12) X dX10_copyFrom_10 (by decide +kernel) rfl ?_
  refine g_acopyI (n := 15) X kw_6_8 kw_3_209 kw_3_208 kw_1_16 (by omega) (by omega) lay_27 (by omega) (by omega) lay_232 (by omega) (by omega) (by omega) (by omega) (Nat.le_of_ble_eq_true rfl) (Nat.le_of_ble_eq_true rfl) dX10_copyFrom_12 rfl ?_
  refine G.nm (fun M1 e2 => ?_)
  refine g_aload_n (n := 16) X 1 dX10_copyFrom_15 rfl rfl rfl ?_
  refine gg_10_1 (n := 19) (z := 28) X (by omega) (by omega) lay_26 kw_1_157 dX10_copyFrom_16 rfl ((congrFun (congrFun e2 _) _).trans ((gcpy_ne (by omega)).trans f_26_1)) (by omega) ?_
  refine g_iconst (n := 20) X dX10_copyFrom_19 rfl ?_
  refine g_aload_n (n := 21) X 0 dX10_copyFrom_20 rfl rfl rfl ?_
  refine gg_10_1 (n := 24) (z := 233) X (by omega) (by omega) lay_231 kw_1_157 dX10_copyFrom_21 rfl ((congrFun (congrFun e2 _) _).trans ((gcpy_ne (by omega)).trans f_231_1)) (by omega) ?_
  refine g_iconst (n := 25) X dX10_copyFrom_24 rfl ?_
  refine g_bipush (n := 27) X dX10_copyFrom_25 (by decide +kernel) rfl ?_
  refine g_acopyI (n := 30) X kw_6_8 kw_3_209 kw_3_208 kw_1_16 (by omega) (by omega) lay_28 (by omega) (by omega) lay_233 (by omega) (by omega) (by omega) (by omega) (Nat.le_of_ble_eq_true rfl) (Nat.le_of_ble_eq_true rfl) dX10_copyFrom_27 rfl ?_
  refine G.nm (fun M3 e4 => ?_)
  refine g_aload_n (n := 31) X 1 dX10_copyFrom_30 rfl rfl rfl ?_
  refine gg_10_2 (n := 34) (z := 29) X (by omega) (by omega) lay_26 kw_1_158 dX10_copyFrom_31 rfl ((congrFun (congrFun e4 _) _).trans ((gcpy_ne (by omega)).trans ((congrFun (congrFun e2 _) _).trans ((gcpy_ne (by omega)).trans f_26_2)))) (by omega) ?_
  refine g_iconst (n := 35) X dX10_copyFrom_34 rfl ?_
  refine g_aload_n (n := 36) X 0 dX10_copyFrom_35 rfl rfl rfl ?_
  refine gg_10_2 (n := 39) (z := 234) X (by omega) (by omega) lay_231 kw_1_158 dX10_copyFrom_36 rfl ((congrFun (congrFun e4 _) _).trans ((gcpy_ne (by omega)).trans ((congrFun (congrFun e2 _) _).trans ((gcpy_ne (by omega)).trans f_231_2)))) (by omega) ?_
  refine g_iconst (n := 40) X dX10_copyFrom_39 rfl ?_
  refine g_bipush (n := 42) X dX10_copyFrom_40 (by decide +kernel) rfl ?_
  refine g_acopyI (n := 45) X kw_6_8 kw_3_209 kw_3_208 kw_1_16 (by omega) (by omega) lay_29 (by omega) (by omega) lay_234 (by omega) (by omega) (by omega) (by omega) (Nat.le_of_ble_eq_true rfl) (Nat.le_of_ble_eq_true rfl) dX10_copyFrom_42 rfl ?_
  refine G.nm (fun M5 e6 => ?_)
  refine g_aload_n (n := 46) X 0 dX10_copyFrom_45 rfl rfl rfl ?_
  refine g_aload_n (n := 47) X 1 dX10_copyFrom_46 rfl rfl rfl ?_
  refine gg_10_3 (n := 50) (z := M5 26 3) X (by omega) (by omega) lay_26 kw_1_159 dX10_copyFrom_47 rfl rfl ?_
  refine gp_10_3 (n := 53) X (by omega) (by omega) lay_231 kw_1_159 dX10_copyFrom_50 rfl ?_
  refine G.nm (fun M7 e8 => ?_)
  exact g_return X hr dX10_copyFrom_53 (by exact (fun a h0 h1 h2 h3 => ((congrFun e8 a).trans ((gset_off a (by omega)).trans ((congrFun e6 a).trans ((gcpy_off a (by omega)).trans ((congrFun e4 a).trans ((gcpy_off a (by omega)).trans ((congrFun e2 a).trans ((gcpy_off a (by omega)).trans rfl))))))))))
theorem dX9_copyFrom_0 : decode cX9_copyFrom 0 = .ok (.aload_n 0, 1) := by decide +kernel
theorem dX9_copyFrom_1 : decode cX9_copyFrom 1 = .ok (.getfield 12, 3) := by decide +kernel
theorem dX9_copyFrom_4 : decode cX9_copyFrom 4 = .ok (.aload_n 1, 1) := by decide +kernel
theorem dX9_copyFrom_5 : decode cX9_copyFrom 5 = .ok (.getfield 12, 3) := by decide +kernel
theorem dX9_copyFrom_8 : decode cX9_copyFrom 8 = .ok (.invokevirtual 75, 3) := by decide +kernel
theorem kw_5_216 : (Jvm.Cond.methodLink "ParishUnion$Union" (75 : Nat) ({ cls := "ParishUnion$Land", name := "copyFrom", desc := "(LParishUnion$Land;)V" } : Jvm.MethodName)) ∈ gT := gT_of (tb_5 _ (List.mem_of_getElem? (i := 216) rfl)) rfl
theorem kw_5_219 : (Jvm.Cond.code ({ cls := "ParishUnion$Land", name := "copyFrom", desc := "(LParishUnion$Land;)V" } : Jvm.MethodName) prog_5_method_2_code (2 : Nat) (Option.none : Option Jvm.ClassFile.FieldType)) ∈ gT := gT_of (tb_5 _ (List.mem_of_getElem? (i := 219) rfl)) rfl
theorem okX3_copyFrom : gQok yX3_copyFrom cX3_copyFrom 2 (Option.none : Option Jvm.ClassFile.FieldType) 1 := ⟨kw_5_219, kw_1_3, by decide +kernel, by decide +kernel, by decide +kernel⟩
theorem kw_5_217 : (Jvm.Cond.instanceMethod ({ cls := "ParishUnion$Land", name := "copyFrom", desc := "(LParishUnion$Land;)V" } : Jvm.MethodName)) ∈ gT := gT_of (tb_5 _ (List.mem_of_getElem? (i := 217) rfl)) rfl
theorem kw_5_218 : (Jvm.Cond.selects "ParishUnion$Land" ({ cls := "ParishUnion$Land", name := "copyFrom", desc := "(LParishUnion$Land;)V" } : Jvm.MethodName) ({ cls := "ParishUnion$Land", name := "copyFrom", desc := "(LParishUnion$Land;)V" } : Jvm.MethodName)) ∈ gT := gT_of (tb_5 _ (List.mem_of_getElem? (i := 218) rfl)) rfl
theorem dX9_copyFrom_11 : decode cX9_copyFrom 11 = .ok (.iconst 0, 1) := by decide +kernel
theorem dX9_copyFrom_12 : decode cX9_copyFrom 12 = .ok (.istore_n 2, 1) := by decide +kernel
theorem dX9_copyFrom_13 : decode cX9_copyFrom 13 = .ok (.iload_n 2, 1) := by decide +kernel
theorem dX9_copyFrom_14 : decode cX9_copyFrom 14 = .ok (.aload_n 1, 1) := by decide +kernel
theorem dX9_copyFrom_15 : decode cX9_copyFrom 15 = .ok (.getfield 79, 3) := by decide +kernel
theorem dX9_copyFrom_18 : decode cX9_copyFrom 18 = .ok (.if_icmp .ge 24, 3) := by decide +kernel
theorem dX9_copyFrom_42 : decode cX9_copyFrom 42 = .ok (.iconst 0, 1) := by decide +kernel
theorem dX9_copyFrom_43 : decode cX9_copyFrom 43 = .ok (.istore_n 2, 1) := by decide +kernel
theorem dX9_copyFrom_44 : decode cX9_copyFrom 44 = .ok (.iload_n 2, 1) := by decide +kernel
theorem dX9_copyFrom_45 : decode cX9_copyFrom 45 = .ok (.aload_n 1, 1) := by decide +kernel
theorem dX9_copyFrom_46 : decode cX9_copyFrom 46 = .ok (.getfield 86, 3) := by decide +kernel
theorem kw_2_129 : (Jvm.Cond.fieldLink "ParishUnion$Union" (86 : Nat) "ParishUnion$Union" "rightCount" "I") ∈ gT := gT_of (tb_2 _ (List.mem_of_getElem? (i := 129) rfl)) rfl
theorem dX9_copyFrom_49 : decode cX9_copyFrom 49 = .ok (.if_icmp .ge 24, 3) := by decide +kernel
theorem dX9_copyFrom_73 : decode cX9_copyFrom 73 = .ok (.iconst 0, 1) := by decide +kernel
theorem dX9_copyFrom_74 : decode cX9_copyFrom 74 = .ok (.istore_n 2, 1) := by decide +kernel
theorem dX9_copyFrom_75 : decode cX9_copyFrom 75 = .ok (.iload_n 2, 1) := by decide +kernel
theorem dX9_copyFrom_76 : decode cX9_copyFrom 76 = .ok (.aload_n 1, 1) := by decide +kernel
theorem dX9_copyFrom_77 : decode cX9_copyFrom 77 = .ok (.getfield 92, 3) := by decide +kernel
theorem dX9_copyFrom_80 : decode cX9_copyFrom 80 = .ok (.if_icmp .ge 24, 3) := by decide +kernel
theorem dX9_copyFrom_104 : decode cX9_copyFrom 104 = .ok (.aload_n 1, 1) := by decide +kernel
theorem dX9_copyFrom_105 : decode cX9_copyFrom 105 = .ok (.getfield 36, 3) := by decide +kernel
theorem dX9_copyFrom_108 : decode cX9_copyFrom 108 = .ok (.iconst 0, 1) := by decide +kernel
theorem dX9_copyFrom_109 : decode cX9_copyFrom 109 = .ok (.aload_n 0, 1) := by decide +kernel
theorem dX9_copyFrom_110 : decode cX9_copyFrom 110 = .ok (.getfield 36, 3) := by decide +kernel
theorem dX9_copyFrom_113 : decode cX9_copyFrom 113 = .ok (.iconst 0, 1) := by decide +kernel
theorem dX9_copyFrom_114 : decode cX9_copyFrom 114 = .ok (.sipush 150, 3) := by decide +kernel
theorem dX9_copyFrom_117 : decode cX9_copyFrom 117 = .ok (.invokestatic 98, 3) := by decide +kernel
theorem kw_5_232 : (Jvm.Cond.methodLink "ParishUnion$Union" (98 : Nat) ({ cls := "java/lang/System", name := "arraycopy", desc := "(Ljava/lang/Object;ILjava/lang/Object;II)V" } : Jvm.MethodName)) ∈ gT := gT_of (tb_5 _ (List.mem_of_getElem? (i := 232) rfl)) rfl
theorem dX9_copyFrom_120 : decode cX9_copyFrom 120 = .ok (.aload_n 0, 1) := by decide +kernel
theorem dX9_copyFrom_121 : decode cX9_copyFrom 121 = .ok (.getfield 43, 3) := by decide +kernel
theorem dX9_copyFrom_124 : decode cX9_copyFrom 124 = .ok (.aload_n 1, 1) := by decide +kernel
theorem dX9_copyFrom_125 : decode cX9_copyFrom 125 = .ok (.getfield 43, 3) := by decide +kernel
theorem dX9_copyFrom_128 : decode cX9_copyFrom 128 = .ok (.invokevirtual 104, 3) := by decide +kernel
theorem kw_5_233 : (Jvm.Cond.methodLink "ParishUnion$Union" (104 : Nat) ({ cls := "ParishUnion$Orders", name := "copyFrom", desc := "(LParishUnion$Orders;)V" } : Jvm.MethodName)) ∈ gT := gT_of (tb_5 _ (List.mem_of_getElem? (i := 233) rfl)) rfl
theorem kw_5_236 : (Jvm.Cond.code ({ cls := "ParishUnion$Orders", name := "copyFrom", desc := "(LParishUnion$Orders;)V" } : Jvm.MethodName) prog_6_method_2_code (3 : Nat) (Option.none : Option Jvm.ClassFile.FieldType)) ∈ gT := gT_of (tb_5 _ (List.mem_of_getElem? (i := 236) rfl)) rfl
theorem okX4_copyFrom : gQok yX4_copyFrom cX4_copyFrom 3 (Option.none : Option Jvm.ClassFile.FieldType) 1 := ⟨kw_5_236, kw_1_4, by decide +kernel, by decide +kernel, by decide +kernel⟩
theorem kw_5_234 : (Jvm.Cond.instanceMethod ({ cls := "ParishUnion$Orders", name := "copyFrom", desc := "(LParishUnion$Orders;)V" } : Jvm.MethodName)) ∈ gT := gT_of (tb_5 _ (List.mem_of_getElem? (i := 234) rfl)) rfl
theorem kw_5_235 : (Jvm.Cond.selects "ParishUnion$Orders" ({ cls := "ParishUnion$Orders", name := "copyFrom", desc := "(LParishUnion$Orders;)V" } : Jvm.MethodName) ({ cls := "ParishUnion$Orders", name := "copyFrom", desc := "(LParishUnion$Orders;)V" } : Jvm.MethodName)) ∈ gT := gT_of (tb_5 _ (List.mem_of_getElem? (i := 235) rfl)) rfl
theorem dX9_copyFrom_131 : decode cX9_copyFrom 131 = .ok (.aload_n 0, 1) := by decide +kernel
theorem dX9_copyFrom_132 : decode cX9_copyFrom 132 = .ok (.getfield 50, 3) := by decide +kernel
theorem dX9_copyFrom_135 : decode cX9_copyFrom 135 = .ok (.aload_n 1, 1) := by decide +kernel
theorem dX9_copyFrom_136 : decode cX9_copyFrom 136 = .ok (.getfield 50, 3) := by decide +kernel
theorem dX9_copyFrom_139 : decode cX9_copyFrom 139 = .ok (.invokevirtual 107, 3) := by decide +kernel
theorem kw_5_238 : (Jvm.Cond.methodLink "ParishUnion$Union" (107 : Nat) ({ cls := "ParishUnion$House", name := "copyFrom", desc := "(LParishUnion$House;)V" } : Jvm.MethodName)) ∈ gT := gT_of (tb_5 _ (List.mem_of_getElem? (i := 238) rfl)) rfl
theorem kw_5_168 : (Jvm.Cond.code ({ cls := "ParishUnion$House", name := "copyFrom", desc := "(LParishUnion$House;)V" } : Jvm.MethodName) prog_4_method_2_code (2 : Nat) (Option.none : Option Jvm.ClassFile.FieldType)) ∈ gT := gT_of (tb_5 _ (List.mem_of_getElem? (i := 168) rfl)) rfl
theorem okX2_copyFrom : gQok yX2_copyFrom cX2_copyFrom 2 (Option.none : Option Jvm.ClassFile.FieldType) 1 := ⟨kw_5_168, kw_1_5, by decide +kernel, by decide +kernel, by decide +kernel⟩
theorem kw_5_166 : (Jvm.Cond.instanceMethod ({ cls := "ParishUnion$House", name := "copyFrom", desc := "(LParishUnion$House;)V" } : Jvm.MethodName)) ∈ gT := gT_of (tb_5 _ (List.mem_of_getElem? (i := 166) rfl)) rfl
theorem kw_5_167 : (Jvm.Cond.selects "ParishUnion$House" ({ cls := "ParishUnion$House", name := "copyFrom", desc := "(LParishUnion$House;)V" } : Jvm.MethodName) ({ cls := "ParishUnion$House", name := "copyFrom", desc := "(LParishUnion$House;)V" } : Jvm.MethodName)) ∈ gT := gT_of (tb_5 _ (List.mem_of_getElem? (i := 167) rfl)) rfl
theorem dX9_copyFrom_142 : decode cX9_copyFrom 142 = .ok (.aload_n 0, 1) := by decide +kernel
theorem dX9_copyFrom_143 : decode cX9_copyFrom 143 = .ok (.getfield 57, 3) := by decide +kernel
theorem dX9_copyFrom_146 : decode cX9_copyFrom 146 = .ok (.aload_n 1, 1) := by decide +kernel
theorem dX9_copyFrom_147 : decode cX9_copyFrom 147 = .ok (.getfield 57, 3) := by decide +kernel
theorem dX9_copyFrom_150 : decode cX9_copyFrom 150 = .ok (.aload_n 1, 1) := by decide +kernel
theorem dX9_copyFrom_151 : decode cX9_copyFrom 151 = .ok (.getfield 110, 3) := by decide +kernel
theorem dX9_copyFrom_154 : decode cX9_copyFrom 154 = .ok (.invokevirtual 113, 3) := by decide +kernel
theorem kw_5_239 : (Jvm.Cond.methodLink "ParishUnion$Union" (113 : Nat) ({ cls := "ParishUnion$Past", name := "copyFrom", desc := "(LParishUnion$Past;I)V" } : Jvm.MethodName)) ∈ gT := gT_of (tb_5 _ (List.mem_of_getElem? (i := 239) rfl)) rfl
theorem kw_6_2 : (Jvm.Cond.code ({ cls := "ParishUnion$Past", name := "copyFrom", desc := "(LParishUnion$Past;I)V" } : Jvm.MethodName) prog_7_method_2_code (3 : Nat) (Option.none : Option Jvm.ClassFile.FieldType)) ∈ gT := gT_of (tb_6 _ (List.mem_of_getElem? (i := 2) rfl)) rfl
theorem okX5_copyFrom : gQok yX5_copyFrom cX5_copyFrom 3 (Option.none : Option Jvm.ClassFile.FieldType) 2 := ⟨kw_6_2, kw_1_6, by decide +kernel, by decide +kernel, by decide +kernel⟩
theorem kw_6_0 : (Jvm.Cond.instanceMethod ({ cls := "ParishUnion$Past", name := "copyFrom", desc := "(LParishUnion$Past;I)V" } : Jvm.MethodName)) ∈ gT := gT_of (tb_6 _ (List.mem_of_getElem? (i := 0) rfl)) rfl
theorem kw_6_1 : (Jvm.Cond.selects "ParishUnion$Past" ({ cls := "ParishUnion$Past", name := "copyFrom", desc := "(LParishUnion$Past;I)V" } : Jvm.MethodName) ({ cls := "ParishUnion$Past", name := "copyFrom", desc := "(LParishUnion$Past;I)V" } : Jvm.MethodName)) ∈ gT := gT_of (tb_6 _ (List.mem_of_getElem? (i := 1) rfl)) rfl
theorem dX9_copyFrom_157 : decode cX9_copyFrom 157 = .ok (.aload_n 0, 1) := by decide +kernel
theorem dX9_copyFrom_158 : decode cX9_copyFrom 158 = .ok (.getfield 64, 3) := by decide +kernel
theorem dX9_copyFrom_161 : decode cX9_copyFrom 161 = .ok (.aload_n 1, 1) := by decide +kernel
theorem dX9_copyFrom_162 : decode cX9_copyFrom 162 = .ok (.getfield 64, 3) := by decide +kernel
theorem dX9_copyFrom_165 : decode cX9_copyFrom 165 = .ok (.invokevirtual 116, 3) := by decide +kernel
theorem kw_6_4 : (Jvm.Cond.methodLink "ParishUnion$Union" (116 : Nat) ({ cls := "ParishUnion$Vagrants", name := "copyFrom", desc := "(LParishUnion$Vagrants;)V" } : Jvm.MethodName)) ∈ gT := gT_of (tb_6 _ (List.mem_of_getElem? (i := 4) rfl)) rfl
theorem kw_6_7 : (Jvm.Cond.code ({ cls := "ParishUnion$Vagrants", name := "copyFrom", desc := "(LParishUnion$Vagrants;)V" } : Jvm.MethodName) prog_12_method_2_code (2 : Nat) (Option.none : Option Jvm.ClassFile.FieldType)) ∈ gT := gT_of (tb_6 _ (List.mem_of_getElem? (i := 7) rfl)) rfl
theorem okX10_copyFrom : gQok yX10_copyFrom cX10_copyFrom 2 (Option.none : Option Jvm.ClassFile.FieldType) 1 := ⟨kw_6_7, kw_1_7, by decide +kernel, by decide +kernel, by decide +kernel⟩
theorem kw_6_5 : (Jvm.Cond.instanceMethod ({ cls := "ParishUnion$Vagrants", name := "copyFrom", desc := "(LParishUnion$Vagrants;)V" } : Jvm.MethodName)) ∈ gT := gT_of (tb_6 _ (List.mem_of_getElem? (i := 5) rfl)) rfl
theorem kw_6_6 : (Jvm.Cond.selects "ParishUnion$Vagrants" ({ cls := "ParishUnion$Vagrants", name := "copyFrom", desc := "(LParishUnion$Vagrants;)V" } : Jvm.MethodName) ({ cls := "ParishUnion$Vagrants", name := "copyFrom", desc := "(LParishUnion$Vagrants;)V" } : Jvm.MethodName)) ∈ gT := gT_of (tb_6 _ (List.mem_of_getElem? (i := 6) rfl)) rfl
theorem dX9_copyFrom_168 : decode cX9_copyFrom 168 = .ok (.aload_n 1, 1) := by decide +kernel
theorem dX9_copyFrom_169 : decode cX9_copyFrom 169 = .ok (.getfield 68, 3) := by decide +kernel
theorem dX9_copyFrom_172 : decode cX9_copyFrom 172 = .ok (.iconst 0, 1) := by decide +kernel
theorem dX9_copyFrom_173 : decode cX9_copyFrom 173 = .ok (.aload_n 0, 1) := by decide +kernel
theorem dX9_copyFrom_174 : decode cX9_copyFrom 174 = .ok (.getfield 68, 3) := by decide +kernel
theorem dX9_copyFrom_177 : decode cX9_copyFrom 177 = .ok (.iconst 0, 1) := by decide +kernel
theorem dX9_copyFrom_178 : decode cX9_copyFrom 178 = .ok (.iconst 4, 1) := by decide +kernel
theorem dX9_copyFrom_179 : decode cX9_copyFrom 179 = .ok (.invokestatic 98, 3) := by decide +kernel
theorem dX9_copyFrom_182 : decode cX9_copyFrom 182 = .ok (.aload_n 0, 1) := by decide +kernel
theorem dX9_copyFrom_183 : decode cX9_copyFrom 183 = .ok (.aload_n 1, 1) := by decide +kernel
theorem dX9_copyFrom_184 : decode cX9_copyFrom 184 = .ok (.getfield 79, 3) := by decide +kernel
theorem dX9_copyFrom_187 : decode cX9_copyFrom 187 = .ok (.putfield 79, 3) := by decide +kernel
theorem dX9_copyFrom_190 : decode cX9_copyFrom 190 = .ok (.aload_n 0, 1) := by decide +kernel
theorem dX9_copyFrom_191 : decode cX9_copyFrom 191 = .ok (.aload_n 1, 1) := by decide +kernel
theorem dX9_copyFrom_192 : decode cX9_copyFrom 192 = .ok (.getfield 86, 3) := by decide +kernel
theorem dX9_copyFrom_195 : decode cX9_copyFrom 195 = .ok (.putfield 86, 3) := by decide +kernel
theorem dX9_copyFrom_198 : decode cX9_copyFrom 198 = .ok (.aload_n 0, 1) := by decide +kernel
theorem dX9_copyFrom_199 : decode cX9_copyFrom 199 = .ok (.aload_n 1, 1) := by decide +kernel
theorem dX9_copyFrom_200 : decode cX9_copyFrom 200 = .ok (.getfield 119, 3) := by decide +kernel
theorem kw_2_132 : (Jvm.Cond.fieldLink "ParishUnion$Union" (119 : Nat) "ParishUnion$Union" "entries" "I") ∈ gT := gT_of (tb_2 _ (List.mem_of_getElem? (i := 132) rfl)) rfl
theorem dX9_copyFrom_203 : decode cX9_copyFrom 203 = .ok (.putfield 119, 3) := by decide +kernel
theorem dX9_copyFrom_206 : decode cX9_copyFrom 206 = .ok (.aload_n 0, 1) := by decide +kernel
theorem dX9_copyFrom_207 : decode cX9_copyFrom 207 = .ok (.aload_n 1, 1) := by decide +kernel
theorem dX9_copyFrom_208 : decode cX9_copyFrom 208 = .ok (.getfield 92, 3) := by decide +kernel
theorem dX9_copyFrom_211 : decode cX9_copyFrom 211 = .ok (.putfield 92, 3) := by decide +kernel
theorem dX9_copyFrom_214 : decode cX9_copyFrom 214 = .ok (.aload_n 0, 1) := by decide +kernel
theorem dX9_copyFrom_215 : decode cX9_copyFrom 215 = .ok (.aload_n 1, 1) := by decide +kernel
theorem dX9_copyFrom_216 : decode cX9_copyFrom 216 = .ok (.getfield 122, 3) := by decide +kernel
theorem kw_2_136 : (Jvm.Cond.fieldLink "ParishUnion$Union" (122 : Nat) "ParishUnion$Union" "tapeSize" "I") ∈ gT := gT_of (tb_2 _ (List.mem_of_getElem? (i := 136) rfl)) rfl
theorem dX9_copyFrom_219 : decode cX9_copyFrom 219 = .ok (.putfield 122, 3) := by decide +kernel
theorem dX9_copyFrom_222 : decode cX9_copyFrom 222 = .ok (.aload_n 0, 1) := by decide +kernel
theorem dX9_copyFrom_223 : decode cX9_copyFrom 223 = .ok (.aload_n 1, 1) := by decide +kernel
theorem dX9_copyFrom_224 : decode cX9_copyFrom 224 = .ok (.getfield 110, 3) := by decide +kernel
theorem dX9_copyFrom_227 : decode cX9_copyFrom 227 = .ok (.putfield 110, 3) := by decide +kernel
theorem dX9_copyFrom_230 : decode cX9_copyFrom 230 = .ok (.return_, 1) := by decide +kernel
set_option maxRecDepth 100000 in
set_option maxHeartbeats 4000000 in
theorem c_X9_copyFrom {l : Launch} {n0 : Nat} {D : va_G} {cA : Nat → ClassId} {M : gM}  (f_206_0 : M 206 0 = 208) (f_206_1 : M 206 1 = 211) (f_206_2 : M 206 2 = 212) (f_206_3 : M 206 3 = 213) (f_206_4 : M 206 4 = 214) (f_206_5 : M 206 5 = 215) (f_206_6 : M 206 6 = 221) (f_206_7 : M 206 7 = 229) (f_206_8 : M 206 8 = 232) (f_206_9 : M 206 9 = 236) (f_1_0 : M 1 0 = 3) (f_1_1 : M 1 1 = 6) (f_1_2 : M 1 2 = 7) (f_1_3 : M 1 3 = 8) (f_1_4 : M 1 4 = 9) (f_1_5 : M 1 5 = 10) (f_1_6 : M 1 6 = 16) (f_1_7 : M 1 7 = 24) (f_1_8 : M 1 8 = 27) (f_1_9 : M 1 9 = 31) (f_1_10 : M 1 10 = 0) (f_1_11 : M 1 11 = 0) (f_1_12 : M 1 12 = 0) (f_1_13 : M 1 13 = 0) (f_1_14 : M 1 14 = 0) (f_1_15 : M 1 15 = 0) (f_207_0 : M 207 0 = 209) (f_207_1 : M 207 1 = 210) (f_2_0 : M 2 0 = 4) (f_2_1 : M 2 1 = 5) (f_220_0 : M 220 0 = 222) (f_220_1 : M 220 1 = 223) (f_220_2 : M 220 2 = 224) (f_220_3 : M 220 3 = 225) (f_220_4 : M 220 4 = 226) (f_220_5 : M 220 5 = 227) (f_220_6 : M 220 6 = 228) (f_15_0 : M 15 0 = 17) (f_15_1 : M 15 1 = 18) (f_15_2 : M 15 2 = 19) (f_15_3 : M 15 3 = 20) (f_15_4 : M 15 4 = 21) (f_15_5 : M 15 5 = 22) (f_15_6 : M 15 6 = 23) (f_214_0 : M 214 0 = 216) (f_214_1 : M 214 1 = 217) (f_214_2 : M 214 2 = 218) (f_214_3 : M 214 3 = 219) (f_214_4 : M 214 4 = 220) (f_9_0 : M 9 0 = 11) (f_9_1 : M 9 1 = 12) (f_9_2 : M 9 2 = 13) (f_9_3 : M 9 3 = 14) (f_9_4 : M 9 4 = 15) (f_228_0 : M 228 0 = 230) (f_228_1 : M 228 1 = 231) (f_23_0 : M 23 0 = 25) (f_23_1 : M 23 1 = 26) (f_231_0 : M 231 0 = 233) (f_231_1 : M 231 1 = 234) (f_231_2 : M 231 2 = 235) (f_26_0 : M 26 0 = 28) (f_26_1 : M 26 1 = 29) (f_26_2 : M 26 2 = 30) (car0 : ∀ i : Int, 0 ≤ i → i < 20 → M 14 i = 0) (tape0 : ∀ i : Int, 0 ≤ i → i < 150 → M 8 i = 0) : Met l yX9_copyFrom (gWsOf yX9_copyFrom cX9_copyFrom 3 (Option.none : Option Jvm.ClassFile.FieldType)) { frames := 6, cells := 0, slots := 0, locals := 165 } (gPc n0 D cA [gA n0 206, gA n0 1] M 358) (gQv n0 D cA 358 (fun M1 => ∀ a : Int, a ≠ 206 → a ≠ 208 → a ≠ 209 → a ≠ 213 → a ≠ 214 → a ≠ 215 → a ≠ 216 → a ≠ 217 → a ≠ 218 → a ≠ 219 → a ≠ 220 → a ≠ 221 → a ≠ 222 → a ≠ 223 → a ≠ 224 → a ≠ 225 → a ≠ 226 → a ≠ 227 → a ≠ 229 → a ≠ 230 → a ≠ 231 → a ≠ 232 → a ≠ 233 → a ≠ 234 → a ≠ 235 → M1 a = M a)) 0 0 (fun q => n0 ≤ q) := by
  refine gMet_of [gA n0 206, gA n0 1] (by decide) (Nat.le_of_ble_eq_true rfl) ?_
  intro p e s m args below meth cd X hr hm
  have X : gCx p s m args meth cd n0 D cA "ParishUnion$Union" cX9_copyFrom 3 := X
  show G p l e ({ frames := 6, cells := 0, slots := 0, locals := 165 } : Room) s m args below meth cd n0 D cA 3 (MQ below (gQv n0 D cA 358 (fun M1 => ∀ a : Int, a ≠ 206 → a ≠ 208 → a ≠ 209 → a ≠ 213 → a ≠ 214 → a ≠ 215 → a ≠ 216 → a ≠ 217 → a ≠ 218 → a ≠ 219 → a ≠ 220 → a ≠ 221 → a ≠ 222 → a ≠ 223 → a ≠ 224 → a ≠ 225 → a ≠ 226 → a ≠ 227 → a ≠ 229 → a ≠ 230 → a ≠ 231 → a ≠ 232 → a ≠ 233 → a ≠ 234 → a ≠ 235 → M1 a = M a)) args s 0 0 (fun q => n0 ≤ q)) 0 0 M 358 0 [(0, gA n0 206), (1, gA n0 1)] []
  refine g_aload_n (n := 1) X 0 dX9_copyFrom_0 rfl rfl rfl ?_
  refine gg_9_0 (n := 4) (z := 207) X (by omega) (by omega) lay_206 kw_2_104 dX9_copyFrom_1 rfl f_206_0 (by omega) ?_
  refine g_aload_n (n := 5) X 1 dX9_copyFrom_4 rfl rfl rfl ?_
  refine gg_9_0 (n := 8) (z := 2) X (by omega) (by omega) lay_1 kw_2_104 dX9_copyFrom_5 rfl f_1_0 (by omega) ?_
  refine g_callVv (n := 11) (As := [gA n0 2]) (rest := []) (cs1 := 0) (ss1 := 0) X (c_X3_copyFrom f_207_0 f_207_1 f_2_0 f_2_1) okX3_copyFrom kw_5_216 ⟨kw_5_217, kw_5_218⟩ ⟨rfl, rfl⟩ ⟨Nat.le_of_ble_eq_true rfl, Nat.le_of_ble_eq_true rfl⟩ rfl (by omega) (by omega) lay_207 rfl rfl (Nat.le_of_ble_eq_true rfl) ⟨Nat.le_of_ble_eq_true rfl, Nat.le_of_ble_eq_true rfl⟩ rfl rfl dX9_copyFrom_8 rfl (fun M2 P3 => ?_)
  have F4 := P3
  refine g_iconst (n := 12) X dX9_copyFrom_11 rfl ?_
  refine g_istore_n (n := 13) (L' := [(2, gJ 0), (0, gA n0 206), (1, gA n0 1)]) X dX9_copyFrom_12 rfl (by decide) rfl rfl ?_
  refine g_iload_n (n := 14) X 0 dX9_copyFrom_13 rfl rfl rfl ?_
  refine g_aload_n (n := 15) X 2 dX9_copyFrom_14 rfl rfl rfl ?_
  refine gg_9_10 (n := 18) (z := 0) X (by omega) (by omega) lay_1 kw_2_126 dX9_copyFrom_15 rfl ((congrFun (F4 1 (by omega) (by omega)) _).trans f_1_10) ?_
  refine g_icmp_ge (n := 21) (tgt := 42) X dX9_copyFrom_18 (by decide) (by omega) (by omega) rfl (fun c5 => ?_) (fun c5 => by exfalso; omega)
  refine g_iconst (n := 43) X dX9_copyFrom_42 rfl ?_
  refine g_istore_n (n := 44) (L' := [(2, gJ 0), (0, gA n0 206), (1, gA n0 1)]) X dX9_copyFrom_43 rfl (by decide) rfl rfl ?_
  refine g_iload_n (n := 45) X 0 dX9_copyFrom_44 rfl rfl rfl ?_
  refine g_aload_n (n := 46) X 2 dX9_copyFrom_45 rfl rfl rfl ?_
  refine gg_9_11 (n := 49) (z := 0) X (by omega) (by omega) lay_1 kw_2_129 dX9_copyFrom_46 rfl ((congrFun (F4 1 (by omega) (by omega)) _).trans f_1_11) ?_
  refine g_icmp_ge (n := 52) (tgt := 73) X dX9_copyFrom_49 (by decide) (by omega) (by omega) rfl (fun c6 => ?_) (fun c6 => by exfalso; omega)
  refine g_iconst (n := 74) X dX9_copyFrom_73 rfl ?_
  refine g_istore_n (n := 75) (L' := [(2, gJ 0), (0, gA n0 206), (1, gA n0 1)]) X dX9_copyFrom_74 rfl (by decide) rfl rfl ?_
  refine g_iload_n (n := 76) X 0 dX9_copyFrom_75 rfl rfl rfl ?_
  refine g_aload_n (n := 77) X 2 dX9_copyFrom_76 rfl rfl rfl ?_
  refine gg_9_13 (n := 80) (z := 0) X (by omega) (by omega) lay_1 kw_2_134 dX9_copyFrom_77 rfl ((congrFun (F4 1 (by omega) (by omega)) _).trans f_1_13) ?_
  refine g_icmp_ge (n := 83) (tgt := 104) X dX9_copyFrom_80 (by decide) (by omega) (by omega) rfl (fun c7 => ?_) (fun c7 => by exfalso; omega)
  refine g_aload_n (n := 105) X 2 dX9_copyFrom_104 rfl rfl rfl ?_
  refine gg_9_4 (n := 108) (z := 8) X (by omega) (by omega) lay_1 kw_2_114 dX9_copyFrom_105 rfl ((congrFun (F4 1 (by omega) (by omega)) _).trans f_1_4) (by omega) ?_
  refine g_iconst (n := 109) X dX9_copyFrom_108 rfl ?_
  refine g_aload_n (n := 110) X 1 dX9_copyFrom_109 rfl rfl rfl ?_
  refine gg_9_4 (n := 113) (z := 213) X (by omega) (by omega) lay_206 kw_2_114 dX9_copyFrom_110 rfl ((congrFun (F4 206 (by omega) (by omega)) _).trans f_206_4) (by omega) ?_
  refine g_iconst (n := 114) X dX9_copyFrom_113 rfl ?_
  refine g_sipush (n := 117) X dX9_copyFrom_114 (by decide +kernel) rfl ?_
  refine g_acopyB (n := 120) X kw_5_232 kw_3_209 kw_3_208 kw_1_16 (by omega) (by omega) lay_8 (by omega) (by omega) lay_213 (by omega) (by omega) (by omega) (by omega) (fun i h0 h1 => by rw [show M2 8 = M 8 from ((F4 8 (by omega) (by omega)).trans rfl), tape0 i h0 (by omega)]; decide +kernel) (Nat.le_of_ble_eq_true rfl) (Nat.le_of_ble_eq_true rfl) dX9_copyFrom_117 rfl ?_
  refine G.nm (fun M8 e9 => ?_)
  refine g_aload_n (n := 121) X 1 dX9_copyFrom_120 rfl rfl rfl ?_
  refine gg_9_5 (n := 124) (z := 214) X (by omega) (by omega) lay_206 kw_2_116 dX9_copyFrom_121 rfl ((congrFun (congrFun e9 _) _).trans ((gcpy_ne (by omega)).trans ((congrFun (F4 206 (by omega) (by omega)) _).trans f_206_5))) (by omega) ?_
  refine g_aload_n (n := 125) X 2 dX9_copyFrom_124 rfl rfl rfl ?_
  refine gg_9_5 (n := 128) (z := 9) X (by omega) (by omega) lay_1 kw_2_116 dX9_copyFrom_125 rfl ((congrFun (congrFun e9 _) _).trans ((gcpy_ne (by omega)).trans ((congrFun (F4 1 (by omega) (by omega)) _).trans f_1_5))) (by omega) ?_
  refine g_callVv (n := 131) (As := [gA n0 9]) (rest := []) (cs1 := 0) (ss1 := 0) X (c_X4_copyFrom ((congrFun (congrFun e9 _) _).trans ((gcpy_ne (by omega)).trans ((congrFun (F4 214 (by omega) (by omega)) _).trans f_214_0))) ((congrFun (congrFun e9 _) _).trans ((gcpy_ne (by omega)).trans ((congrFun (F4 214 (by omega) (by omega)) _).trans f_214_1))) ((congrFun (congrFun e9 _) _).trans ((gcpy_ne (by omega)).trans ((congrFun (F4 214 (by omega) (by omega)) _).trans f_214_2))) ((congrFun (congrFun e9 _) _).trans ((gcpy_ne (by omega)).trans ((congrFun (F4 214 (by omega) (by omega)) _).trans f_214_3))) ((congrFun (congrFun e9 _) _).trans ((gcpy_ne (by omega)).trans ((congrFun (F4 214 (by omega) (by omega)) _).trans f_214_4))) ((congrFun (congrFun e9 _) _).trans ((gcpy_ne (by omega)).trans ((congrFun (F4 9 (by omega) (by omega)) _).trans f_9_0))) ((congrFun (congrFun e9 _) _).trans ((gcpy_ne (by omega)).trans ((congrFun (F4 9 (by omega) (by omega)) _).trans f_9_1))) ((congrFun (congrFun e9 _) _).trans ((gcpy_ne (by omega)).trans ((congrFun (F4 9 (by omega) (by omega)) _).trans f_9_2))) ((congrFun (congrFun e9 _) _).trans ((gcpy_ne (by omega)).trans ((congrFun (F4 9 (by omega) (by omega)) _).trans f_9_3))) ((congrFun (congrFun e9 _) _).trans ((gcpy_ne (by omega)).trans ((congrFun (F4 9 (by omega) (by omega)) _).trans f_9_4))) (fun i h0 h1 => (congrFun ((congrFun e9 _).trans ((gcpy_off _ (by omega)).trans ((F4 14 (by omega) (by omega)).trans rfl))) i).trans (car0 i h0 h1))) okX4_copyFrom kw_5_233 ⟨kw_5_234, kw_5_235⟩ ⟨rfl, rfl⟩ ⟨Nat.le_of_ble_eq_true rfl, Nat.le_of_ble_eq_true rfl⟩ rfl (by omega) (by omega) lay_214 rfl rfl (Nat.le_of_ble_eq_true rfl) ⟨Nat.le_of_ble_eq_true rfl, Nat.le_of_ble_eq_true rfl⟩ rfl rfl dX9_copyFrom_128 rfl (fun M11 P12 => ?_)
  have F13 := P12
  refine g_aload_n (n := 132) X 1 dX9_copyFrom_131 rfl rfl rfl ?_
  refine gg_9_6 (n := 135) (z := 220) X (by omega) (by omega) lay_206 kw_2_118 dX9_copyFrom_132 rfl ((congrFun (F13 206 (by omega) (by omega) (by omega) (by omega) (by omega) (by omega)) _).trans ((congrFun (congrFun e9 _) _).trans ((gcpy_ne (by omega)).trans ((congrFun (F4 206 (by omega) (by omega)) _).trans f_206_6)))) (by omega) ?_
  refine g_aload_n (n := 136) X 2 dX9_copyFrom_135 rfl rfl rfl ?_
  refine gg_9_6 (n := 139) (z := 15) X (by omega) (by omega) lay_1 kw_2_118 dX9_copyFrom_136 rfl ((congrFun (F13 1 (by omega) (by omega) (by omega) (by omega) (by omega) (by omega)) _).trans ((congrFun (congrFun e9 _) _).trans ((gcpy_ne (by omega)).trans ((congrFun (F4 1 (by omega) (by omega)) _).trans f_1_6)))) (by omega) ?_
  refine g_callVv (n := 142) (As := [gA n0 15]) (rest := []) (cs1 := 0) (ss1 := 0) X (c_X2_copyFrom ((congrFun (F13 220 (by omega) (by omega) (by omega) (by omega) (by omega) (by omega)) _).trans ((congrFun (congrFun e9 _) _).trans ((gcpy_ne (by omega)).trans ((congrFun (F4 220 (by omega) (by omega)) _).trans f_220_0)))) ((congrFun (F13 220 (by omega) (by omega) (by omega) (by omega) (by omega) (by omega)) _).trans ((congrFun (congrFun e9 _) _).trans ((gcpy_ne (by omega)).trans ((congrFun (F4 220 (by omega) (by omega)) _).trans f_220_1)))) ((congrFun (F13 220 (by omega) (by omega) (by omega) (by omega) (by omega) (by omega)) _).trans ((congrFun (congrFun e9 _) _).trans ((gcpy_ne (by omega)).trans ((congrFun (F4 220 (by omega) (by omega)) _).trans f_220_2)))) ((congrFun (F13 220 (by omega) (by omega) (by omega) (by omega) (by omega) (by omega)) _).trans ((congrFun (congrFun e9 _) _).trans ((gcpy_ne (by omega)).trans ((congrFun (F4 220 (by omega) (by omega)) _).trans f_220_3)))) ((congrFun (F13 220 (by omega) (by omega) (by omega) (by omega) (by omega) (by omega)) _).trans ((congrFun (congrFun e9 _) _).trans ((gcpy_ne (by omega)).trans ((congrFun (F4 220 (by omega) (by omega)) _).trans f_220_4)))) ((congrFun (F13 220 (by omega) (by omega) (by omega) (by omega) (by omega) (by omega)) _).trans ((congrFun (congrFun e9 _) _).trans ((gcpy_ne (by omega)).trans ((congrFun (F4 220 (by omega) (by omega)) _).trans f_220_5)))) ((congrFun (F13 220 (by omega) (by omega) (by omega) (by omega) (by omega) (by omega)) _).trans ((congrFun (congrFun e9 _) _).trans ((gcpy_ne (by omega)).trans ((congrFun (F4 220 (by omega) (by omega)) _).trans f_220_6)))) ((congrFun (F13 15 (by omega) (by omega) (by omega) (by omega) (by omega) (by omega)) _).trans ((congrFun (congrFun e9 _) _).trans ((gcpy_ne (by omega)).trans ((congrFun (F4 15 (by omega) (by omega)) _).trans f_15_0)))) ((congrFun (F13 15 (by omega) (by omega) (by omega) (by omega) (by omega) (by omega)) _).trans ((congrFun (congrFun e9 _) _).trans ((gcpy_ne (by omega)).trans ((congrFun (F4 15 (by omega) (by omega)) _).trans f_15_1)))) ((congrFun (F13 15 (by omega) (by omega) (by omega) (by omega) (by omega) (by omega)) _).trans ((congrFun (congrFun e9 _) _).trans ((gcpy_ne (by omega)).trans ((congrFun (F4 15 (by omega) (by omega)) _).trans f_15_2)))) ((congrFun (F13 15 (by omega) (by omega) (by omega) (by omega) (by omega) (by omega)) _).trans ((congrFun (congrFun e9 _) _).trans ((gcpy_ne (by omega)).trans ((congrFun (F4 15 (by omega) (by omega)) _).trans f_15_3)))) ((congrFun (F13 15 (by omega) (by omega) (by omega) (by omega) (by omega) (by omega)) _).trans ((congrFun (congrFun e9 _) _).trans ((gcpy_ne (by omega)).trans ((congrFun (F4 15 (by omega) (by omega)) _).trans f_15_4)))) ((congrFun (F13 15 (by omega) (by omega) (by omega) (by omega) (by omega) (by omega)) _).trans ((congrFun (congrFun e9 _) _).trans ((gcpy_ne (by omega)).trans ((congrFun (F4 15 (by omega) (by omega)) _).trans f_15_5)))) ((congrFun (F13 15 (by omega) (by omega) (by omega) (by omega) (by omega) (by omega)) _).trans ((congrFun (congrFun e9 _) _).trans ((gcpy_ne (by omega)).trans ((congrFun (F4 15 (by omega) (by omega)) _).trans f_15_6))))) okX2_copyFrom kw_5_238 ⟨kw_5_166, kw_5_167⟩ ⟨rfl, rfl⟩ ⟨Nat.le_of_ble_eq_true rfl, Nat.le_of_ble_eq_true rfl⟩ rfl (by omega) (by omega) lay_220 rfl rfl (Nat.le_of_ble_eq_true rfl) ⟨Nat.le_of_ble_eq_true rfl, Nat.le_of_ble_eq_true rfl⟩ rfl rfl dX9_copyFrom_139 rfl (fun M15 P16 => ?_)
  have F17 := P16
  refine g_aload_n (n := 143) X 1 dX9_copyFrom_142 rfl rfl rfl ?_
  refine gg_9_7 (n := 146) (z := 228) X (by omega) (by omega) lay_206 kw_2_120 dX9_copyFrom_143 rfl ((congrFun (F17 206 (by omega) (by omega) (by omega) (by omega) (by omega) (by omega) (by omega) (by omega)) _).trans ((congrFun (F13 206 (by omega) (by omega) (by omega) (by omega) (by omega) (by omega)) _).trans ((congrFun (congrFun e9 _) _).trans ((gcpy_ne (by omega)).trans ((congrFun (F4 206 (by omega) (by omega)) _).trans f_206_7))))) (by omega) ?_
  refine g_aload_n (n := 147) X 2 dX9_copyFrom_146 rfl rfl rfl ?_
  refine gg_9_7 (n := 150) (z := 23) X (by omega) (by omega) lay_1 kw_2_120 dX9_copyFrom_147 rfl ((congrFun (F17 1 (by omega) (by omega) (by omega) (by omega) (by omega) (by omega) (by omega) (by omega)) _).trans ((congrFun (F13 1 (by omega) (by omega) (by omega) (by omega) (by omega) (by omega)) _).trans ((congrFun (congrFun e9 _) _).trans ((gcpy_ne (by omega)).trans ((congrFun (F4 1 (by omega) (by omega)) _).trans f_1_7))))) (by omega) ?_
  refine g_aload_n (n := 151) X 2 dX9_copyFrom_150 rfl rfl rfl ?_
  refine gg_9_15 (n := 154) (z := 0) X (by omega) (by omega) lay_1 kw_2_138 dX9_copyFrom_151 rfl ((congrFun (F17 1 (by omega) (by omega) (by omega) (by omega) (by omega) (by omega) (by omega) (by omega)) _).trans ((congrFun (F13 1 (by omega) (by omega) (by omega) (by omega) (by omega) (by omega)) _).trans ((congrFun (congrFun e9 _) _).trans ((gcpy_ne (by omega)).trans ((congrFun (F4 1 (by omega) (by omega)) _).trans f_1_15))))) ?_
  refine g_callVv (n := 157) (As := [gA n0 23, gJ 0]) (rest := []) (cs1 := 0) (ss1 := 0) X (c_X5_copyFrom 0 (by omega) ((congrFun (F17 228 (by omega) (by omega) (by omega) (by omega) (by omega) (by omega) (by omega) (by omega)) _).trans ((congrFun (F13 228 (by omega) (by omega) (by omega) (by omega) (by omega) (by omega)) _).trans ((congrFun (congrFun e9 _) _).trans ((gcpy_ne (by omega)).trans ((congrFun (F4 228 (by omega) (by omega)) _).trans f_228_0))))) ((congrFun (F17 228 (by omega) (by omega) (by omega) (by omega) (by omega) (by omega) (by omega) (by omega)) _).trans ((congrFun (F13 228 (by omega) (by omega) (by omega) (by omega) (by omega) (by omega)) _).trans ((congrFun (congrFun e9 _) _).trans ((gcpy_ne (by omega)).trans ((congrFun (F4 228 (by omega) (by omega)) _).trans f_228_1))))) ((congrFun (F17 23 (by omega) (by omega) (by omega) (by omega) (by omega) (by omega) (by omega) (by omega)) _).trans ((congrFun (F13 23 (by omega) (by omega) (by omega) (by omega) (by omega) (by omega)) _).trans ((congrFun (congrFun e9 _) _).trans ((gcpy_ne (by omega)).trans ((congrFun (F4 23 (by omega) (by omega)) _).trans f_23_0))))) ((congrFun (F17 23 (by omega) (by omega) (by omega) (by omega) (by omega) (by omega) (by omega) (by omega)) _).trans ((congrFun (F13 23 (by omega) (by omega) (by omega) (by omega) (by omega) (by omega)) _).trans ((congrFun (congrFun e9 _) _).trans ((gcpy_ne (by omega)).trans ((congrFun (F4 23 (by omega) (by omega)) _).trans f_23_1))))) (by omega)) okX5_copyFrom kw_5_239 ⟨kw_6_0, kw_6_1⟩ ⟨rfl, rfl⟩ ⟨Nat.le_of_ble_eq_true rfl, Nat.le_of_ble_eq_true rfl⟩ rfl (by omega) (by omega) lay_228 rfl rfl (Nat.le_of_ble_eq_true rfl) ⟨Nat.le_of_ble_eq_true rfl, Nat.le_of_ble_eq_true rfl⟩ rfl rfl dX9_copyFrom_154 rfl (fun M19 P20 => ?_)
  have F21 := P20
  refine g_aload_n (n := 158) X 1 dX9_copyFrom_157 rfl rfl rfl ?_
  refine gg_9_8 (n := 161) (z := 231) X (by omega) (by omega) lay_206 kw_2_122 dX9_copyFrom_158 rfl ((congrFun (F21 206 (by omega) (by omega)) _).trans ((congrFun (F17 206 (by omega) (by omega) (by omega) (by omega) (by omega) (by omega) (by omega) (by omega)) _).trans ((congrFun (F13 206 (by omega) (by omega) (by omega) (by omega) (by omega) (by omega)) _).trans ((congrFun (congrFun e9 _) _).trans ((gcpy_ne (by omega)).trans ((congrFun (F4 206 (by omega) (by omega)) _).trans f_206_8)))))) (by omega) ?_
  refine g_aload_n (n := 162) X 2 dX9_copyFrom_161 rfl rfl rfl ?_
  refine gg_9_8 (n := 165) (z := 26) X (by omega) (by omega) lay_1 kw_2_122 dX9_copyFrom_162 rfl ((congrFun (F21 1 (by omega) (by omega)) _).trans ((congrFun (F17 1 (by omega) (by omega) (by omega) (by omega) (by omega) (by omega) (by omega) (by omega)) _).trans ((congrFun (F13 1 (by omega) (by omega) (by omega) (by omega) (by omega) (by omega)) _).trans ((congrFun (congrFun e9 _) _).trans ((gcpy_ne (by omega)).trans ((congrFun (F4 1 (by omega) (by omega)) _).trans f_1_8)))))) (by omega) ?_
  refine g_callVv (n := 168) (As := [gA n0 26]) (rest := []) (cs1 := 0) (ss1 := 0) X (c_X10_copyFrom ((congrFun (F21 231 (by omega) (by omega)) _).trans ((congrFun (F17 231 (by omega) (by omega) (by omega) (by omega) (by omega) (by omega) (by omega) (by omega)) _).trans ((congrFun (F13 231 (by omega) (by omega) (by omega) (by omega) (by omega) (by omega)) _).trans ((congrFun (congrFun e9 _) _).trans ((gcpy_ne (by omega)).trans ((congrFun (F4 231 (by omega) (by omega)) _).trans f_231_0)))))) ((congrFun (F21 231 (by omega) (by omega)) _).trans ((congrFun (F17 231 (by omega) (by omega) (by omega) (by omega) (by omega) (by omega) (by omega) (by omega)) _).trans ((congrFun (F13 231 (by omega) (by omega) (by omega) (by omega) (by omega) (by omega)) _).trans ((congrFun (congrFun e9 _) _).trans ((gcpy_ne (by omega)).trans ((congrFun (F4 231 (by omega) (by omega)) _).trans f_231_1)))))) ((congrFun (F21 231 (by omega) (by omega)) _).trans ((congrFun (F17 231 (by omega) (by omega) (by omega) (by omega) (by omega) (by omega) (by omega) (by omega)) _).trans ((congrFun (F13 231 (by omega) (by omega) (by omega) (by omega) (by omega) (by omega)) _).trans ((congrFun (congrFun e9 _) _).trans ((gcpy_ne (by omega)).trans ((congrFun (F4 231 (by omega) (by omega)) _).trans f_231_2)))))) ((congrFun (F21 26 (by omega) (by omega)) _).trans ((congrFun (F17 26 (by omega) (by omega) (by omega) (by omega) (by omega) (by omega) (by omega) (by omega)) _).trans ((congrFun (F13 26 (by omega) (by omega) (by omega) (by omega) (by omega) (by omega)) _).trans ((congrFun (congrFun e9 _) _).trans ((gcpy_ne (by omega)).trans ((congrFun (F4 26 (by omega) (by omega)) _).trans f_26_0)))))) ((congrFun (F21 26 (by omega) (by omega)) _).trans ((congrFun (F17 26 (by omega) (by omega) (by omega) (by omega) (by omega) (by omega) (by omega) (by omega)) _).trans ((congrFun (F13 26 (by omega) (by omega) (by omega) (by omega) (by omega) (by omega)) _).trans ((congrFun (congrFun e9 _) _).trans ((gcpy_ne (by omega)).trans ((congrFun (F4 26 (by omega) (by omega)) _).trans f_26_1)))))) ((congrFun (F21 26 (by omega) (by omega)) _).trans ((congrFun (F17 26 (by omega) (by omega) (by omega) (by omega) (by omega) (by omega) (by omega) (by omega)) _).trans ((congrFun (F13 26 (by omega) (by omega) (by omega) (by omega) (by omega) (by omega)) _).trans ((congrFun (congrFun e9 _) _).trans ((gcpy_ne (by omega)).trans ((congrFun (F4 26 (by omega) (by omega)) _).trans f_26_2))))))) okX10_copyFrom kw_6_4 ⟨kw_6_5, kw_6_6⟩ ⟨rfl, rfl⟩ ⟨Nat.le_of_ble_eq_true rfl, Nat.le_of_ble_eq_true rfl⟩ rfl (by omega) (by omega) lay_231 rfl rfl (Nat.le_of_ble_eq_true rfl) ⟨Nat.le_of_ble_eq_true rfl, Nat.le_of_ble_eq_true rfl⟩ rfl rfl dX9_copyFrom_165 rfl (fun M23 P24 => ?_)
  have F25 := P24
  refine g_aload_n (n := 169) X 2 dX9_copyFrom_168 rfl rfl rfl ?_
  refine gg_9_9 (n := 172) (z := 30) X (by omega) (by omega) lay_1 kw_2_124 dX9_copyFrom_169 rfl ((congrFun (F25 1 (by omega) (by omega) (by omega) (by omega)) _).trans ((congrFun (F21 1 (by omega) (by omega)) _).trans ((congrFun (F17 1 (by omega) (by omega) (by omega) (by omega) (by omega) (by omega) (by omega) (by omega)) _).trans ((congrFun (F13 1 (by omega) (by omega) (by omega) (by omega) (by omega) (by omega)) _).trans ((congrFun (congrFun e9 _) _).trans ((gcpy_ne (by omega)).trans ((congrFun (F4 1 (by omega) (by omega)) _).trans f_1_9))))))) (by omega) ?_
  refine g_iconst (n := 173) X dX9_copyFrom_172 rfl ?_
  refine g_aload_n (n := 174) X 1 dX9_copyFrom_173 rfl rfl rfl ?_
  refine gg_9_9 (n := 177) (z := 235) X (by omega) (by omega) lay_206 kw_2_124 dX9_copyFrom_174 rfl ((congrFun (F25 206 (by omega) (by omega) (by omega) (by omega)) _).trans ((congrFun (F21 206 (by omega) (by omega)) _).trans ((congrFun (F17 206 (by omega) (by omega) (by omega) (by omega) (by omega) (by omega) (by omega) (by omega)) _).trans ((congrFun (F13 206 (by omega) (by omega) (by omega) (by omega) (by omega) (by omega)) _).trans ((congrFun (congrFun e9 _) _).trans ((gcpy_ne (by omega)).trans ((congrFun (F4 206 (by omega) (by omega)) _).trans f_206_9))))))) (by omega) ?_
  refine g_iconst (n := 178) X dX9_copyFrom_177 rfl ?_
  refine g_iconst (n := 179) X dX9_copyFrom_178 rfl ?_
  refine g_acopyI (n := 182) X kw_5_232 kw_3_209 kw_3_208 kw_1_16 (by omega) (by omega) lay_30 (by omega) (by omega) lay_235 (by omega) (by omega) (by omega) (by omega) (Nat.le_of_ble_eq_true rfl) (Nat.le_of_ble_eq_true rfl) dX9_copyFrom_179 rfl ?_
  refine G.nm (fun M26 e27 => ?_)
  refine g_aload_n (n := 183) X 1 dX9_copyFrom_182 rfl rfl rfl ?_
  refine g_aload_n (n := 184) X 2 dX9_copyFrom_183 rfl rfl rfl ?_
  refine gg_9_10 (n := 187) (z := 0) X (by omega) (by omega) lay_1 kw_2_126 dX9_copyFrom_184 rfl ((congrFun (congrFun e27 _) _).trans ((gcpy_ne (by omega)).trans ((congrFun (F25 1 (by omega) (by omega) (by omega) (by omega)) _).trans ((congrFun (F21 1 (by omega) (by omega)) _).trans ((congrFun (F17 1 (by omega) (by omega) (by omega) (by omega) (by omega) (by omega) (by omega) (by omega)) _).trans ((congrFun (F13 1 (by omega) (by omega) (by omega) (by omega) (by omega) (by omega)) _).trans ((congrFun (congrFun e9 _) _).trans ((gcpy_ne (by omega)).trans ((congrFun (F4 1 (by omega) (by omega)) _).trans f_1_10))))))))) ?_
  refine gp_9_10 (n := 190) X (by omega) (by omega) lay_206 kw_2_126 dX9_copyFrom_187 rfl ?_
  refine G.nm (fun M28 e29 => ?_)
  refine g_aload_n (n := 191) X 1 dX9_copyFrom_190 rfl rfl rfl ?_
  refine g_aload_n (n := 192) X 2 dX9_copyFrom_191 rfl rfl rfl ?_
  refine gg_9_11 (n := 195) (z := 0) X (by omega) (by omega) lay_1 kw_2_129 dX9_copyFrom_192 rfl ((congrFun (congrFun e29 _) _).trans ((gset_ne (by omega)).trans ((congrFun (congrFun e27 _) _).trans ((gcpy_ne (by omega)).trans ((congrFun (F25 1 (by omega) (by omega) (by omega) (by omega)) _).trans ((congrFun (F21 1 (by omega) (by omega)) _).trans ((congrFun (F17 1 (by omega) (by omega) (by omega) (by omega) (by omega) (by omega) (by omega) (by omega)) _).trans ((congrFun (F13 1 (by omega) (by omega) (by omega) (by omega) (by omega) (by omega)) _).trans ((congrFun (congrFun e9 _) _).trans ((gcpy_ne (by omega)).trans ((congrFun (F4 1 (by omega) (by omega)) _).trans f_1_11))))))))))) ?_
  refine gp_9_11 (n := 198) X (by omega) (by omega) lay_206 kw_2_129 dX9_copyFrom_195 rfl ?_
  refine G.nm (fun M30 e31 => ?_)
  refine g_aload_n (n := 199) X 1 dX9_copyFrom_198 rfl rfl rfl ?_
  refine g_aload_n (n := 200) X 2 dX9_copyFrom_199 rfl rfl rfl ?_
  refine gg_9_12 (n := 203) (z := 0) X (by omega) (by omega) lay_1 kw_2_132 dX9_copyFrom_200 rfl ((congrFun (congrFun e31 _) _).trans ((gset_ne (by omega)).trans ((congrFun (congrFun e29 _) _).trans ((gset_ne (by omega)).trans ((congrFun (congrFun e27 _) _).trans ((gcpy_ne (by omega)).trans ((congrFun (F25 1 (by omega) (by omega) (by omega) (by omega)) _).trans ((congrFun (F21 1 (by omega) (by omega)) _).trans ((congrFun (F17 1 (by omega) (by omega) (by omega) (by omega) (by omega) (by omega) (by omega) (by omega)) _).trans ((congrFun (F13 1 (by omega) (by omega) (by omega) (by omega) (by omega) (by omega)) _).trans ((congrFun (congrFun e9 _) _).trans ((gcpy_ne (by omega)).trans ((congrFun (F4 1 (by omega) (by omega)) _).trans f_1_12))))))))))))) ?_
  refine gp_9_12 (n := 206) X (by omega) (by omega) lay_206 kw_2_132 dX9_copyFrom_203 rfl ?_
  refine G.nm (fun M32 e33 => ?_)
  refine g_aload_n (n := 207) X 1 dX9_copyFrom_206 rfl rfl rfl ?_
  refine g_aload_n (n := 208) X 2 dX9_copyFrom_207 rfl rfl rfl ?_
  refine gg_9_13 (n := 211) (z := 0) X (by omega) (by omega) lay_1 kw_2_134 dX9_copyFrom_208 rfl ((congrFun (congrFun e33 _) _).trans ((gset_ne (by omega)).trans ((congrFun (congrFun e31 _) _).trans ((gset_ne (by omega)).trans ((congrFun (congrFun e29 _) _).trans ((gset_ne (by omega)).trans ((congrFun (congrFun e27 _) _).trans ((gcpy_ne (by omega)).trans ((congrFun (F25 1 (by omega) (by omega) (by omega) (by omega)) _).trans ((congrFun (F21 1 (by omega) (by omega)) _).trans ((congrFun (F17 1 (by omega) (by omega) (by omega) (by omega) (by omega) (by omega) (by omega) (by omega)) _).trans ((congrFun (F13 1 (by omega) (by omega) (by omega) (by omega) (by omega) (by omega)) _).trans ((congrFun (congrFun e9 _) _).trans ((gcpy_ne (by omega)).trans ((congrFun (F4 1 (by omega) (by omega)) _).trans f_1_13))))))))))))))) ?_
  refine gp_9_13 (n := 214) X (by omega) (by omega) lay_206 kw_2_134 dX9_copyFrom_211 rfl ?_
  refine G.nm (fun M34 e35 => ?_)
  refine g_aload_n (n := 215) X 1 dX9_copyFrom_214 rfl rfl rfl ?_
  refine g_aload_n (n := 216) X 2 dX9_copyFrom_215 rfl rfl rfl ?_
  refine gg_9_14 (n := 219) (z := 0) X (by omega) (by omega) lay_1 kw_2_136 dX9_copyFrom_216 rfl ((congrFun (congrFun e35 _) _).trans ((gset_ne (by omega)).trans ((congrFun (congrFun e33 _) _).trans ((gset_ne (by omega)).trans ((congrFun (congrFun e31 _) _).trans ((gset_ne (by omega)).trans ((congrFun (congrFun e29 _) _).trans ((gset_ne (by omega)).trans ((congrFun (congrFun e27 _) _).trans ((gcpy_ne (by omega)).trans ((congrFun (F25 1 (by omega) (by omega) (by omega) (by omega)) _).trans ((congrFun (F21 1 (by omega) (by omega)) _).trans ((congrFun (F17 1 (by omega) (by omega) (by omega) (by omega) (by omega) (by omega) (by omega) (by omega)) _).trans ((congrFun (F13 1 (by omega) (by omega) (by omega) (by omega) (by omega) (by omega)) _).trans ((congrFun (congrFun e9 _) _).trans ((gcpy_ne (by omega)).trans ((congrFun (F4 1 (by omega) (by omega)) _).trans f_1_14))))))))))))))))) ?_
  refine gp_9_14 (n := 222) X (by omega) (by omega) lay_206 kw_2_136 dX9_copyFrom_219 rfl ?_
  refine G.nm (fun M36 e37 => ?_)
  refine g_aload_n (n := 223) X 1 dX9_copyFrom_222 rfl rfl rfl ?_
  refine g_aload_n (n := 224) X 2 dX9_copyFrom_223 rfl rfl rfl ?_
  refine gg_9_15 (n := 227) (z := 0) X (by omega) (by omega) lay_1 kw_2_138 dX9_copyFrom_224 rfl ((congrFun (congrFun e37 _) _).trans ((gset_ne (by omega)).trans ((congrFun (congrFun e35 _) _).trans ((gset_ne (by omega)).trans ((congrFun (congrFun e33 _) _).trans ((gset_ne (by omega)).trans ((congrFun (congrFun e31 _) _).trans ((gset_ne (by omega)).trans ((congrFun (congrFun e29 _) _).trans ((gset_ne (by omega)).trans ((congrFun (congrFun e27 _) _).trans ((gcpy_ne (by omega)).trans ((congrFun (F25 1 (by omega) (by omega) (by omega) (by omega)) _).trans ((congrFun (F21 1 (by omega) (by omega)) _).trans ((congrFun (F17 1 (by omega) (by omega) (by omega) (by omega) (by omega) (by omega) (by omega) (by omega)) _).trans ((congrFun (F13 1 (by omega) (by omega) (by omega) (by omega) (by omega) (by omega)) _).trans ((congrFun (congrFun e9 _) _).trans ((gcpy_ne (by omega)).trans ((congrFun (F4 1 (by omega) (by omega)) _).trans f_1_15))))))))))))))))))) ?_
  refine gp_9_15 (n := 230) X (by omega) (by omega) lay_206 kw_2_138 dX9_copyFrom_227 rfl ?_
  refine G.nm (fun M38 e39 => ?_)
  exact g_return X hr dX9_copyFrom_230 (by exact (fun a h0 h1 h2 h3 h4 h5 h6 h7 h8 h9 h10 h11 h12 h13 h14 h15 h16 h17 h18 h19 h20 h21 h22 h23 h24 => ((congrFun e39 a).trans ((gset_off a (by omega)).trans ((congrFun e37 a).trans ((gset_off a (by omega)).trans ((congrFun e35 a).trans ((gset_off a (by omega)).trans ((congrFun e33 a).trans ((gset_off a (by omega)).trans ((congrFun e31 a).trans ((gset_off a (by omega)).trans ((congrFun e29 a).trans ((gset_off a (by omega)).trans ((congrFun e27 a).trans ((gcpy_off a (by omega)).trans ((F25 a (by omega) (by omega) (by omega) (by omega)).trans ((F21 a (by omega) (by omega)).trans ((F17 a (by omega) (by omega) (by omega) (by omega) (by omega) (by omega) (by omega) (by omega)).trans ((F13 a (by omega) (by omega) (by omega) (by omega) (by omega) (by omega)).trans ((congrFun e9 a).trans ((gcpy_off a (by omega)).trans ((F4 a (by omega) (by omega)).trans rfl)))))))))))))))))))))))
theorem dX11_image_0 : decode cX11_image 0 = .ok (.aload_n 0, 1) := by decide +kernel
theorem dX11_image_1 : decode cX11_image 1 = .ok (.getfield 416, 3) := by decide +kernel
theorem dX11_image_4 : decode cX11_image 4 = .ok (.ifnonnull 14, 3) := by decide +kernel
theorem dX11_image_7 : decode cX11_image 7 = .ok (.aload_n 0, 1) := by decide +kernel
theorem dX11_image_8 : decode cX11_image 8 = .ok (.new 7, 3) := by decide +kernel
theorem dX11_image_11 : decode cX11_image 11 = .ok (.dup, 1) := by decide +kernel
theorem dX11_image_12 : decode cX11_image 12 = .ok (.invokespecial 9, 3) := by decide +kernel
theorem dX11_image_15 : decode cX11_image 15 = .ok (.putfield 416, 3) := by decide +kernel
theorem dX11_image_18 : decode cX11_image 18 = .ok (.aload_n 0, 1) := by decide +kernel
theorem dX11_image_19 : decode cX11_image 19 = .ok (.getfield 416, 3) := by decide +kernel
theorem dX11_image_22 : decode cX11_image 22 = .ok (.aload_n 0, 1) := by decide +kernel
theorem dX11_image_23 : decode cX11_image 23 = .ok (.getfield 10, 3) := by decide +kernel
theorem dX11_image_26 : decode cX11_image 26 = .ok (.invokevirtual 419, 3) := by decide +kernel
theorem kw_5_212 : (Jvm.Cond.methodLink "ParishUnion" (419 : Nat) ({ cls := "ParishUnion$Union", name := "copyFrom", desc := "(LParishUnion$Union;)V" } : Jvm.MethodName)) ∈ gT := gT_of (tb_5 _ (List.mem_of_getElem? (i := 212) rfl)) rfl
theorem kw_5_215 : (Jvm.Cond.code ({ cls := "ParishUnion$Union", name := "copyFrom", desc := "(LParishUnion$Union;)V" } : Jvm.MethodName) prog_11_method_2_code (3 : Nat) (Option.none : Option Jvm.ClassFile.FieldType)) ∈ gT := gT_of (tb_5 _ (List.mem_of_getElem? (i := 215) rfl)) rfl
theorem okX9_copyFrom : gQok yX9_copyFrom cX9_copyFrom 3 (Option.none : Option Jvm.ClassFile.FieldType) 1 := ⟨kw_5_215, kw_1_2, by decide +kernel, by decide +kernel, by decide +kernel⟩
theorem kw_5_213 : (Jvm.Cond.instanceMethod ({ cls := "ParishUnion$Union", name := "copyFrom", desc := "(LParishUnion$Union;)V" } : Jvm.MethodName)) ∈ gT := gT_of (tb_5 _ (List.mem_of_getElem? (i := 213) rfl)) rfl
theorem kw_5_214 : (Jvm.Cond.selects "ParishUnion$Union" ({ cls := "ParishUnion$Union", name := "copyFrom", desc := "(LParishUnion$Union;)V" } : Jvm.MethodName) ({ cls := "ParishUnion$Union", name := "copyFrom", desc := "(LParishUnion$Union;)V" } : Jvm.MethodName)) ∈ gT := gT_of (tb_5 _ (List.mem_of_getElem? (i := 214) rfl)) rfl
theorem dX11_image_29 : decode cX11_image 29 = .ok (.aload_n 0, 1) := by decide +kernel
theorem dX11_image_30 : decode cX11_image 30 = .ok (.getfield 10, 3) := by decide +kernel
theorem dX11_image_33 : decode cX11_image 33 = .ok (.getfield 85, 3) := by decide +kernel
theorem dX11_image_36 : decode cX11_image 36 = .ok (.ireturn, 1) := by decide +kernel
set_option maxRecDepth 100000 in
set_option maxHeartbeats 4000000 in
theorem c_X11_image {l : Launch} {n0 : Nat} {D : va_G} {cA : Nat → ClassId} {M : gM}  (f_0_0 : M 0 0 = 2) (f_0_9 : M 0 9 = 0) (f_1_0 : M 1 0 = 3) (f_1_1 : M 1 1 = 6) (f_1_2 : M 1 2 = 7) (f_1_3 : M 1 3 = 8) (f_1_4 : M 1 4 = 9) (f_1_5 : M 1 5 = 10) (f_1_6 : M 1 6 = 16) (f_1_7 : M 1 7 = 24) (f_1_8 : M 1 8 = 27) (f_1_9 : M 1 9 = 31) (f_1_10 : M 1 10 = 0) (f_1_11 : M 1 11 = 0) (f_1_12 : M 1 12 = 0) (f_1_13 : M 1 13 = 0) (f_1_14 : M 1 14 = 0) (f_1_15 : M 1 15 = 0) (f_2_0 : M 2 0 = 4) (f_2_1 : M 2 1 = 5) (f_15_0 : M 15 0 = 17) (f_15_1 : M 15 1 = 18) (f_15_2 : M 15 2 = 19) (f_15_3 : M 15 3 = 20) (f_15_4 : M 15 4 = 21) (f_15_5 : M 15 5 = 22) (f_15_6 : M 15 6 = 23) (f_9_0 : M 9 0 = 11) (f_9_1 : M 9 1 = 12) (f_9_2 : M 9 2 = 13) (f_9_3 : M 9 3 = 14) (f_9_4 : M 9 4 = 15) (f_23_0 : M 23 0 = 25) (f_23_1 : M 23 1 = 26) (f_26_0 : M 26 0 = 28) (f_26_1 : M 26 1 = 29) (f_26_2 : M 26 2 = 30) (car0 : ∀ i : Int, 0 ≤ i → i < 20 → M 14 i = 0) (tape0 : ∀ i : Int, 0 ≤ i → i < 150 → M 8 i = 0) : Met l yX11_image (gWsOf yX11_image cX11_image 1 (Option.some Jvm.ClassFile.FieldType.int)) { frames := 7, cells := 152, slots := 10507, locals := 187 } (gPc n0 D cA [gA n0 0] M 206) (gQi n0 D cA 358 (fun z M1 => z = 0 ∧ ∀ a : Int, 190 ≤ a → a < 206 → M1 a = M a)) 152 10507 (fun q => n0 ≤ q) := by
  refine gMet_of [gA n0 0] (by decide) (Nat.le_of_ble_eq_true rfl) ?_
  intro p e s m args below meth cd X hr hm
  have X : gCx p s m args meth cd n0 D cA "ParishUnion" cX11_image 1 := X
  show G p l e ({ frames := 7, cells := 152, slots := 10507, locals := 187 } : Room) s m args below meth cd n0 D cA 1 (MQ below (gQi n0 D cA 358 (fun z M1 => z = 0 ∧ ∀ a : Int, 190 ≤ a → a < 206 → M1 a = M a)) args s 152 10507 (fun q => n0 ≤ q)) 0 0 M 206 0 [(0, gA n0 0)] []
  refine g_aload_n (n := 1) X 0 dX11_image_0 rfl rfl rfl ?_
  refine gn_11_9 (n := 4) X (by omega) (by omega) lay_0 kw_3_0 dX11_image_1 rfl f_0_9 ?_
  refine g_ifnonnullN (n := 7) X dX11_image_4 rfl ?_
  refine g_aload_n (n := 8) X 0 dX11_image_7 rfl rfl rfl ?_
  refine g_new (n := 11) (N := 16) (ci := 9) X tyX9 iX9 tyX9_ok rfl rfl gtyok_9 kw_1_29 kw_1_30 kw_1_2 lay_206 (Nat.le_of_ble_eq_true rfl) (Nat.le_of_ble_eq_true rfl) dX11_image_8 rfl ?_
  refine G.nm (fun M1 e2 => ?_)
  refine g_dup (n := 12) X dX11_image_11 rfl rfl ?_
  refine g_callIv (n := 15) (As := []) (rest := [gA n0 206, gA n0 0]) (cs1 := 152) (ss1 := 10507) X (c_X9_init_206 ((congrFun (congrFun e2 _) _).trans (gnew_eq _ _ _)) ((congrFun (congrFun e2 _) _).trans (gnew_eq _ _ _)) ((congrFun (congrFun e2 _) _).trans (gnew_eq _ _ _)) ((congrFun (congrFun e2 _) _).trans (gnew_eq _ _ _)) ((congrFun (congrFun e2 _) _).trans (gnew_eq _ _ _)) ((congrFun (congrFun e2 _) _).trans (gnew_eq _ _ _))) okX9_init kw_1_31 kw_1_32 rfl ⟨rfl, rfl⟩ ⟨Nat.le_of_ble_eq_true rfl, Nat.le_of_ble_eq_true rfl⟩ rfl rfl (Nat.le_of_ble_eq_true rfl) ⟨Nat.le_of_ble_eq_true rfl, Nat.le_of_ble_eq_true rfl⟩ rfl rfl dX11_image_12 rfl (fun M4 P5 => ?_)
  obtain ⟨g7, g8, g9, g10, g11, g12, g13, g14, g15, g16, g17, g18, g19, g20, g21, g22, g23, g24, g25, g26, g27, g28, g29, g30, g31, g32, g33, g34, g35, g36, g37, g38, g39, g40, g41, g42, g43, g44, g45, g46, g47, g48, g49, g50, g51, g52, g53, rents54, way55, beds56, zr57, zr58, zr59, zr60, zr61, F6⟩ := P5
  refine gp_11_9 (n := 18) X (by omega) (by omega) lay_0 kw_3_0 (by omega) dX11_image_15 rfl ?_
  refine G.nm (fun M62 e63 => ?_)
  refine g_aload_n (n := 19) X 0 dX11_image_18 rfl rfl rfl ?_
  refine gg_11_9 (n := 22) (z := 206) X (by omega) (by omega) lay_0 kw_3_0 dX11_image_19 rfl ((congrFun (congrFun e63 _) _).trans (gset_eq _ _ _ _)) (by omega) ?_
  refine g_aload_n (n := 23) X 0 dX11_image_22 rfl rfl rfl ?_
  refine gg_11_0 (n := 26) (z := 1) X (by omega) (by omega) lay_0 kw_2_231 dX11_image_23 rfl ((congrFun (congrFun e63 _) _).trans ((gset_ne (by omega)).trans ((congrFun (F6 0 (by omega)) _).trans ((congrFun (congrFun e2 _) _).trans ((gnew_ne (by omega)).trans f_0_0))))) (by omega) ?_
  refine g_callVv (n := 29) (As := [gA n0 1]) (rest := []) (cs1 := 152) (ss1 := 10507) X (c_X9_copyFrom ((congrFun (congrFun e63 _) _).trans ((gset_ne (by omega)).trans g7)) ((congrFun (congrFun e63 _) _).trans ((gset_ne (by omega)).trans g8)) ((congrFun (congrFun e63 _) _).trans ((gset_ne (by omega)).trans g9)) ((congrFun (congrFun e63 _) _).trans ((gset_ne (by omega)).trans g10)) ((congrFun (congrFun e63 _) _).trans ((gset_ne (by omega)).trans g11)) ((congrFun (congrFun e63 _) _).trans ((gset_ne (by omega)).trans g12)) ((congrFun (congrFun e63 _) _).trans ((gset_ne (by omega)).trans g13)) ((congrFun (congrFun e63 _) _).trans ((gset_ne (by omega)).trans g14)) ((congrFun (congrFun e63 _) _).trans ((gset_ne (by omega)).trans g15)) ((congrFun (congrFun e63 _) _).trans ((gset_ne (by omega)).trans g16)) ((congrFun (congrFun e63 _) _).trans ((gset_ne (by omega)).trans ((congrFun (F6 1 (by omega)) _).trans ((congrFun (congrFun e2 _) _).trans ((gnew_ne (by omega)).trans f_1_0))))) ((congrFun (congrFun e63 _) _).trans ((gset_ne (by omega)).trans ((congrFun (F6 1 (by omega)) _).trans ((congrFun (congrFun e2 _) _).trans ((gnew_ne (by omega)).trans f_1_1))))) ((congrFun (congrFun e63 _) _).trans ((gset_ne (by omega)).trans ((congrFun (F6 1 (by omega)) _).trans ((congrFun (congrFun e2 _) _).trans ((gnew_ne (by omega)).trans f_1_2))))) ((congrFun (congrFun e63 _) _).trans ((gset_ne (by omega)).trans ((congrFun (F6 1 (by omega)) _).trans ((congrFun (congrFun e2 _) _).trans ((gnew_ne (by omega)).trans f_1_3))))) ((congrFun (congrFun e63 _) _).trans ((gset_ne (by omega)).trans ((congrFun (F6 1 (by omega)) _).trans ((congrFun (congrFun e2 _) _).trans ((gnew_ne (by omega)).trans f_1_4))))) ((congrFun (congrFun e63 _) _).trans ((gset_ne (by omega)).trans ((congrFun (F6 1 (by omega)) _).trans ((congrFun (congrFun e2 _) _).trans ((gnew_ne (by omega)).trans f_1_5))))) ((congrFun (congrFun e63 _) _).trans ((gset_ne (by omega)).trans ((congrFun (F6 1 (by omega)) _).trans ((congrFun (congrFun e2 _) _).trans ((gnew_ne (by omega)).trans f_1_6))))) ((congrFun (congrFun e63 _) _).trans ((gset_ne (by omega)).trans ((congrFun (F6 1 (by omega)) _).trans ((congrFun (congrFun e2 _) _).trans ((gnew_ne (by omega)).trans f_1_7))))) ((congrFun (congrFun e63 _) _).trans ((gset_ne (by omega)).trans ((congrFun (F6 1 (by omega)) _).trans ((congrFun (congrFun e2 _) _).trans ((gnew_ne (by omega)).trans f_1_8))))) ((congrFun (congrFun e63 _) _).trans ((gset_ne (by omega)).trans ((congrFun (F6 1 (by omega)) _).trans ((congrFun (congrFun e2 _) _).trans ((gnew_ne (by omega)).trans f_1_9))))) ((congrFun (congrFun e63 _) _).trans ((gset_ne (by omega)).trans ((congrFun (F6 1 (by omega)) _).trans ((congrFun (congrFun e2 _) _).trans ((gnew_ne (by omega)).trans f_1_10))))) ((congrFun (congrFun e63 _) _).trans ((gset_ne (by omega)).trans ((congrFun (F6 1 (by omega)) _).trans ((congrFun (congrFun e2 _) _).trans ((gnew_ne (by omega)).trans f_1_11))))) ((congrFun (congrFun e63 _) _).trans ((gset_ne (by omega)).trans ((congrFun (F6 1 (by omega)) _).trans ((congrFun (congrFun e2 _) _).trans ((gnew_ne (by omega)).trans f_1_12))))) ((congrFun (congrFun e63 _) _).trans ((gset_ne (by omega)).trans ((congrFun (F6 1 (by omega)) _).trans ((congrFun (congrFun e2 _) _).trans ((gnew_ne (by omega)).trans f_1_13))))) ((congrFun (congrFun e63 _) _).trans ((gset_ne (by omega)).trans ((congrFun (F6 1 (by omega)) _).trans ((congrFun (congrFun e2 _) _).trans ((gnew_ne (by omega)).trans f_1_14))))) ((congrFun (congrFun e63 _) _).trans ((gset_ne (by omega)).trans ((congrFun (F6 1 (by omega)) _).trans ((congrFun (congrFun e2 _) _).trans ((gnew_ne (by omega)).trans f_1_15))))) ((congrFun (congrFun e63 _) _).trans ((gset_ne (by omega)).trans g30)) ((congrFun (congrFun e63 _) _).trans ((gset_ne (by omega)).trans g31)) ((congrFun (congrFun e63 _) _).trans ((gset_ne (by omega)).trans ((congrFun (F6 2 (by omega)) _).trans ((congrFun (congrFun e2 _) _).trans ((gnew_ne (by omega)).trans f_2_0))))) ((congrFun (congrFun e63 _) _).trans ((gset_ne (by omega)).trans ((congrFun (F6 2 (by omega)) _).trans ((congrFun (congrFun e2 _) _).trans ((gnew_ne (by omega)).trans f_2_1))))) ((congrFun (congrFun e63 _) _).trans ((gset_ne (by omega)).trans g38)) ((congrFun (congrFun e63 _) _).trans ((gset_ne (by omega)).trans g39)) ((congrFun (congrFun e63 _) _).trans ((gset_ne (by omega)).trans g40)) ((congrFun (congrFun e63 _) _).trans ((gset_ne (by omega)).trans g41)) ((congrFun (congrFun e63 _) _).trans ((gset_ne (by omega)).trans g42)) ((congrFun (congrFun e63 _) _).trans ((gset_ne (by omega)).trans g43)) ((congrFun (congrFun e63 _) _).trans ((gset_ne (by omega)).trans g44)) ((congrFun (congrFun e63 _) _).trans ((gset_ne (by omega)).trans ((congrFun (F6 15 (by omega)) _).trans ((congrFun (congrFun e2 _) _).trans ((gnew_ne (by omega)).trans f_15_0))))) ((congrFun (congrFun e63 _) _).trans ((gset_ne (by omega)).trans ((congrFun (F6 15 (by omega)) _).trans ((congrFun (congrFun e2 _) _).trans ((gnew_ne (by omega)).trans f_15_1))))) ((congrFun (congrFun e63 _) _).trans ((gset_ne (by omega)).trans ((congrFun (F6 15 (by omega)) _).trans ((congrFun (congrFun e2 _) _).trans ((gnew_ne (by omega)).trans f_15_2))))) ((congrFun (congrFun e63 _) _).trans ((gset_ne (by omega)).trans ((congrFun (F6 15 (by omega)) _).trans ((congrFun (congrFun e2 _) _).trans ((gnew_ne (by omega)).trans f_15_3))))) ((congrFun (congrFun e63 _) _).trans ((gset_ne (by omega)).trans ((congrFun (F6 15 (by omega)) _).trans ((congrFun (congrFun e2 _) _).trans ((gnew_ne (by omega)).trans f_15_4))))) ((congrFun (congrFun e63 _) _).trans ((gset_ne (by omega)).trans ((congrFun (F6 15 (by omega)) _).trans ((congrFun (congrFun e2 _) _).trans ((gnew_ne (by omega)).trans f_15_5))))) ((congrFun (congrFun e63 _) _).trans ((gset_ne (by omega)).trans ((congrFun (F6 15 (by omega)) _).trans ((congrFun (congrFun e2 _) _).trans ((gnew_ne (by omega)).trans f_15_6))))) ((congrFun (congrFun e63 _) _).trans ((gset_ne (by omega)).trans g32)) ((congrFun (congrFun e63 _) _).trans ((gset_ne (by omega)).trans g33)) ((congrFun (congrFun e63 _) _).trans ((gset_ne (by omega)).trans g34)) ((congrFun (congrFun e63 _) _).trans ((gset_ne (by omega)).trans g35)) ((congrFun (congrFun e63 _) _).trans ((gset_ne (by omega)).trans g36)) ((congrFun (congrFun e63 _) _).trans ((gset_ne (by omega)).trans ((congrFun (F6 9 (by omega)) _).trans ((congrFun (congrFun e2 _) _).trans ((gnew_ne (by omega)).trans f_9_0))))) ((congrFun (congrFun e63 _) _).trans ((gset_ne (by omega)).trans ((congrFun (F6 9 (by omega)) _).trans ((congrFun (congrFun e2 _) _).trans ((gnew_ne (by omega)).trans f_9_1))))) ((congrFun (congrFun e63 _) _).trans ((gset_ne (by omega)).trans ((congrFun (F6 9 (by omega)) _).trans ((congrFun (congrFun e2 _) _).trans ((gnew_ne (by omega)).trans f_9_2))))) ((congrFun (congrFun e63 _) _).trans ((gset_ne (by omega)).trans ((congrFun (F6 9 (by omega)) _).trans ((congrFun (congrFun e2 _) _).trans ((gnew_ne (by omega)).trans f_9_3))))) ((congrFun (congrFun e63 _) _).trans ((gset_ne (by omega)).trans ((congrFun (F6 9 (by omega)) _).trans ((congrFun (congrFun e2 _) _).trans ((gnew_ne (by omega)).trans f_9_4))))) ((congrFun (congrFun e63 _) _).trans ((gset_ne (by omega)).trans g48)) ((congrFun (congrFun e63 _) _).trans ((gset_ne (by omega)).trans g49)) ((congrFun (congrFun e63 _) _).trans ((gset_ne (by omega)).trans ((congrFun (F6 23 (by omega)) _).trans ((congrFun (congrFun e2 _) _).trans ((gnew_ne (by omega)).trans f_23_0))))) ((congrFun (congrFun e63 _) _).trans ((gset_ne (by omega)).trans ((congrFun (F6 23 (by omega)) _).trans ((congrFun (congrFun e2 _) _).trans ((gnew_ne (by omega)).trans f_23_1))))) ((congrFun (congrFun e63 _) _).trans ((gset_ne (by omega)).trans g50)) ((congrFun (congrFun e63 _) _).trans ((gset_ne (by omega)).trans g51)) ((congrFun (congrFun e63 _) _).trans ((gset_ne (by omega)).trans g52)) ((congrFun (congrFun e63 _) _).trans ((gset_ne (by omega)).trans ((congrFun (F6 26 (by omega)) _).trans ((congrFun (congrFun e2 _) _).trans ((gnew_ne (by omega)).trans f_26_0))))) ((congrFun (congrFun e63 _) _).trans ((gset_ne (by omega)).trans ((congrFun (F6 26 (by omega)) _).trans ((congrFun (congrFun e2 _) _).trans ((gnew_ne (by omega)).trans f_26_1))))) ((congrFun (congrFun e63 _) _).trans ((gset_ne (by omega)).trans ((congrFun (F6 26 (by omega)) _).trans ((congrFun (congrFun e2 _) _).trans ((gnew_ne (by omega)).trans f_26_2))))) (fun i h0 h1 => (congrFun ((congrFun e63 _).trans ((gset_off _ (by omega)).trans ((F6 14 (by omega)).trans ((congrFun e2 _).trans ((gnew_off _ (by omega)).trans rfl))))) i).trans (car0 i h0 h1)) (fun i h0 h1 => (congrFun ((congrFun e63 _).trans ((gset_off _ (by omega)).trans ((F6 8 (by omega)).trans ((congrFun e2 _).trans ((gnew_off _ (by omega)).trans rfl))))) i).trans (tape0 i h0 h1))) okX9_copyFrom kw_5_212 ⟨kw_5_213, kw_5_214⟩ ⟨rfl, rfl⟩ ⟨Nat.le_of_ble_eq_true rfl, Nat.le_of_ble_eq_true rfl⟩ rfl (by omega) (by omega) lay_206 rfl rfl (Nat.le_of_ble_eq_true rfl) ⟨Nat.le_of_ble_eq_true rfl, Nat.le_of_ble_eq_true rfl⟩ rfl rfl dX11_image_26 rfl (fun M65 P66 => ?_)
  have F67 := P66
  refine g_aload_n (n := 30) X 0 dX11_image_29 rfl rfl rfl ?_
  refine gg_11_0 (n := 33) (z := 1) X (by omega) (by omega) lay_0 kw_2_231 dX11_image_30 rfl ((congrFun (F67 0 (by omega) (by omega) (by omega) (by omega) (by omega) (by omega) (by omega) (by omega) (by omega) (by omega) (by omega) (by omega) (by omega) (by omega) (by omega) (by omega) (by omega) (by omega) (by omega) (by omega) (by omega) (by omega) (by omega) (by omega) (by omega)) _).trans ((congrFun (congrFun e63 _) _).trans ((gset_ne (by omega)).trans ((congrFun (F6 0 (by omega)) _).trans ((congrFun (congrFun e2 _) _).trans ((gnew_ne (by omega)).trans f_0_0)))))) (by omega) ?_
  refine gg_9_15 (n := 36) (z := 0) X (by omega) (by omega) lay_1 kw_2_139 dX11_image_33 rfl ((congrFun (F67 1 (by omega) (by omega) (by omega) (by omega) (by omega) (by omega) (by omega) (by omega) (by omega) (by omega) (by omega) (by omega) (by omega) (by omega) (by omega) (by omega) (by omega) (by omega) (by omega) (by omega) (by omega) (by omega) (by omega) (by omega) (by omega)) _).trans ((congrFun (congrFun e63 _) _).trans ((gset_ne (by omega)).trans ((congrFun (F6 1 (by omega)) _).trans ((congrFun (congrFun e2 _) _).trans ((gnew_ne (by omega)).trans f_1_15)))))) ?_
  exact g_ireturn X hr dX11_image_36 (by exact ⟨by omega, fun a h0 h1 => ((F67 a (by omega) (by omega) (by omega) (by omega) (by omega) (by omega) (by omega) (by omega) (by omega) (by omega) (by omega) (by omega) (by omega) (by omega) (by omega) (by omega) (by omega) (by omega) (by omega) (by omega) (by omega) (by omega) (by omega) (by omega) (by omega)).trans ((congrFun e63 a).trans ((gset_off a (by omega)).trans ((F6 a (by omega)).trans ((congrFun e2 a).trans ((gnew_off a (by omega)).trans rfl))))))⟩)
