section GN
variable {p : Program} {l : Launch} {e : Env} {R : Room} {s : State} {m : MethodId} {args : Array Value} {below : List Frame} {meth : Method} {c : Code} {n0 : Nat} {D : va_G} {cA : Nat → ClassId} {nL : Nat} {Q : State → Prop} {M : gM} {pc : Nat} {L : List (Nat × Value)} {st : List Value}
theorem G.nat {c1 c2 s1 s2 z1 z2 : Nat} (h1 : c1 = c2) (h2 : s1 = s2) (h3 : z1 = z2) (kk : G p l e R s m args below meth c n0 D cA nL Q c2 s2 M z2 pc L st) : G p l e R s m args below meth c n0 D cA nL Q c1 s1 M z1 pc L st := by
  subst h1; subst h2; subst h3; exact kk
end GN
theorem lay_Pn (n : Nat) (h : n < 16) : glay ((31 + 1 * n : Nat) : Int) = (0, 6) := by
  have h1 := lay_P (i := (n : Int)) (by omega) (by omega)
  rw [show ((31 + 1 * n : Nat) : Int) = 31 + (n : Int) by omega]
  exact h1
theorem lay_Rn (n : Nat) (h : n < 40) : glay ((47 + 1 * n : Nat) : Int) = (0, 8) := by
  have h1 := lay_R (i := (n : Int)) (by omega) (by omega)
  rw [show ((47 + 1 * n : Nat) : Int) = 47 + (n : Int) by omega]
  exact h1
theorem lay_A0n (n : Nat) (h : n < 11) : glay ((87 + 6 * n : Nat) : Int) = (0, 0) := by
  have h1 := lay_A0 (i := (n : Int)) (by omega) (by omega)
  rw [show ((87 + 6 * n : Nat) : Int) = 87 + 6 * (n : Int) by omega]
  exact h1
theorem lay_A1n (n : Nat) (h : n < 11) : glay ((87 + 6 * n + 1 : Nat) : Int) = (3, 150) := by
  have h1 := lay_A1 (i := (n : Int)) (by omega) (by omega)
  rw [show ((87 + 6 * n + 1 : Nat) : Int) = 88 + 6 * (n : Int) by omega]
  exact h1
theorem lay_A2n (n : Nat) (h : n < 11) : glay ((87 + 6 * n + 1 + 1 : Nat) : Int) = (1, 10) := by
  have h1 := lay_A2 (i := (n : Int)) (by omega) (by omega)
  rw [show ((87 + 6 * n + 1 + 1 : Nat) : Int) = 89 + 6 * (n : Int) by omega]
  exact h1
theorem lay_A3n (n : Nat) (h : n < 11) : glay ((87 + 6 * n + 1 + 1 + 1 : Nat) : Int) = (1, 8) := by
  have h1 := lay_A3 (i := (n : Int)) (by omega) (by omega)
  rw [show ((87 + 6 * n + 1 + 1 + 1 : Nat) : Int) = 90 + 6 * (n : Int) by omega]
  exact h1
theorem lay_A4n (n : Nat) (h : n < 11) : glay ((87 + 6 * n + 1 + 1 + 1 + 1 : Nat) : Int) = (1, 8) := by
  have h1 := lay_A4 (i := (n : Int)) (by omega) (by omega)
  rw [show ((87 + 6 * n + 1 + 1 + 1 + 1 : Nat) : Int) = 91 + 6 * (n : Int) by omega]
  exact h1
theorem lay_A5n (n : Nat) (h : n < 11) : glay ((87 + 6 * n + 1 + 1 + 1 + 1 + 1 : Nat) : Int) = (1, 8) := by
  have h1 := lay_A5 (i := (n : Int)) (by omega) (by omega)
  rw [show ((87 + 6 * n + 1 + 1 + 1 + 1 + 1 : Nat) : Int) = 92 + 6 * (n : Int) by omega]
  exact h1
theorem layk_Pn (n : Nat) (h : n < 16) : glay ((236 + 1 * n : Nat) : Int) = (0, 6) := by
  have h1 := layk_P (i := (n : Int)) (by omega) (by omega)
  rw [show ((236 + 1 * n : Nat) : Int) = 236 + (n : Int) by omega]
  exact h1
theorem layk_Rn (n : Nat) (h : n < 40) : glay ((252 + 1 * n : Nat) : Int) = (0, 8) := by
  have h1 := layk_R (i := (n : Int)) (by omega) (by omega)
  rw [show ((252 + 1 * n : Nat) : Int) = 252 + (n : Int) by omega]
  exact h1
theorem layk_A0n (n : Nat) (h : n < 11) : glay ((292 + 6 * n : Nat) : Int) = (0, 0) := by
  have h1 := layk_A0 (i := (n : Int)) (by omega) (by omega)
  rw [show ((292 + 6 * n : Nat) : Int) = 292 + 6 * (n : Int) by omega]
  exact h1
theorem layk_A1n (n : Nat) (h : n < 11) : glay ((292 + 6 * n + 1 : Nat) : Int) = (3, 150) := by
  have h1 := layk_A1 (i := (n : Int)) (by omega) (by omega)
  rw [show ((292 + 6 * n + 1 : Nat) : Int) = 293 + 6 * (n : Int) by omega]
  exact h1
theorem layk_A2n (n : Nat) (h : n < 11) : glay ((292 + 6 * n + 1 + 1 : Nat) : Int) = (1, 10) := by
  have h1 := layk_A2 (i := (n : Int)) (by omega) (by omega)
  rw [show ((292 + 6 * n + 1 + 1 : Nat) : Int) = 294 + 6 * (n : Int) by omega]
  exact h1
theorem layk_A3n (n : Nat) (h : n < 11) : glay ((292 + 6 * n + 1 + 1 + 1 : Nat) : Int) = (1, 8) := by
  have h1 := layk_A3 (i := (n : Int)) (by omega) (by omega)
  rw [show ((292 + 6 * n + 1 + 1 + 1 : Nat) : Int) = 295 + 6 * (n : Int) by omega]
  exact h1
theorem layk_A4n (n : Nat) (h : n < 11) : glay ((292 + 6 * n + 1 + 1 + 1 + 1 : Nat) : Int) = (1, 8) := by
  have h1 := layk_A4 (i := (n : Int)) (by omega) (by omega)
  rw [show ((292 + 6 * n + 1 + 1 + 1 + 1 : Nat) : Int) = 296 + 6 * (n : Int) by omega]
  exact h1
theorem layk_A5n (n : Nat) (h : n < 11) : glay ((292 + 6 * n + 1 + 1 + 1 + 1 + 1 : Nat) : Int) = (1, 8) := by
  have h1 := layk_A5 (i := (n : Int)) (by omega) (by omega)
  rw [show ((292 + 6 * n + 1 + 1 + 1 + 1 + 1 : Nat) : Int) = 297 + 6 * (n : Int) by omega]
  exact h1
theorem lay_Qn (n : Nat) (h : n < 16) : glay ((174 + 1 * n : Nat) : Int) = (0, 6) := by
  have h1 := lay_Q (i := (n : Int)) (by omega) (by omega)
  rw [show ((174 + 1 * n : Nat) : Int) = 174 + (n : Int) by omega]
  exact h1
theorem kw_1_174 : (Jvm.Cond.methodLink "ParishUnion$Person" (3 : Nat) ({ cls := "java/lang/Object", name := "<init>", desc := "()V" } : Jvm.MethodName)) ∈ gT := gT_of (tb_1 _ (List.mem_of_getElem? (i := 174) rfl)) rfl
theorem dX6_init_0 : decode cX6_init 0 = .ok (.aload_n 0, 1) := dc_42 (by decide +kernel)
theorem dX6_init_1 : decode cX6_init 1 = .ok (.invokespecial 3, 3) := dc_183 0 3 (by decide +kernel)
theorem dX6_init_4 : decode cX6_init 4 = .ok (.return_, 1) := dc_177 (by decide +kernel)
theorem c_X6_init {l : Launch} {n0 : Nat} {D : va_G} {cA : Nat → ClassId} {M : gM} {sz : Nat} (o : Int) : Met l yX6_init (gWsOf yX6_init cX6_init 1 none) { frames := 4, cells := 0, slots := 0, locals := 120 } (gPc n0 D cA [gA n0 o] M sz) (gQv n0 D cA sz (fun M1 => M = M1)) 0 0 (fun q => n0 ≤ q) := by
  refine gMet_of [gA n0 o] (by decide) (Nat.le_of_ble_eq_true rfl) ?_
  intro p e s m args below meth cd X hr hm
  have X : gCx p s m args meth cd n0 D cA "ParishUnion$Person" cX6_init 1 := X
  refine g_aload_n (n := 1) X 0 dX6_init_0 rfl rfl rfl ?_
  refine g_objInit (n := 4) X kw_1_174 kw_1_27 kw_1_28 rfl dX6_init_1 (Nat.le_of_ble_eq_true rfl) (Nat.le_of_ble_eq_true rfl) rfl ?_
  exact g_return X hr dX6_init_4 (by exact rfl)
theorem kw_2_23 : (Jvm.Cond.methodLink "ParishUnion$Right" (3 : Nat) ({ cls := "java/lang/Object", name := "<init>", desc := "()V" } : Jvm.MethodName)) ∈ gT := gT_of (tb_2 _ (List.mem_of_getElem? (i := 23) rfl)) rfl
theorem dX8_init_0 : decode cX8_init 0 = .ok (.aload_n 0, 1) := dc_42 (by decide +kernel)
theorem dX8_init_1 : decode cX8_init 1 = .ok (.invokespecial 3, 3) := dc_183 0 3 (by decide +kernel)
theorem dX8_init_4 : decode cX8_init 4 = .ok (.return_, 1) := dc_177 (by decide +kernel)
theorem c_X8_init {l : Launch} {n0 : Nat} {D : va_G} {cA : Nat → ClassId} {M : gM} {sz : Nat} (o : Int) : Met l yX8_init (gWsOf yX8_init cX8_init 1 none) { frames := 4, cells := 0, slots := 0, locals := 120 } (gPc n0 D cA [gA n0 o] M sz) (gQv n0 D cA sz (fun M1 => M = M1)) 0 0 (fun q => n0 ≤ q) := by
  refine gMet_of [gA n0 o] (by decide) (Nat.le_of_ble_eq_true rfl) ?_
  intro p e s m args below meth cd X hr hm
  have X : gCx p s m args meth cd n0 D cA "ParishUnion$Right" cX8_init 1 := X
  refine g_aload_n (n := 1) X 0 dX8_init_0 rfl rfl rfl ?_
  refine g_objInit (n := 4) X kw_2_23 kw_1_27 kw_1_28 rfl dX8_init_1 (Nat.le_of_ble_eq_true rfl) (Nat.le_of_ble_eq_true rfl) rfl ?_
  exact g_return X hr dX8_init_4 (by exact rfl)
theorem kw_2_70 : (Jvm.Cond.methodLink "ParishUnion$Act" (3 : Nat) ({ cls := "java/lang/Object", name := "<init>", desc := "()V" } : Jvm.MethodName)) ∈ gT := gT_of (tb_2 _ (List.mem_of_getElem? (i := 70) rfl)) rfl
theorem dX0_init_0 : decode cX0_init 0 = .ok (.aload_n 0, 1) := dc_42 (by decide +kernel)
theorem dX0_init_1 : decode cX0_init 1 = .ok (.invokespecial 3, 3) := dc_183 0 3 (by decide +kernel)
theorem dX0_init_4 : decode cX0_init 4 = .ok (.aload_n 0, 1) := dc_42 (by decide +kernel)
theorem dX0_init_5 : decode cX0_init 5 = .ok (.sipush 150, 3) := dc_17 0 150 150 (by decide +kernel)
theorem dX0_init_8 : decode cX0_init 8 = .ok (.newarray .byte, 2) := by decide +kernel
theorem dX0_init_10 : decode cX0_init 10 = .ok (.putfield 9, 3) := dc_181 0 9 (by decide +kernel)
theorem dX0_init_13 : decode cX0_init 13 = .ok (.aload_n 0, 1) := dc_42 (by decide +kernel)
theorem dX0_init_14 : decode cX0_init 14 = .ok (.bipush 10, 2) := dc_16 10 10 (by decide +kernel)
theorem dX0_init_16 : decode cX0_init 16 = .ok (.newarray .int, 2) := by decide +kernel
theorem dX0_init_18 : decode cX0_init 18 = .ok (.putfield 15, 3) := dc_181 0 15 (by decide +kernel)
theorem dX0_init_21 : decode cX0_init 21 = .ok (.aload_n 0, 1) := dc_42 (by decide +kernel)
theorem dX0_init_22 : decode cX0_init 22 = .ok (.bipush 8, 2) := dc_16 8 8 (by decide +kernel)
theorem dX0_init_24 : decode cX0_init 24 = .ok (.newarray .int, 2) := by decide +kernel
theorem dX0_init_26 : decode cX0_init 26 = .ok (.putfield 19, 3) := dc_181 0 19 (by decide +kernel)
theorem dX0_init_29 : decode cX0_init 29 = .ok (.aload_n 0, 1) := dc_42 (by decide +kernel)
theorem dX0_init_30 : decode cX0_init 30 = .ok (.bipush 8, 2) := dc_16 8 8 (by decide +kernel)
theorem dX0_init_32 : decode cX0_init 32 = .ok (.newarray .int, 2) := by decide +kernel
theorem dX0_init_34 : decode cX0_init 34 = .ok (.putfield 22, 3) := dc_181 0 22 (by decide +kernel)
theorem dX0_init_37 : decode cX0_init 37 = .ok (.aload_n 0, 1) := dc_42 (by decide +kernel)
theorem dX0_init_38 : decode cX0_init 38 = .ok (.bipush 8, 2) := dc_16 8 8 (by decide +kernel)
theorem dX0_init_40 : decode cX0_init 40 = .ok (.newarray .int, 2) := by decide +kernel
theorem dX0_init_42 : decode cX0_init 42 = .ok (.putfield 25, 3) := dc_181 0 25 (by decide +kernel)
theorem dX0_init_45 : decode cX0_init 45 = .ok (.return_, 1) := dc_177 (by decide +kernel)
set_option maxHeartbeats 4000000 in
theorem c_X0_init {l : Launch} {n0 : Nat} {D : va_G} {cA : Nat → ClassId} {M : gM} {sz : Nat} (o : Int) (ho : 0 ≤ o) (hos : o < (sz : Int)) (hlo : glay o = (0, 0)) (h0 : glay ((sz : Nat) : Int) = (3, 150)) (h1 : glay ((sz + 1 : Nat) : Int) = (1, 10)) (h2 : glay ((sz + 1 + 1 : Nat) : Int) = (1, 8)) (h3 : glay ((sz + 1 + 1 + 1 : Nat) : Int) = (1, 8)) (h4 : glay ((sz + 1 + 1 + 1 + 1 : Nat) : Int) = (1, 8)) (hz : gAz 358 o) (hs1 : (sz : Int) = o + 1) {zb : Int} (ZM : gZ zb M) : Met l yX0_init (gWsOf yX0_init cX0_init 1 none) { frames := 4, cells := 5, slots := 184, locals := 120 } (gPc n0 D cA [gA n0 o] M sz) (gQv n0 D cA (sz + 1 + 1 + 1 + 1 + 1) (fun M1 => gZ zb M1 ∧ M1 o 0 = ((sz : Nat) : Int) + 1 ∧ M1 o 1 = ((sz + 1 : Nat) : Int) + 1 ∧ M1 o 2 = ((sz + 1 + 1 : Nat) : Int) + 1 ∧ M1 o 3 = ((sz + 1 + 1 + 1 : Nat) : Int) + 1 ∧ M1 o 4 = ((sz + 1 + 1 + 1 + 1 : Nat) : Int) + 1 ∧ ∀ a : Int, a ≠ o → a < (sz : Int) → M1 a = M a)) 5 184 (fun q => n0 ≤ q) := by
  refine gMet_of [gA n0 o] (by decide) (Nat.le_of_ble_eq_true rfl) ?_
  intro p e s m args below meth cd X hr hm
  have X : gCx p s m args meth cd n0 D cA "ParishUnion$Act" cX0_init 1 := X
  refine g_aload_n (n := 1) X 0 dX0_init_0 rfl rfl rfl ?_
  refine g_objInit (n := 4) X kw_2_70 kw_1_27 kw_1_28 rfl dX0_init_1 (Nat.le_of_ble_eq_true rfl) (Nat.le_of_ble_eq_true rfl) rfl ?_
  refine g_aload_n (n := 5) X 0 dX0_init_4 rfl rfl rfl ?_
  refine g_sipush (n := 8) X dX0_init_5 (by decide +kernel) rfl ?_
  refine g_newB (n := 10) (N := 150) X (by omega) (by omega) kw_1_87 h0 (Nat.le_of_ble_eq_true rfl) (Nat.le_of_ble_eq_true rfl) dX0_init_8 rfl ?_
  refine G.nm (fun A0 a0 => ?_)
  have ZA0 : gZ zb A0 := gZ.new ZM a0
  refine gp_0_0 (n := 13) X ho (by omega) hlo kw_2_71 (by omega) hm rfl dX0_init_10 rfl ?_
  refine G.nm (fun B0 b0 => ?_)
  have ZB0 : gZ zb B0 := gZ.set ZA0 (gRAz_0 hz) (by omega) b0
  refine g_aload_n (n := 14) X 0 dX0_init_13 rfl rfl rfl ?_
  refine g_bipush (n := 16) X dX0_init_14 (by decide +kernel) rfl ?_
  refine g_newI (n := 18) (N := 10) X (by omega) (by omega) kw_1_49 h1 (Nat.le_of_ble_eq_true rfl) (Nat.le_of_ble_eq_true rfl) dX0_init_16 rfl ?_
  refine G.nm (fun A1 a1 => ?_)
  have ZA1 : gZ zb A1 := gZ.new ZB0 a1
  refine gp_0_1 (n := 21) X ho (by omega) hlo kw_2_73 (by omega) hm rfl dX0_init_18 rfl ?_
  refine G.nm (fun B1 b1 => ?_)
  have ZB1 : gZ zb B1 := gZ.set ZA1 (gRAz_1 hz) (by omega) b1
  refine g_aload_n (n := 22) X 0 dX0_init_21 rfl rfl rfl ?_
  refine g_bipush (n := 24) X dX0_init_22 (by decide +kernel) rfl ?_
  refine g_newI (n := 26) (N := 8) X (by omega) (by omega) kw_1_49 h2 (Nat.le_of_ble_eq_true rfl) (Nat.le_of_ble_eq_true rfl) dX0_init_24 rfl ?_
  refine G.nm (fun A2 a2 => ?_)
  have ZA2 : gZ zb A2 := gZ.new ZB1 a2
  refine gp_0_2 (n := 29) X ho (by omega) hlo kw_2_75 (by omega) hm rfl dX0_init_26 rfl ?_
  refine G.nm (fun B2 b2 => ?_)
  have ZB2 : gZ zb B2 := gZ.set ZA2 (gRAz_2 hz) (by omega) b2
  refine g_aload_n (n := 30) X 0 dX0_init_29 rfl rfl rfl ?_
  refine g_bipush (n := 32) X dX0_init_30 (by decide +kernel) rfl ?_
  refine g_newI (n := 34) (N := 8) X (by omega) (by omega) kw_1_49 h3 (Nat.le_of_ble_eq_true rfl) (Nat.le_of_ble_eq_true rfl) dX0_init_32 rfl ?_
  refine G.nm (fun A3 a3 => ?_)
  have ZA3 : gZ zb A3 := gZ.new ZB2 a3
  refine gp_0_3 (n := 37) X ho (by omega) hlo kw_2_77 (by omega) hm rfl dX0_init_34 rfl ?_
  refine G.nm (fun B3 b3 => ?_)
  have ZB3 : gZ zb B3 := gZ.set ZA3 (gRAz_3 hz) (by omega) b3
  refine g_aload_n (n := 38) X 0 dX0_init_37 rfl rfl rfl ?_
  refine g_bipush (n := 40) X dX0_init_38 (by decide +kernel) rfl ?_
  refine g_newI (n := 42) (N := 8) X (by omega) (by omega) kw_1_49 h4 (Nat.le_of_ble_eq_true rfl) (Nat.le_of_ble_eq_true rfl) dX0_init_40 rfl ?_
  refine G.nm (fun A4 a4 => ?_)
  have ZA4 : gZ zb A4 := gZ.new ZB3 a4
  refine gp_0_4 (n := 45) X ho (by omega) hlo kw_2_79 (by omega) hm rfl dX0_init_42 rfl ?_
  refine G.nm (fun B4 b4 => ?_)
  have ZB4 : gZ zb B4 := gZ.set ZA4 (gRAz_4 hz) (by omega) b4
  exact g_return X hr dX0_init_45 (by exact ⟨ZB4, ((congrFun (congrFun b4 _) _).trans ((gset_ne (by omega)).trans ((congrFun (congrFun a4 _) _).trans ((gnew_ne (by omega)).trans ((congrFun (congrFun b3 _) _).trans ((gset_ne (by omega)).trans ((congrFun (congrFun a3 _) _).trans ((gnew_ne (by omega)).trans ((congrFun (congrFun b2 _) _).trans ((gset_ne (by omega)).trans ((congrFun (congrFun a2 _) _).trans ((gnew_ne (by omega)).trans ((congrFun (congrFun b1 _) _).trans ((gset_ne (by omega)).trans ((congrFun (congrFun a1 _) _).trans ((gnew_ne (by omega)).trans ((congrFun (congrFun b0 _) _).trans (gset_eq _ _ _ _)))))))))))))))))), ((congrFun (congrFun b4 _) _).trans ((gset_ne (by omega)).trans ((congrFun (congrFun a4 _) _).trans ((gnew_ne (by omega)).trans ((congrFun (congrFun b3 _) _).trans ((gset_ne (by omega)).trans ((congrFun (congrFun a3 _) _).trans ((gnew_ne (by omega)).trans ((congrFun (congrFun b2 _) _).trans ((gset_ne (by omega)).trans ((congrFun (congrFun a2 _) _).trans ((gnew_ne (by omega)).trans ((congrFun (congrFun b1 _) _).trans (gset_eq _ _ _ _)))))))))))))), ((congrFun (congrFun b4 _) _).trans ((gset_ne (by omega)).trans ((congrFun (congrFun a4 _) _).trans ((gnew_ne (by omega)).trans ((congrFun (congrFun b3 _) _).trans ((gset_ne (by omega)).trans ((congrFun (congrFun a3 _) _).trans ((gnew_ne (by omega)).trans ((congrFun (congrFun b2 _) _).trans (gset_eq _ _ _ _)))))))))), ((congrFun (congrFun b4 _) _).trans ((gset_ne (by omega)).trans ((congrFun (congrFun a4 _) _).trans ((gnew_ne (by omega)).trans ((congrFun (congrFun b3 _) _).trans (gset_eq _ _ _ _)))))), ((congrFun (congrFun b4 _) _).trans (gset_eq _ _ _ _)), fun a q0 q1 => ((congrFun b4 a).trans ((gset_off a (by omega)).trans ((congrFun a4 a).trans ((gnew_off a (by omega)).trans ((congrFun b3 a).trans ((gset_off a (by omega)).trans ((congrFun a3 a).trans ((gnew_off a (by omega)).trans ((congrFun b2 a).trans ((gset_off a (by omega)).trans ((congrFun a2 a).trans ((gnew_off a (by omega)).trans ((congrFun b1 a).trans ((gset_off a (by omega)).trans ((congrFun a1 a).trans ((gnew_off a (by omega)).trans ((congrFun b0 a).trans ((gset_off a (by omega)).trans ((congrFun a0 a).trans ((gnew_off a (by omega)).trans rfl))))))))))))))))))))⟩)
