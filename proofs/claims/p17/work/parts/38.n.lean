abbrev R_e_X9_actInForce : Room := { frames := 0, cells := 0, slots := 0, locals := 0 }
set_option maxRecDepth 100000 in
set_option maxHeartbeats 4000000 in
theorem e_X9_actInForce {l : Launch} {n0 : Nat} {D : va_G} {cA : Nat → ClassId} {M : gM} (a : Int) (r_a : 0 ≤ a ∧ a ≤ 9) (b : Int) (r_b : 0 ≤ b ∧ b ≤ 300) {sz : Nat} (hsz : 206 ≤ sz) (I : gI sz M) (C : gC sz M)   : Met l yX9_actInForce (gWsOf yX9_actInForce cX9_actInForce 6 (Option.some Jvm.ClassFile.FieldType.int)) R_e_X9_actInForce (gPc n0 D cA [gA n0 1, gJ a, gJ b] M sz) (gQi n0 D cA sz (fun z M1 => M = M1 ∧ (-1 ≤ z ∧ z ≤ 10) ∧ (z = gAf (gWx M) (gHx M a) b (M 1 13).toNat ∧ (z = -1 ∨ (0 ≤ z ∧ z < M 1 13))))) 0 0 (fun q => n0 ≤ q) := by
  refine gMetI [gA n0 1, gJ a, gJ b] (by decide) (Nat.le_of_ble_eq_true rfl) ⟨rfl, rfl⟩ ?_
  intro p e s m args below meth cd Q X hq
  have X : gCx p s m args meth cd n0 D cA "ParishUnion$Union" cX9_actInForce 6 := X
  show G p l e R_e_X9_actInForce s m args below meth cd n0 D cA 6 Q 0 0 M sz 0 [(0, gA n0 1), (1, gJ a), (2, gJ b)] []
  obtain ⟨v1, hv1, rv1⟩ := gRd I (by decide) (gsz hsz (by decide)) rc_1_13.1
  refine g_iconst (n := 1) X dX9_actInForce_0 rfl ?_
  refine g_istore_n (n := 2) (L' := [(3, gJ (-1)), (0, gA n0 1), (1, gJ a), (2, gJ b)]) X dX9_actInForce_1 rfl (by decide) rfl rfl ?_
  refine g_iconst (n := 3) X dX9_actInForce_2 rfl ?_
  refine g_istore (n := 5) (L' := [(4, gJ 0), (3, gJ (-1)), (0, gA n0 1), (1, gJ a), (2, gJ b)]) X dX9_actInForce_3 (by decide) rfl rfl ?_
  have j5 : ∀ (N19 : Nat) (v2 v3 : Int) , (-1 ≤ v2 ∧ v2 ≤ 10) → (0 ≤ v3 ∧ v3 ≤ 11) → (v2 = gAf (gWx M) (gHx M a) b v3.toNat ∧ (v2 = -1 ∨ (0 ≤ v2 ∧ v2 < v3))) → (v3 ≤ v1) → (11 - v3).toNat < N19 → G p l e R_e_X9_actInForce s m args below meth cd n0 D cA 6 Q 0 0 M sz 5 [(0, gA n0 1), (1, gJ a), (2, gJ b), (3, gJ v2), (4, gJ v3)] [] := by
    intro N19; induction N19 with
    | zero => intro v2 v3 rv2 rv3 hB hI hm21; exfalso; omega
    | succ N19 ih20 =>
      intro v2 v3 rv2 rv3 hB hI hm21
      refine g_iload (n := 7) X 4 dX9_actInForce_5 rfl rfl ?_
      refine g_aload_n (n := 8) X 0 dX9_actInForce_7 rfl rfl rfl ?_
      refine gg_9_13 (n := 11) (z := v1) X (by decide) (gsz hsz (by decide)) lay_1 kw_2_134 dX9_actInForce_8 rfl hv1 ?_
      refine g_icmp_ge (n := 14) (tgt := 92) X dX9_actInForce_11 (by decide) (by omega) (by omega) rfl (fun c22 => ?_) (fun c22 => ?_)
      · refine g_iload_n (n := 93) X 3 dX9_actInForce_92 rfl rfl rfl ?_
        exact hq _ _ _ _ dX9_actInForce_93 ⟨rfl, by omega, (by rw [hv1]; rw [show v1.toNat = v3.toNat by omega]; exact ⟨hB.1, by omega⟩)⟩
      · refine g_aload_n (n := 15) X 0 dX9_actInForce_14 rfl rfl rfl ?_
        refine gg_9_3 (n := 18) (z := 7) X (by decide) (gsz hsz (by decide)) lay_1 kw_2_112 dX9_actInForce_15 rfl (rf_1_3 I (gsz hsz (by decide))) (by decide) ?_
        refine g_iload (n := 20) X 4 dX9_actInForce_18 rfl rfl ?_
        obtain ⟨o23, ho23, ro23⟩ : ∃ o : Int, o = 87 + 6 * v3 ∧ (87 ≤ o ∧ o ≤ 147 ∧ (o - 87) % 6 = 0) := ⟨_, rfl, by omega⟩
        refine g_aald5 (n := 21) (t := o23) X (by decide) (gsz hsz (by decide)) lay_7 (by omega) (by omega) (by decide) (gA7 I hsz (by omega) (by omega) (by omega)) (by omega) dX9_actInForce_20 rfl ?_
        obtain ⟨v24, hv24, rv24⟩ := gRd I (Ao0 ro23) (Aosz hsz ro23) (rA_6 ro23).1
        refine gg_0_6 (n := 24) (z := v24) X (Ao0 ro23) (Aosz hsz ro23) (lay2_A ro23) kw_2_84 dX9_actInForce_21 rfl hv24 ?_
        refine g_iload_n (n := 25) X 2 dX9_actInForce_24 rfl rfl rfl ?_
        refine g_icmp_gt (n := 28) (tgt := 48) X dX9_actInForce_25 (by decide) (by omega) (by omega) rfl (fun c25 => ?_) (fun c25 => ?_)
        · refine g_iconst (n := 49) X dX9_actInForce_48 rfl ?_
          refine g_istore (n := 51) (L' := [(5, gJ 0), (0, gA n0 1), (1, gJ a), (2, gJ b), (3, gJ v2), (4, gJ v3)]) X dX9_actInForce_49 (by decide) rfl rfl ?_
          refine g_iload (n := 53) X 0 dX9_actInForce_51 rfl rfl ?_
          refine g_if_eq (n := 56) (tgt := 86) X dX9_actInForce_53 (by decide) (by omega) rfl (fun c26 => ?_) (fun c26 => by exfalso; omega)
          refine g_iinc (n := 89) (w := v3 + 1) (L' := [(4, gJ (v3 + 1)), (5, gJ 0), (0, gA n0 1), (1, gJ a), (2, gJ b), (3, gJ v2)]) X 5 dX9_actInForce_86 rfl rfl (by decide) rfl rfl ?_
          refine g_goto (tgt := 5) X dX9_actInForce_89 (by decide) ?_
          refine G.sub (L' := [(0, gA n0 1), (1, gJ a), (2, gJ b), (3, gJ v2), (4, gJ (v3 + 1))]) [2, 3, 4, 5, 0] rfl ?_
          exact ih20 v2 (v3 + 1) (by omega) (by omega) (by have gw : gWx M v3 = v24 := (by show M (87 + 6 * v3) 6 = _; rw [← ho23]; exact hv24); refine ⟨?_, by omega⟩; rw [show (v3 + 1).toNat = v3.toNat + 1 by omega]; unfold gAf; rw [show ((v3.toNat : Nat) : Int) = v3 by omega, ← hB.1]; first | (rw [if_pos ⟨by omega, by omega, by omega⟩]) | (rw [if_neg (by rintro ⟨q1, q2, q3⟩; omega)])) (by omega) (by omega)
        · refine g_aload_n (n := 29) X 0 dX9_actInForce_28 rfl rfl rfl ?_
          refine gg_9_3 (n := 32) (z := 7) X (by decide) (gsz hsz (by decide)) lay_1 kw_2_112 dX9_actInForce_29 rfl (rf_1_3 I (gsz hsz (by decide))) (by decide) ?_
          refine g_iload (n := 34) X 4 dX9_actInForce_32 rfl rfl ?_
          refine g_aald5 (n := 35) (t := o23) X (by decide) (gsz hsz (by decide)) lay_7 (by omega) (by omega) (by decide) (gA7 I hsz (by omega) (by omega) (by omega)) (by omega) dX9_actInForce_34 rfl ?_
          refine gg_0_1 (n := 38) (z := o23 + 2) X (Ao0 ro23) (Aosz hsz ro23) (lay2_A ro23) kw_2_74 dX9_actInForce_35 rfl (rfA_1 I hsz ro23) (by omega) ?_
          refine g_iload_n (n := 39) X 1 dX9_actInForce_38 rfl rfl rfl ?_
          obtain ⟨v27, hv27, rv27⟩ := gRd I (A2o0 ro23) (A2osz hsz ro23) (rAA_2 ro23 a).1
          refine g_iald2 (n := 40) (v := v27) X (A2o0 ro23) (A2osz hsz ro23) (lay2_A2 ro23) (by omega) (by omega) (by decide) dX9_actInForce_39 rfl hv27 ?_
          refine g_iconst (n := 41) X dX9_actInForce_40 rfl ?_
          refine g_icmp_eq (n := 44) (tgt := 48) X dX9_actInForce_41 (by decide) (by omega) (by omega) rfl (fun c28 => ?_) (fun c28 => ?_)
          · refine g_iconst (n := 49) X dX9_actInForce_48 rfl ?_
            refine g_istore (n := 51) (L' := [(5, gJ 0), (0, gA n0 1), (1, gJ a), (2, gJ b), (3, gJ v2), (4, gJ v3)]) X dX9_actInForce_49 (by decide) rfl rfl ?_
            refine g_iload (n := 53) X 0 dX9_actInForce_51 rfl rfl ?_
            refine g_if_eq (n := 56) (tgt := 86) X dX9_actInForce_53 (by decide) (by omega) rfl (fun c29 => ?_) (fun c29 => by exfalso; omega)
            refine g_iinc (n := 89) (w := v3 + 1) (L' := [(4, gJ (v3 + 1)), (5, gJ 0), (0, gA n0 1), (1, gJ a), (2, gJ b), (3, gJ v2)]) X 5 dX9_actInForce_86 rfl rfl (by decide) rfl rfl ?_
            refine g_goto (tgt := 5) X dX9_actInForce_89 (by decide) ?_
            refine G.sub (L' := [(0, gA n0 1), (1, gJ a), (2, gJ b), (3, gJ v2), (4, gJ (v3 + 1))]) [2, 3, 4, 5, 0] rfl ?_
            exact ih20 v2 (v3 + 1) (by omega) (by omega) (by have gw : gWx M v3 = v24 := (by show M (87 + 6 * v3) 6 = _; rw [← ho23]; exact hv24); have gs : gHx M a v3 = v27 := (by show M (87 + 6 * v3 + 2) a = _; rw [← ho23]; exact hv27); refine ⟨?_, by omega⟩; rw [show (v3 + 1).toNat = v3.toNat + 1 by omega]; unfold gAf; rw [show ((v3.toNat : Nat) : Int) = v3 by omega, ← hB.1]; first | (rw [if_pos ⟨by omega, by omega, by omega⟩]) | (rw [if_neg (by rintro ⟨q1, q2, q3⟩; omega)])) (by omega) (by omega)
          · refine g_iconst (n := 45) X dX9_actInForce_44 rfl ?_
            refine g_goto (tgt := 49) X dX9_actInForce_45 (by decide) ?_
            refine g_istore (n := 51) (L' := [(5, gJ 1), (0, gA n0 1), (1, gJ a), (2, gJ b), (3, gJ v2), (4, gJ v3)]) X dX9_actInForce_49 (by decide) rfl rfl ?_
            refine g_iload (n := 53) X 0 dX9_actInForce_51 rfl rfl ?_
            refine g_if_eq (n := 56) (tgt := 86) X dX9_actInForce_53 (by decide) (by omega) rfl (fun c30 => by exfalso; omega) (fun c30 => ?_)
            refine g_iload_n (n := 57) X 4 dX9_actInForce_56 rfl rfl rfl ?_
            refine g_iconst (n := 58) X dX9_actInForce_57 rfl ?_
            refine g_icmp_eq (n := 61) (tgt := 83) X dX9_actInForce_58 (by decide) (by omega) (by omega) rfl (fun c31 => ?_) (fun c31 => ?_)
            · refine g_iload (n := 85) X 5 dX9_actInForce_83 rfl rfl ?_
              refine g_istore_n (n := 86) (L' := [(3, gJ v3), (5, gJ 1), (0, gA n0 1), (1, gJ a), (2, gJ b), (4, gJ v3)]) X dX9_actInForce_85 rfl (by decide) rfl rfl ?_
              refine g_iinc (n := 89) (w := v3 + 1) (L' := [(4, gJ (v3 + 1)), (3, gJ v3), (5, gJ 1), (0, gA n0 1), (1, gJ a), (2, gJ b)]) X 5 dX9_actInForce_86 rfl rfl (by decide) rfl rfl ?_
              refine g_goto (tgt := 5) X dX9_actInForce_89 (by decide) ?_
              refine G.sub (L' := [(0, gA n0 1), (1, gJ a), (2, gJ b), (3, gJ v3), (4, gJ (v3 + 1))]) [3, 4, 5, 1, 0] rfl ?_
              exact ih20 v3 (v3 + 1) (by omega) (by omega) (by have gw : gWx M v3 = v24 := (by show M (87 + 6 * v3) 6 = _; rw [← ho23]; exact hv24); have gs : gHx M a v3 = v27 := (by show M (87 + 6 * v3 + 2) a = _; rw [← ho23]; exact hv27); refine ⟨?_, by omega⟩; rw [show (v3 + 1).toNat = v3.toNat + 1 by omega]; unfold gAf; rw [show ((v3.toNat : Nat) : Int) = v3 by omega, ← hB.1]; first | (rw [if_pos ⟨by omega, by omega, by omega⟩]) | (rw [if_neg (by rintro ⟨q1, q2, q3⟩; omega)])) (by omega) (by omega)
            · refine g_aload_n (n := 62) X 1 dX9_actInForce_61 rfl rfl rfl ?_
              refine gg_9_3 (n := 65) (z := 7) X (by decide) (gsz hsz (by decide)) lay_1 kw_2_112 dX9_actInForce_62 rfl (rf_1_3 I (gsz hsz (by decide))) (by decide) ?_
              refine g_iload (n := 67) X 5 dX9_actInForce_65 rfl rfl ?_
              refine g_aald5 (n := 68) (t := o23) X (by decide) (gsz hsz (by decide)) lay_7 (by omega) (by omega) (by decide) (gA7 I hsz (by omega) (by omega) (by omega)) (by omega) dX9_actInForce_67 rfl ?_
              refine gg_0_6 (n := 71) (z := v24) X (Ao0 ro23) (Aosz hsz ro23) (lay2_A ro23) kw_2_84 dX9_actInForce_68 rfl hv24 ?_
              refine g_aload_n (n := 72) X 1 dX9_actInForce_71 rfl rfl rfl ?_
              refine gg_9_3 (n := 75) (z := 7) X (by decide) (gsz hsz (by decide)) lay_1 kw_2_112 dX9_actInForce_72 rfl (rf_1_3 I (gsz hsz (by decide))) (by decide) ?_
              refine g_iload_n (n := 76) X 4 dX9_actInForce_75 rfl rfl rfl ?_
              obtain ⟨o32, ho32, ro32⟩ : ∃ o : Int, o = 87 + 6 * v2 ∧ (87 ≤ o ∧ o ≤ 147 ∧ (o - 87) % 6 = 0) := ⟨_, rfl, by omega⟩
              refine g_aald5 (n := 77) (t := o32) X (by decide) (gsz hsz (by decide)) lay_7 (by omega) (by omega) (by decide) (gA7 I hsz (by omega) (by omega) (by omega)) (by omega) dX9_actInForce_76 rfl ?_
              obtain ⟨v33, hv33, rv33⟩ := gRd I (Ao0 ro32) (Aosz hsz ro32) (rA_6 ro32).1
              refine gg_0_6 (n := 80) (z := v33) X (Ao0 ro32) (Aosz hsz ro32) (lay2_A ro32) kw_2_84 dX9_actInForce_77 rfl hv33 ?_
              refine g_icmp_lt (n := 83) (tgt := 86) X dX9_actInForce_80 (by decide) (by omega) (by omega) rfl (fun c34 => ?_) (fun c34 => ?_)
              · refine g_iinc (n := 89) (w := v3 + 1) (L' := [(4, gJ (v3 + 1)), (5, gJ 1), (0, gA n0 1), (1, gJ a), (2, gJ b), (3, gJ v2)]) X 5 dX9_actInForce_86 rfl rfl (by decide) rfl rfl ?_
                refine g_goto (tgt := 5) X dX9_actInForce_89 (by decide) ?_
                refine G.sub (L' := [(0, gA n0 1), (1, gJ a), (2, gJ b), (3, gJ v2), (4, gJ (v3 + 1))]) [2, 3, 4, 5, 0] rfl ?_
                exact ih20 v2 (v3 + 1) (by omega) (by omega) (by have gw : gWx M v3 = v24 := (by show M (87 + 6 * v3) 6 = _; rw [← ho23]; exact hv24); have gs : gHx M a v3 = v27 := (by show M (87 + 6 * v3 + 2) a = _; rw [← ho23]; exact hv27); have gb : gWx M v2 = v33 := (by show M (87 + 6 * v2) 6 = _; rw [← ho32]; exact hv33); refine ⟨?_, by omega⟩; rw [show (v3 + 1).toNat = v3.toNat + 1 by omega]; unfold gAf; rw [show ((v3.toNat : Nat) : Int) = v3 by omega, ← hB.1]; first | (rw [if_pos ⟨by omega, by omega, by omega⟩]) | (rw [if_neg (by rintro ⟨q1, q2, q3⟩; omega)])) (by omega) (by omega)
              · refine g_iload (n := 85) X 5 dX9_actInForce_83 rfl rfl ?_
                refine g_istore_n (n := 86) (L' := [(3, gJ v3), (5, gJ 1), (0, gA n0 1), (1, gJ a), (2, gJ b), (4, gJ v3)]) X dX9_actInForce_85 rfl (by decide) rfl rfl ?_
                refine g_iinc (n := 89) (w := v3 + 1) (L' := [(4, gJ (v3 + 1)), (3, gJ v3), (5, gJ 1), (0, gA n0 1), (1, gJ a), (2, gJ b)]) X 5 dX9_actInForce_86 rfl rfl (by decide) rfl rfl ?_
                refine g_goto (tgt := 5) X dX9_actInForce_89 (by decide) ?_
                refine G.sub (L' := [(0, gA n0 1), (1, gJ a), (2, gJ b), (3, gJ v3), (4, gJ (v3 + 1))]) [3, 4, 5, 1, 0] rfl ?_
                exact ih20 v3 (v3 + 1) (by omega) (by omega) (by have gw : gWx M v3 = v24 := (by show M (87 + 6 * v3) 6 = _; rw [← ho23]; exact hv24); have gs : gHx M a v3 = v27 := (by show M (87 + 6 * v3 + 2) a = _; rw [← ho23]; exact hv27); have gb : gWx M v2 = v33 := (by show M (87 + 6 * v2) 6 = _; rw [← ho32]; exact hv33); refine ⟨?_, by omega⟩; rw [show (v3 + 1).toNat = v3.toNat + 1 by omega]; unfold gAf; rw [show ((v3.toNat : Nat) : Int) = v3 by omega, ← hB.1]; first | (rw [if_pos ⟨by omega, by omega, by omega⟩]) | (rw [if_neg (by rintro ⟨q1, q2, q3⟩; omega)])) (by omega) (by omega)
  refine G.sub (L' := [(0, gA n0 1), (1, gJ a), (2, gJ b), (3, gJ (-1)), (4, gJ 0)]) [2, 3, 4, 1, 0] rfl ?_
  exact j5 _ (-1) 0 (by omega) (by omega) ⟨rfl, Or.inl rfl⟩ (by omega) (Nat.lt_succ_self _)
abbrev R_e_X9_law : Room := { frames := 1, cells := 0, slots := 0, locals := 25 }
set_option maxRecDepth 100000 in
set_option maxHeartbeats 4000000 in
theorem e_X9_law {l : Launch} {n0 : Nat} {D : va_G} {cA : Nat → ClassId} {M : gM} (a : Int) (r_a : 0 ≤ a ∧ a ≤ 9) (b : Int) (r_b : 0 ≤ b ∧ b ≤ 300) {sz : Nat} (hsz : 206 ≤ sz) (I : gI sz M) (C : gC sz M)   : Met l yX9_law (gWsOf yX9_law cX9_law 4 (Option.some Jvm.ClassFile.FieldType.int)) R_e_X9_law (gPc n0 D cA [gA n0 1, gJ a, gJ b] M sz) (gQi n0 D cA sz (fun z M1 => M = M1 ∧ (-2147483648 ≤ z ∧ z ≤ 2147483647) ∧ (z = gFx M b a))) 0 0 (fun q => n0 ≤ q) := by
  refine gMetI [gA n0 1, gJ a, gJ b] (by decide) (Nat.le_of_ble_eq_true rfl) ⟨rfl, rfl⟩ ?_
  intro p e s m args below meth cd Q X hq
  have X : gCx p s m args meth cd n0 D cA "ParishUnion$Union" cX9_law 4 := X
  show G p l e R_e_X9_law s m args below meth cd n0 D cA 4 Q 0 0 M sz 0 [(0, gA n0 1), (1, gJ a), (2, gJ b)] []
  refine g_aload_n (n := 1) X 0 dX9_law_0 rfl rfl rfl ?_
  refine g_iload_n (n := 2) X 1 dX9_law_1 rfl rfl rfl ?_
  refine g_iload_n (n := 3) X 2 dX9_law_2 rfl rfl rfl ?_
  refine g_callVi (n := 6) (As := [gJ a, gJ b]) (rest := []) (cs1 := 0) (ss1 := 0) X (e_X9_actInForce a (by omega) b (by omega) hsz I C ) okX9_actInForce kw_3_141 ⟨kw_3_142, kw_3_143⟩ ⟨rfl, rfl⟩ ⟨Nat.le_of_ble_eq_true rfl, Nat.le_of_ble_eq_true rfl⟩ rfl (by decide) (gsz hsz (by decide)) lay_1 rfl rfl (Nat.le_of_ble_eq_true rfl) ⟨Nat.le_of_ble_eq_true rfl, Nat.le_of_ble_eq_true rfl⟩ rfl rfl dX9_law_3 rfl (fun v1 M2 P3 => ?_)
  obtain ⟨rfl, rv1, xv1⟩ := P3
  refine g_istore_n (n := 7) (L' := [(3, gJ v1), (0, gA n0 1), (1, gJ a), (2, gJ b)]) X dX9_law_6 rfl (by decide) rfl rfl ?_
  refine g_iload_n (n := 8) X 0 dX9_law_7 rfl rfl rfl ?_
  refine g_iconst (n := 9) X dX9_law_8 rfl ?_
  refine g_icmp_ne (n := 12) (tgt := 20) X dX9_law_9 (by decide) (by omega) (by omega) rfl (fun c4 => ?_) (fun c4 => ?_)
  · refine g_aload_n (n := 21) X 1 dX9_law_20 rfl rfl rfl ?_
    refine gg_9_3 (n := 24) (z := 7) X (by decide) (gsz hsz (by decide)) lay_1 kw_2_112 dX9_law_21 rfl (rf_1_3 I (gsz hsz (by decide))) (by decide) ?_
    refine g_iload_n (n := 25) X 0 dX9_law_24 rfl rfl rfl ?_
    obtain ⟨o5, ho5, ro5⟩ : ∃ o : Int, o = 87 + 6 * v1 ∧ (87 ≤ o ∧ o ≤ 147 ∧ (o - 87) % 6 = 0) := ⟨_, rfl, by omega⟩
    refine g_aald5 (n := 26) (t := o5) X (by decide) (gsz hsz (by decide)) lay_7 (by omega) (by omega) (by decide) (gA7 I hsz (by omega) (by omega) (by omega)) (by omega) dX9_law_25 rfl ?_
    refine gg_0_1 (n := 29) (z := o5 + 2) X (Ao0 ro5) (Aosz hsz ro5) (lay2_A ro5) kw_2_74 dX9_law_26 rfl (rfA_1 I hsz ro5) (by omega) ?_
    refine g_iload_n (n := 30) X 2 dX9_law_29 rfl rfl rfl ?_
    obtain ⟨v6, hv6, rv6⟩ := gRd I (A2o0 ro5) (A2osz hsz ro5) (rAA_2 ro5 a).1
    refine g_iald2 (n := 31) (v := v6) X (A2o0 ro5) (A2osz hsz ro5) (lay2_A2 ro5) (by omega) (by omega) (by decide) dX9_law_30 rfl hv6 ?_
    exact hq _ _ _ _ dX9_law_31 ⟨rfl, by omega, (by have y := xv1; unfold gFx; rw [← y.1, if_neg (by omega)]; show _ = M (87 + 6 * v1 + 2) a; rw [← ho5]; exact (hv6).symm)⟩
  · refine g_getsWA (n := 15) (host := "ParishUnion") X (by decide +kernel) rfl dX9_law_12 rfl (fun b7 hb7 => ?_)
    refine g_iload_n (n := 16) X 2 dX9_law_15 rfl rfl rfl ?_
    obtain ⟨y8, hy8, ry8, ky8⟩ := gWA_of2 (i := a) (by omega) (by omega)
    refine g_oldld (n := 17) (z := y8) X hb7 (by omega) (by omega) (by omega) dX9_law_16 rfl hy8 ?_
    refine g_goto (tgt := 31) X dX9_law_17 (by decide) ?_
    exact hq _ _ _ _ dX9_law_31 ⟨rfl, by omega, (by have y := xv1; unfold gFx; rw [← y.1, if_pos (by omega)]; exact gWo_of hy8 ry8)⟩
abbrev R_e_X11_force : Room := { frames := 2, cells := 0, slots := 0, locals := 48 }
set_option maxRecDepth 100000 in
set_option maxHeartbeats 4000000 in
theorem e_X11_force {l : Launch} {n0 : Nat} {D : va_G} {cA : Nat → ClassId} {M : gM} (a : Int) (r_a : -2147483648 ≤ a ∧ a ≤ 2147483647) (b : Int) (r_b : -2147483648 ≤ b ∧ b ≤ 2147483647) {sz : Nat} (hsz : 206 ≤ sz) (I : gI sz M) (C : gC sz M)   : Met l yX11_force (gWsOf yX11_force cX11_force 3 (Option.some Jvm.ClassFile.FieldType.int)) R_e_X11_force (gPc n0 D cA [gA n0 0, gJ a, gJ b] M sz) (gQi n0 D cA sz (fun z M1 => M = M1 ∧ (-2147483648 ≤ z ∧ z ≤ 2147483647) ∧ ((¬ (0 ≤ b ∧ b ≤ 19) ∧ z = -1) ∨ ((0 ≤ b ∧ b ≤ 19) ∧ ¬ (0 ≤ a ∧ a ≤ 300) ∧ z = -2) ∨ ((0 ≤ b ∧ b ≤ 9) ∧ (0 ≤ a ∧ a ≤ 300) ∧ z = gFx M a b) ∨ ((10 ≤ b ∧ b ≤ 19) ∧ (0 ≤ a ∧ a ≤ 300) ∧ z = gAf (gWx M) (gHx M (b - 10)) a (M 1 13).toNat)))) 0 0 (fun q => n0 ≤ q) := by
  refine gMetI [gA n0 0, gJ a, gJ b] (by decide) (Nat.le_of_ble_eq_true rfl) ⟨rfl, rfl⟩ ?_
  intro p e s m args below meth cd Q X hq
  have X : gCx p s m args meth cd n0 D cA "ParishUnion" cX11_force 3 := X
  show G p l e R_e_X11_force s m args below meth cd n0 D cA 3 Q 0 0 M sz 0 [(0, gA n0 0), (1, gJ a), (2, gJ b)] []
  refine g_iload_n (n := 1) X 2 dX11_force_0 rfl rfl rfl ?_
  refine g_iconst (n := 2) X dX11_force_1 rfl ?_
  refine g_bipush (n := 4) X dX11_force_2 (by decide +kernel) rfl ?_
  refine g_callSi (n := 7) (As := [gJ b, gJ 0, gJ 19]) (rest := []) (cs1 := 0) (ss1 := 0) X (s_X11_within b (by omega) 0 (by omega) 19 (by omega) hsz I C ) okX11_within kw_3_29 kw_3_30 ⟨rfl, rfl⟩ ⟨Nat.le_of_ble_eq_true rfl, Nat.le_of_ble_eq_true rfl⟩ rfl rfl (Nat.le_of_ble_eq_true rfl) ⟨Nat.le_of_ble_eq_true rfl, Nat.le_of_ble_eq_true rfl⟩ rfl rfl dX11_force_4 rfl (fun v1 M2 P3 => ?_)
  obtain ⟨rfl, rv1, xv1⟩ := P3
  refine g_if_ne (n := 10) (tgt := 12) X dX11_force_7 (by decide) (by omega) rfl (fun c4 => ?_) (fun c4 => ?_)
  · refine g_iload_n (n := 13) X 1 dX11_force_12 rfl rfl rfl ?_
    refine g_iconst (n := 14) X dX11_force_13 rfl ?_
    refine g_sipush (n := 17) X dX11_force_14 (by decide +kernel) rfl ?_
    refine g_callSi (n := 20) (As := [gJ a, gJ 0, gJ 300]) (rest := []) (cs1 := 0) (ss1 := 0) X (s_X11_within a (by omega) 0 (by omega) 300 (by omega) hsz I C ) okX11_within kw_3_29 kw_3_30 ⟨rfl, rfl⟩ ⟨Nat.le_of_ble_eq_true rfl, Nat.le_of_ble_eq_true rfl⟩ rfl rfl (Nat.le_of_ble_eq_true rfl) ⟨Nat.le_of_ble_eq_true rfl, Nat.le_of_ble_eq_true rfl⟩ rfl rfl dX11_force_17 rfl (fun v5 M6 P7 => ?_)
    obtain ⟨rfl, rv5, xv5⟩ := P7
    refine g_if_ne (n := 23) (tgt := 26) X dX11_force_20 (by decide) (by omega) rfl (fun c8 => ?_) (fun c8 => ?_)
    · refine g_iload_n (n := 27) X 2 dX11_force_26 rfl rfl rfl ?_
      refine g_bipush (n := 29) X dX11_force_27 (by decide +kernel) rfl ?_
      refine g_icmp_ge (n := 32) (tgt := 44) X dX11_force_29 (by decide) (by omega) (by omega) rfl (fun c9 => ?_) (fun c9 => ?_)
      · refine g_aload_n (n := 45) X 0 dX11_force_44 rfl rfl rfl ?_
        refine gg_11_0 (n := 48) (z := 1) X (by decide) (gsz hsz (by decide)) lay_0 kw_2_231 dX11_force_45 rfl (rf_0_0 I (gsz hsz (by decide))) (by decide) ?_
        refine g_iload_n (n := 49) X 2 dX11_force_48 rfl rfl rfl ?_
        refine g_bipush (n := 51) X dX11_force_49 (by decide +kernel) rfl ?_
        refine g_isub (n := 52) (z := b - 10) X dX11_force_51 (by omega) rfl ?_
        refine g_iload_n (n := 53) X 1 dX11_force_52 rfl rfl rfl ?_
        refine g_callVi (n := 56) (As := [gJ (b - 10), gJ a]) (rest := []) (cs1 := 0) (ss1 := 0) X (e_X9_actInForce (b - 10) (by omega) a (by omega) hsz I C ) okX9_actInForce kw_4_92 ⟨kw_3_142, kw_3_143⟩ ⟨rfl, rfl⟩ ⟨Nat.le_of_ble_eq_true rfl, Nat.le_of_ble_eq_true rfl⟩ rfl (by decide) (gsz hsz (by decide)) lay_1 rfl rfl (Nat.le_of_ble_eq_true rfl) ⟨Nat.le_of_ble_eq_true rfl, Nat.le_of_ble_eq_true rfl⟩ rfl rfl dX11_force_53 rfl (fun v10 M11 P12 => ?_)
        obtain ⟨rfl, rv10, xv10⟩ := P12
        exact hq _ _ _ _ dX11_force_56 ⟨rfl, by omega, (by first | exact Or.inr (Or.inr (Or.inl ⟨by omega, by omega, xv10⟩)) | exact Or.inr (Or.inr (Or.inr ⟨by omega, by omega, xv10.1⟩)))⟩
      · refine g_aload_n (n := 33) X 0 dX11_force_32 rfl rfl rfl ?_
        refine gg_11_0 (n := 36) (z := 1) X (by decide) (gsz hsz (by decide)) lay_0 kw_2_231 dX11_force_33 rfl (rf_0_0 I (gsz hsz (by decide))) (by decide) ?_
        refine g_iload_n (n := 37) X 2 dX11_force_36 rfl rfl rfl ?_
        refine g_iload_n (n := 38) X 1 dX11_force_37 rfl rfl rfl ?_
        refine g_callVi (n := 41) (As := [gJ b, gJ a]) (rest := []) (cs1 := 0) (ss1 := 0) X (e_X9_law b (by omega) a (by omega) hsz I C ) okX9_law kw_4_91 ⟨kw_3_138, kw_3_139⟩ ⟨rfl, rfl⟩ ⟨Nat.le_of_ble_eq_true rfl, Nat.le_of_ble_eq_true rfl⟩ rfl (by decide) (gsz hsz (by decide)) lay_1 rfl rfl (Nat.le_of_ble_eq_true rfl) ⟨Nat.le_of_ble_eq_true rfl, Nat.le_of_ble_eq_true rfl⟩ rfl rfl dX11_force_38 rfl (fun v13 M14 P15 => ?_)
        obtain ⟨rfl, rv13, xv13⟩ := P15
        refine g_goto (tgt := 56) X dX11_force_41 (by decide) ?_
        exact hq _ _ _ _ dX11_force_56 ⟨rfl, by omega, (by first | exact Or.inr (Or.inr (Or.inl ⟨by omega, by omega, xv13⟩)) | exact Or.inr (Or.inr (Or.inr ⟨by omega, by omega, xv13.1⟩)))⟩
    · refine g_bipush (n := 25) X dX11_force_23 (by decide +kernel) rfl ?_
      exact hq _ _ _ _ dX11_force_25 ⟨rfl, by omega, by omega⟩
  · refine g_iconst (n := 11) X dX11_force_10 rfl ?_
    exact hq _ _ _ _ dX11_force_11 ⟨rfl, by omega, by omega⟩
abbrev R_e_X12_has : Room := { frames := 0, cells := 0, slots := 0, locals := 0 }
set_option maxRecDepth 100000 in
set_option maxHeartbeats 4000000 in
theorem e_X12_has {l : Launch} {n0 : Nat} {D : va_G} {cA : Nat → ClassId} {M : gM} (a : Int) (r_a : 0 ≤ a ∧ a ≤ 10) (b : Int) (r_b : -2147483648 ≤ b ∧ b ≤ 2147483647) {sz : Nat} (hsz : 206 ≤ sz) (I : gI sz M) (C : gC sz M)   : Met l yX12_has (gWsOf yX12_has cX12_has 4 (Option.some Jvm.ClassFile.FieldType.boolean)) R_e_X12_has (gPc n0 D cA [gA n0 190, gJ a, gJ b] M sz) (gQi n0 D cA sz (fun z M1 => M = M1 ∧ (0 ≤ z ∧ z ≤ 1) ∧ ((z = 1 ∧ ∃ j : Nat, (j : Int) < M 191 (a + 24700) ∧ M 191 (8 * a + (j : Int) + 24720) = b) ∨ (z = 0 ∧ ∀ j : Nat, (j : Int) < M 191 (a + 24700) → ¬ M 191 (8 * a + (j : Int) + 24720) = b)))) 0 0 (fun q => n0 ≤ q) := by
  refine gMetZ [gA n0 190, gJ a, gJ b] (by decide) (Nat.le_of_ble_eq_true rfl) ⟨rfl, rfl⟩ ?_
  intro p e s m args below meth cd Q X hq
  have X : gCx p s m args meth cd n0 D cA "ParishUnionModel" cX12_has 4 := X
  show G p l e R_e_X12_has s m args below meth cd n0 D cA 4 Q 0 0 M sz 0 [(0, gA n0 190), (1, gJ a), (2, gJ b)] []
  obtain ⟨v1, hv1, rv1⟩ := gRd I (by decide) (gsz hsz (by decide)) (rs_LCOUNT (k := a + 24700) (by omega)).1
  refine g_iconst (n := 1) X dX12_has_0 rfl ?_
  refine g_istore_n (n := 2) (L' := [(3, gJ 0), (0, gA n0 190), (1, gJ a), (2, gJ b)]) X dX12_has_1 rfl (by decide) rfl rfl ?_
  have j4 : ∀ (N8 : Nat) (v2 : Int) , (0 ≤ v2 ∧ v2 ≤ 8) → (∀ j : Nat, (j : Int) < v2 → ¬ M 191 (8 * a + (j : Int) + 24720) = b) → (8 - v2).toNat < N8 → G p l e R_e_X12_has s m args below meth cd n0 D cA 4 Q 0 0 M sz 2 [(0, gA n0 190), (1, gJ a), (2, gJ b), (3, gJ v2)] [] := by
    intro N8; induction N8 with
    | zero => intro v2 rv2 hJ hm10; exfalso; omega
    | succ N8 ih9 =>
      intro v2 rv2 hJ hm10
      refine g_iload_n (n := 3) X 3 dX12_has_2 rfl rfl rfl ?_
      refine g_aload_n (n := 4) X 0 dX12_has_3 rfl rfl rfl ?_
      refine gg_12_1 (n := 7) (z := 191) X (by decide) (gsz hsz (by decide)) lay_190 kw_6_27 dX12_has_4 rfl (rf_190_1 I (gsz hsz (by decide))) (by decide) ?_
      refine g_sipush (n := 10) X dX12_has_7 (by decide +kernel) rfl ?_
      refine g_iload_n (n := 11) X 1 dX12_has_10 rfl rfl rfl ?_
      refine g_iadd (n := 12) (z := a + 24700) X dX12_has_11 (by omega) rfl ?_
      refine g_iald2 (n := 13) (v := v1) X (by decide) (gsz hsz (by decide)) lay_191 (by omega) (by omega) (by decide) dX12_has_12 rfl hv1 ?_
      refine g_icmp_ge (n := 16) (tgt := 43) X dX12_has_13 (by decide) (by omega) (by omega) rfl (fun c11 => ?_) (fun c11 => ?_)
      · refine g_iconst (n := 44) X dX12_has_43 rfl ?_
        exact hq _ _ _ _ dX12_has_44 (by omega) ⟨rfl, by omega, (by refine Or.inr ⟨rfl, fun j hj => hJ j (by have q1 := hv1; omega)⟩)⟩
      · refine g_aload_n (n := 17) X 0 dX12_has_16 rfl rfl rfl ?_
        refine gg_12_1 (n := 20) (z := 191) X (by decide) (gsz hsz (by decide)) lay_190 kw_6_27 dX12_has_17 rfl (rf_190_1 I (gsz hsz (by decide))) (by decide) ?_
        refine g_sipush (n := 23) X dX12_has_20 (by decide +kernel) rfl ?_
        refine g_bipush (n := 25) X dX12_has_23 (by decide +kernel) rfl ?_
        refine g_iload_n (n := 26) X 1 dX12_has_25 rfl rfl rfl ?_
        refine g_imul (n := 27) (z := 8 * a) X dX12_has_26 rfl rfl ?_
        refine g_iadd (n := 28) (z := 24720 + (8 * a)) X dX12_has_27 rfl rfl ?_
        refine g_iload_n (n := 29) X 3 dX12_has_28 rfl rfl rfl ?_
        refine g_iadd (n := 30) (z := (24720 + (8 * a)) + v2) X dX12_has_29 rfl rfl ?_
        obtain ⟨v12, hv12, rv12⟩ := gRd I (by decide) (gsz hsz (by decide)) (rs_LWORD (k := (24720 + (8 * a)) + v2) (by omega)).1
        refine g_iald2 (n := 31) (v := v12) X (by decide) (gsz hsz (by decide)) lay_191 (by omega) (by omega) (by decide) dX12_has_30 rfl hv12 ?_
        refine g_iload_n (n := 32) X 2 dX12_has_31 rfl rfl rfl ?_
        refine g_icmp_ne (n := 35) (tgt := 37) X dX12_has_32 (by decide) (by omega) (by omega) rfl (fun c13 => ?_) (fun c13 => ?_)
        · refine g_iinc (n := 40) (w := v2 + 1) (L' := [(3, gJ (v2 + 1)), (0, gA n0 190), (1, gJ a), (2, gJ b)]) X 3 dX12_has_37 rfl rfl (by decide) rfl rfl ?_
          refine g_goto (tgt := 2) X dX12_has_40 (by decide) ?_
          refine G.sub (L' := [(0, gA n0 190), (1, gJ a), (2, gJ b), (3, gJ (v2 + 1))]) [1, 2, 3, 0] rfl ?_
          exact ih9 (v2 + 1) (by omega) (fun j hj => by by_cases c : (j : Int) = v2; (rw [c, show 8 * a + v2 + 24720 = (24720 + (8 * a)) + v2 by omega, hv12]; omega); (exact hJ j (by omega))) (by omega)
        · refine g_iconst (n := 36) X dX12_has_35 rfl ?_
          exact hq _ _ _ _ dX12_has_36 (by omega) ⟨rfl, by omega, (by refine Or.inl ⟨rfl, v2.toNat, by have q1 := hv1; omega, ?_⟩; rw [show 8 * a + ((v2.toNat : Nat) : Int) + 24720 = (24720 + (8 * a)) + v2 by omega, hv12]; omega)⟩
  refine G.sub (L' := [(0, gA n0 190), (1, gJ a), (2, gJ b), (3, gJ 0)]) [1, 2, 3, 0] rfl ?_
  exact j4 _ 0 (by omega) (fun j hj => by exfalso; omega) (Nat.lt_succ_self _)
abbrev R_e_X12_actOf : Room := { frames := 1, cells := 0, slots := 0, locals := 23 }
set_option maxRecDepth 100000 in
set_option maxHeartbeats 4000000 in
theorem e_X12_actOf {l : Launch} {n0 : Nat} {D : va_G} {cA : Nat → ClassId} {M : gM} (a : Int) (r_a : 0 ≤ a ∧ a ≤ 9) (b : Int) (r_b : 0 ≤ b ∧ b ≤ 300) {sz : Nat} (hsz : 206 ≤ sz) (I : gI sz M) (C : gC sz M) (hV : gVn M)  : Met l yX12_actOf (gWsOf yX12_actOf cX12_actOf 5 (Option.some Jvm.ClassFile.FieldType.int)) R_e_X12_actOf (gPc n0 D cA [gA n0 190, gJ a, gJ b] M sz) (gQi n0 D cA sz (fun z M1 => M = M1 ∧ (-1 ≤ z ∧ z ≤ 10) ∧ (z = gAm M a b ∧ (z = -1 ∨ (0 ≤ z ∧ z < M 191 4))))) 0 0 (fun q => n0 ≤ q) := by
  refine gMetI [gA n0 190, gJ a, gJ b] (by decide) (Nat.le_of_ble_eq_true rfl) ⟨rfl, rfl⟩ ?_
  intro p e s m args below meth cd Q X hq
  have X : gCx p s m args meth cd n0 D cA "ParishUnionModel" cX12_actOf 5 := X
  show G p l e R_e_X12_actOf s m args below meth cd n0 D cA 5 Q 0 0 M sz 0 [(0, gA n0 190), (1, gJ a), (2, gJ b)] []
  obtain ⟨v1, hv1, rv1⟩ := gRd I (by decide) (gsz hsz (by decide)) (rs_NA (k := 4) (by omega)).1
  refine g_iconst (n := 1) X dX12_actOf_0 rfl ?_
  refine g_istore_n (n := 2) (L' := [(3, gJ (-1)), (0, gA n0 190), (1, gJ a), (2, gJ b)]) X dX12_actOf_1 rfl (by decide) rfl rfl ?_
  refine g_iconst (n := 3) X dX12_actOf_2 rfl ?_
  refine g_istore (n := 5) (L' := [(4, gJ 0), (3, gJ (-1)), (0, gA n0 190), (1, gJ a), (2, gJ b)]) X dX12_actOf_3 (by decide) rfl rfl ?_
  have j5 : ∀ (N20 : Nat) (v2 v3 : Int) , (-1 ≤ v2 ∧ v2 ≤ 10) → (0 ≤ v3 ∧ v3 ≤ 11) → (v2 = gAf (gWm M) (gHm M a) b v3.toNat ∧ (v2 = -1 ∨ (0 ≤ v2 ∧ v2 < v3))) → (v3 ≤ v1) → (11 - v3).toNat < N20 → G p l e R_e_X12_actOf s m args below meth cd n0 D cA 5 Q 0 0 M sz 5 [(0, gA n0 190), (1, gJ a), (2, gJ b), (3, gJ v2), (4, gJ v3)] [] := by
    intro N20; induction N20 with
    | zero => intro v2 v3 rv2 rv3 hB hI hm22; exfalso; omega
    | succ N20 ih21 =>
      intro v2 v3 rv2 rv3 hB hI hm22
      refine g_iload (n := 7) X 4 dX12_actOf_5 rfl rfl ?_
      refine g_aload_n (n := 8) X 0 dX12_actOf_7 rfl rfl rfl ?_
      refine gg_12_1 (n := 11) (z := 191) X (by decide) (gsz hsz (by decide)) lay_190 kw_6_27 dX12_actOf_8 rfl (rf_190_1 I (gsz hsz (by decide))) (by decide) ?_
      refine g_iconst (n := 12) X dX12_actOf_11 rfl ?_
      refine g_iald2 (n := 13) (v := v1) X (by decide) (gsz hsz (by decide)) lay_191 (by omega) (by omega) (by decide) dX12_actOf_12 rfl hv1 ?_
      refine g_icmp_ge (n := 16) (tgt := 83) X dX12_actOf_13 (by decide) (by omega) (by omega) rfl (fun c23 => ?_) (fun c23 => ?_)
      · refine g_iload_n (n := 84) X 3 dX12_actOf_83 rfl rfl rfl ?_
        exact hq _ _ _ _ dX12_actOf_84 ⟨rfl, by omega, (by unfold gAm; rw [hv1]; rw [show v1.toNat = v3.toNat by omega]; exact ⟨hB.1, by omega⟩)⟩
      · refine g_aload_n (n := 17) X 0 dX12_actOf_16 rfl rfl rfl ?_
        refine gg_12_1 (n := 20) (z := 191) X (by decide) (gsz hsz (by decide)) lay_190 kw_6_27 dX12_actOf_17 rfl (rf_190_1 I (gsz hsz (by decide))) (by decide) ?_
        refine g_sipush (n := 23) X dX12_actOf_20 (by decide +kernel) rfl ?_
        refine g_iload (n := 25) X 4 dX12_actOf_23 rfl rfl ?_
        refine g_iadd (n := 26) (z := v3 + 656) X dX12_actOf_25 (by omega) rfl ?_
        obtain ⟨v24, hv24, rv24⟩ := gRd I (by decide) (gsz hsz (by decide)) (rs_AWEEK (k := v3 + 656) (by omega)).1
        refine g_iald2 (n := 27) (v := v24) X (by decide) (gsz hsz (by decide)) lay_191 (by omega) (by omega) (by decide) dX12_actOf_26 rfl hv24 ?_
        refine g_iload_n (n := 28) X 2 dX12_actOf_27 rfl rfl rfl ?_
        refine g_icmp_gt (n := 31) (tgt := 75) X dX12_actOf_28 (by decide) (by omega) (by omega) rfl (fun c25 => ?_) (fun c25 => ?_)
        · refine g_iload_n (n := 76) X 3 dX12_actOf_75 rfl rfl rfl ?_
          refine g_istore_n (n := 77) (L' := [(3, gJ v2), (0, gA n0 190), (1, gJ a), (2, gJ b), (4, gJ v3)]) X dX12_actOf_76 rfl (by decide) rfl rfl ?_
          refine g_iinc (n := 80) (w := v3 + 1) (L' := [(4, gJ (v3 + 1)), (3, gJ v2), (0, gA n0 190), (1, gJ a), (2, gJ b)]) X 4 dX12_actOf_77 rfl rfl (by decide) rfl rfl ?_
          refine g_goto (tgt := 5) X dX12_actOf_80 (by decide) ?_
          refine G.sub (L' := [(0, gA n0 190), (1, gJ a), (2, gJ b), (3, gJ v2), (4, gJ (v3 + 1))]) [2, 3, 4, 1, 0] rfl ?_
          exact ih21 v2 (v3 + 1) (by omega) (by omega) (by have gw : gWm M v3 = v24 := hv24; have zn4 : M 191 4 = v1 := hv1; refine ⟨?_, by omega⟩; rw [show (v3 + 1).toNat = v3.toNat + 1 by omega]; unfold gAf; rw [show ((v3.toNat : Nat) : Int) = v3 by omega, ← hB.1]; first | (rw [if_pos ⟨by omega, by omega, by omega⟩]) | (rw [if_neg (by rintro ⟨q1, q2, q3⟩; omega)])) (by omega) (by omega)
        · refine g_iload_n (n := 32) X 3 dX12_actOf_31 rfl rfl rfl ?_
          refine g_iconst (n := 33) X dX12_actOf_32 rfl ?_
          refine g_icmp_eq (n := 36) (tgt := 60) X dX12_actOf_33 (by decide) (by omega) (by omega) rfl (fun c26 => ?_) (fun c26 => ?_)
          · refine g_aload_n (n := 61) X 0 dX12_actOf_60 rfl rfl rfl ?_
            refine g_iload (n := 63) X 4 dX12_actOf_61 rfl rfl ?_
            refine g_iload_n (n := 64) X 1 dX12_actOf_63 rfl rfl rfl ?_
            refine g_callVi (n := 67) (As := [gJ v3, gJ a]) (rest := []) (cs1 := 0) (ss1 := 0) X (e_X12_has v3 (by omega) a (by omega) hsz I C ) okX12_has kw_6_201 ⟨kw_6_203, kw_0_51⟩ ⟨rfl, rfl⟩ ⟨Nat.le_of_ble_eq_true rfl, Nat.le_of_ble_eq_true rfl⟩ rfl (by decide) (gsz hsz (by decide)) lay_190 rfl rfl (Nat.le_of_ble_eq_true rfl) ⟨Nat.le_of_ble_eq_true rfl, Nat.le_of_ble_eq_true rfl⟩ rfl rfl dX12_actOf_64 rfl (fun v27 M28 P29 => ?_)
            obtain ⟨rfl, rv27, xv27⟩ := P29
            have zn4 : M 191 4 = v1 := hv1
            have gs : (v27 = 1 ∧ ¬ gHm M a v3 = -1) ∨ (v27 = 0 ∧ gHm M a v3 = -1) := (by have g := gSa_has (M := M) (A := 191) (i := v3) (k := a) (M 191 (v3 + 24700)).toNat (fun j hj => hV v3 (by clear xv27; omega) (by clear xv27; omega) j (by clear xv27; omega)); rcases xv27 with ⟨t1, j, t2, t3⟩ | ⟨t1, t2⟩; (rcases g with ⟨g1, g2⟩ | ⟨g1, g2⟩; (exact absurd t3.symm (g2 j (by omega))); (clear g2; exact Or.inl ⟨t1, by show ¬ gSa M 191 v3 a _ = -1; omega⟩)); (rcases g with ⟨g1, g2⟩ | ⟨g1, j, g2, g3⟩; (exact Or.inr ⟨t1, g1⟩); (exact absurd g3.symm (t2 j (by omega)))))
            clear xv27
            refine g_if_eq (n := 70) (tgt := 75) X dX12_actOf_67 (by decide) (by omega) rfl (fun c30 => ?_) (fun c30 => ?_)
            · refine g_iload_n (n := 76) X 3 dX12_actOf_75 rfl rfl rfl ?_
              refine g_istore_n (n := 77) (L' := [(3, gJ v2), (0, gA n0 190), (1, gJ a), (2, gJ b), (4, gJ v3)]) X dX12_actOf_76 rfl (by decide) rfl rfl ?_
              refine g_iinc (n := 80) (w := v3 + 1) (L' := [(4, gJ (v3 + 1)), (3, gJ v2), (0, gA n0 190), (1, gJ a), (2, gJ b)]) X 4 dX12_actOf_77 rfl rfl (by decide) rfl rfl ?_
              refine g_goto (tgt := 5) X dX12_actOf_80 (by decide) ?_
              refine G.sub (L' := [(0, gA n0 190), (1, gJ a), (2, gJ b), (3, gJ v2), (4, gJ (v3 + 1))]) [2, 3, 4, 1, 0] rfl ?_
              exact ih21 v2 (v3 + 1) (by omega) (by omega) (by have gw : gWm M v3 = v24 := hv24; have zn4 : M 191 4 = v1 := hv1; refine ⟨?_, by omega⟩; rw [show (v3 + 1).toNat = v3.toNat + 1 by omega]; unfold gAf; rw [show ((v3.toNat : Nat) : Int) = v3 by omega, ← hB.1]; first | (rw [if_pos ⟨by omega, by omega, by omega⟩]) | (rw [if_neg (by rintro ⟨q1, q2, q3⟩; omega)])) (by omega) (by omega)
            · refine g_iload (n := 72) X 4 dX12_actOf_70 rfl rfl ?_
              refine g_goto (tgt := 76) X dX12_actOf_72 (by decide) ?_
              refine g_istore_n (n := 77) (L' := [(3, gJ v3), (0, gA n0 190), (1, gJ a), (2, gJ b), (4, gJ v3)]) X dX12_actOf_76 rfl (by decide) rfl rfl ?_
              refine g_iinc (n := 80) (w := v3 + 1) (L' := [(4, gJ (v3 + 1)), (3, gJ v3), (0, gA n0 190), (1, gJ a), (2, gJ b)]) X 4 dX12_actOf_77 rfl rfl (by decide) rfl rfl ?_
              refine g_goto (tgt := 5) X dX12_actOf_80 (by decide) ?_
              refine G.sub (L' := [(0, gA n0 190), (1, gJ a), (2, gJ b), (3, gJ v3), (4, gJ (v3 + 1))]) [2, 3, 4, 1, 0] rfl ?_
              exact ih21 v3 (v3 + 1) (by omega) (by omega) (by have gw : gWm M v3 = v24 := hv24; have zn4 : M 191 4 = v1 := hv1; refine ⟨?_, by omega⟩; rw [show (v3 + 1).toNat = v3.toNat + 1 by omega]; unfold gAf; rw [show ((v3.toNat : Nat) : Int) = v3 by omega, ← hB.1]; first | (rw [if_pos ⟨by omega, by omega, by omega⟩]) | (rw [if_neg (by rintro ⟨q1, q2, q3⟩; omega)])) (by omega) (by omega)
          · refine g_aload_n (n := 37) X 0 dX12_actOf_36 rfl rfl rfl ?_
            refine gg_12_1 (n := 40) (z := 191) X (by decide) (gsz hsz (by decide)) lay_190 kw_6_27 dX12_actOf_37 rfl (rf_190_1 I (gsz hsz (by decide))) (by decide) ?_
            refine g_sipush (n := 43) X dX12_actOf_40 (by decide +kernel) rfl ?_
            refine g_iload (n := 45) X 4 dX12_actOf_43 rfl rfl ?_
            refine g_iadd (n := 46) (z := v3 + 656) X dX12_actOf_45 (by omega) rfl ?_
            refine g_iald2 (n := 47) (v := v24) X (by decide) (gsz hsz (by decide)) lay_191 (by omega) (by omega) (by decide) dX12_actOf_46 rfl hv24 ?_
            refine g_aload_n (n := 48) X 0 dX12_actOf_47 rfl rfl rfl ?_
            refine gg_12_1 (n := 51) (z := 191) X (by decide) (gsz hsz (by decide)) lay_190 kw_6_27 dX12_actOf_48 rfl (rf_190_1 I (gsz hsz (by decide))) (by decide) ?_
            refine g_sipush (n := 54) X dX12_actOf_51 (by decide +kernel) rfl ?_
            refine g_iload_n (n := 55) X 3 dX12_actOf_54 rfl rfl rfl ?_
            refine g_iadd (n := 56) (z := v2 + 656) X dX12_actOf_55 (by omega) rfl ?_
            obtain ⟨v31, hv31, rv31⟩ := gRd I (by decide) (gsz hsz (by decide)) (rs_AWEEK (k := v2 + 656) (by omega)).1
            refine g_iald2 (n := 57) (v := v31) X (by decide) (gsz hsz (by decide)) lay_191 (by omega) (by omega) (by decide) dX12_actOf_56 rfl hv31 ?_
            refine g_icmp_lt (n := 60) (tgt := 75) X dX12_actOf_57 (by decide) (by omega) (by omega) rfl (fun c32 => ?_) (fun c32 => ?_)
            · refine g_iload_n (n := 76) X 3 dX12_actOf_75 rfl rfl rfl ?_
              refine g_istore_n (n := 77) (L' := [(3, gJ v2), (0, gA n0 190), (1, gJ a), (2, gJ b), (4, gJ v3)]) X dX12_actOf_76 rfl (by decide) rfl rfl ?_
              refine g_iinc (n := 80) (w := v3 + 1) (L' := [(4, gJ (v3 + 1)), (3, gJ v2), (0, gA n0 190), (1, gJ a), (2, gJ b)]) X 4 dX12_actOf_77 rfl rfl (by decide) rfl rfl ?_
              refine g_goto (tgt := 5) X dX12_actOf_80 (by decide) ?_
              refine G.sub (L' := [(0, gA n0 190), (1, gJ a), (2, gJ b), (3, gJ v2), (4, gJ (v3 + 1))]) [2, 3, 4, 1, 0] rfl ?_
              exact ih21 v2 (v3 + 1) (by omega) (by omega) (by have gw : gWm M v3 = v24 := hv24; have gb : gWm M v2 = v31 := hv31; have zn4 : M 191 4 = v1 := hv1; refine ⟨?_, by omega⟩; rw [show (v3 + 1).toNat = v3.toNat + 1 by omega]; unfold gAf; rw [show ((v3.toNat : Nat) : Int) = v3 by omega, ← hB.1]; first | (rw [if_pos ⟨by omega, by omega, by omega⟩]) | (rw [if_neg (by rintro ⟨q1, q2, q3⟩; omega)])) (by omega) (by omega)
            · refine g_aload_n (n := 61) X 0 dX12_actOf_60 rfl rfl rfl ?_
              refine g_iload (n := 63) X 4 dX12_actOf_61 rfl rfl ?_
              refine g_iload_n (n := 64) X 1 dX12_actOf_63 rfl rfl rfl ?_
              refine g_callVi (n := 67) (As := [gJ v3, gJ a]) (rest := []) (cs1 := 0) (ss1 := 0) X (e_X12_has v3 (by omega) a (by omega) hsz I C ) okX12_has kw_6_201 ⟨kw_6_203, kw_0_51⟩ ⟨rfl, rfl⟩ ⟨Nat.le_of_ble_eq_true rfl, Nat.le_of_ble_eq_true rfl⟩ rfl (by decide) (gsz hsz (by decide)) lay_190 rfl rfl (Nat.le_of_ble_eq_true rfl) ⟨Nat.le_of_ble_eq_true rfl, Nat.le_of_ble_eq_true rfl⟩ rfl rfl dX12_actOf_64 rfl (fun v33 M34 P35 => ?_)
              obtain ⟨rfl, rv33, xv33⟩ := P35
              have zn4 : M 191 4 = v1 := hv1
              have gs : (v33 = 1 ∧ ¬ gHm M a v3 = -1) ∨ (v33 = 0 ∧ gHm M a v3 = -1) := (by have g := gSa_has (M := M) (A := 191) (i := v3) (k := a) (M 191 (v3 + 24700)).toNat (fun j hj => hV v3 (by clear xv33; omega) (by clear xv33; omega) j (by clear xv33; omega)); rcases xv33 with ⟨t1, j, t2, t3⟩ | ⟨t1, t2⟩; (rcases g with ⟨g1, g2⟩ | ⟨g1, g2⟩; (exact absurd t3.symm (g2 j (by omega))); (clear g2; exact Or.inl ⟨t1, by show ¬ gSa M 191 v3 a _ = -1; omega⟩)); (rcases g with ⟨g1, g2⟩ | ⟨g1, j, g2, g3⟩; (exact Or.inr ⟨t1, g1⟩); (exact absurd g3.symm (t2 j (by omega)))))
              clear xv33
              refine g_if_eq (n := 70) (tgt := 75) X dX12_actOf_67 (by decide) (by omega) rfl (fun c36 => ?_) (fun c36 => ?_)
              · refine g_iload_n (n := 76) X 3 dX12_actOf_75 rfl rfl rfl ?_
                refine g_istore_n (n := 77) (L' := [(3, gJ v2), (0, gA n0 190), (1, gJ a), (2, gJ b), (4, gJ v3)]) X dX12_actOf_76 rfl (by decide) rfl rfl ?_
                refine g_iinc (n := 80) (w := v3 + 1) (L' := [(4, gJ (v3 + 1)), (3, gJ v2), (0, gA n0 190), (1, gJ a), (2, gJ b)]) X 4 dX12_actOf_77 rfl rfl (by decide) rfl rfl ?_
                refine g_goto (tgt := 5) X dX12_actOf_80 (by decide) ?_
                refine G.sub (L' := [(0, gA n0 190), (1, gJ a), (2, gJ b), (3, gJ v2), (4, gJ (v3 + 1))]) [2, 3, 4, 1, 0] rfl ?_
                exact ih21 v2 (v3 + 1) (by omega) (by omega) (by have gw : gWm M v3 = v24 := hv24; have gb : gWm M v2 = v31 := hv31; have zn4 : M 191 4 = v1 := hv1; refine ⟨?_, by omega⟩; rw [show (v3 + 1).toNat = v3.toNat + 1 by omega]; unfold gAf; rw [show ((v3.toNat : Nat) : Int) = v3 by omega, ← hB.1]; first | (rw [if_pos ⟨by omega, by omega, by omega⟩]) | (rw [if_neg (by rintro ⟨q1, q2, q3⟩; omega)])) (by omega) (by omega)
              · refine g_iload (n := 72) X 4 dX12_actOf_70 rfl rfl ?_
                refine g_goto (tgt := 76) X dX12_actOf_72 (by decide) ?_
                refine g_istore_n (n := 77) (L' := [(3, gJ v3), (0, gA n0 190), (1, gJ a), (2, gJ b), (4, gJ v3)]) X dX12_actOf_76 rfl (by decide) rfl rfl ?_
                refine g_iinc (n := 80) (w := v3 + 1) (L' := [(4, gJ (v3 + 1)), (3, gJ v3), (0, gA n0 190), (1, gJ a), (2, gJ b)]) X 4 dX12_actOf_77 rfl rfl (by decide) rfl rfl ?_
                refine g_goto (tgt := 5) X dX12_actOf_80 (by decide) ?_
                refine G.sub (L' := [(0, gA n0 190), (1, gJ a), (2, gJ b), (3, gJ v3), (4, gJ (v3 + 1))]) [2, 3, 4, 1, 0] rfl ?_
                exact ih21 v3 (v3 + 1) (by omega) (by omega) (by have gw : gWm M v3 = v24 := hv24; have gb : gWm M v2 = v31 := hv31; have zn4 : M 191 4 = v1 := hv1; refine ⟨?_, by omega⟩; rw [show (v3 + 1).toNat = v3.toNat + 1 by omega]; unfold gAf; rw [show ((v3.toNat : Nat) : Int) = v3 by omega, ← hB.1]; first | (rw [if_pos ⟨by omega, by omega, by omega⟩]) | (rw [if_neg (by rintro ⟨q1, q2, q3⟩; omega)])) (by omega) (by omega)
  refine G.sub (L' := [(0, gA n0 190), (1, gJ a), (2, gJ b), (3, gJ (-1)), (4, gJ 0)]) [2, 3, 4, 1, 0] rfl ?_
  exact j5 _ (-1) 0 (by omega) (by omega) ⟨rfl, Or.inl rfl⟩ (by omega) (Nat.lt_succ_self _)
abbrev R_e_X12_without : Room := { frames := 0, cells := 0, slots := 0, locals := 0 }
set_option maxRecDepth 100000 in
set_option maxHeartbeats 4000000 in
theorem e_X12_without {l : Launch} {n0 : Nat} {D : va_G} {cA : Nat → ClassId} {M : gM} (a : Int) (r_a : 0 ≤ a ∧ a ≤ 9) {sz : Nat} (hsz : 206 ≤ sz) (I : gI sz M) (C : gC sz M)   : Met l yX12_without (gWsOf yX12_without cX12_without 1 (Option.some Jvm.ClassFile.FieldType.int)) R_e_X12_without (gPc n0 D cA [gJ a] M sz) (gQi n0 D cA sz (fun z M1 => M = M1 ∧ (0 ≤ z ∧ z ≤ 100) ∧ (z = gWo a))) 0 0 (fun q => n0 ≤ q) := by
  refine gMetI [gJ a] (by decide) (Nat.le_of_ble_eq_true rfl) ⟨rfl, rfl⟩ ?_
  intro p e s m args below meth cd Q X hq
  have X : gCx p s m args meth cd n0 D cA "ParishUnionModel" cX12_without 1 := X
  show G p l e R_e_X12_without s m args below meth cd n0 D cA 1 Q 0 0 M sz 0 [(0, gJ a)] []
  refine g_iload_n (n := 1) X 0 dX12_without_0 rfl rfl rfl ?_
  by_cases c1 : a = 0
  · refine g_tableIn (tgt := 44) X 0 dX12_without_1 (by omega) (by omega) (by omega) (by omega) rfl (by decide) ?_
    refine g_bipush (n := 46) X dX12_without_44 (by decide +kernel) rfl ?_
    exact hq _ _ _ _ dX12_without_46 ⟨rfl, by omega, (by rw [show a = 0 by omega]; decide +kernel)⟩
  by_cases c2 : a = 1
  · refine g_tableIn (tgt := 47) X 1 dX12_without_1 (by omega) (by omega) (by omega) (by omega) rfl (by decide) ?_
    refine g_bipush (n := 49) X dX12_without_47 (by decide +kernel) rfl ?_
    exact hq _ _ _ _ dX12_without_49 ⟨rfl, by omega, (by rw [show a = 1 by omega]; decide +kernel)⟩
  by_cases c3 : a = 2
  · refine g_tableIn (tgt := 50) X 2 dX12_without_1 (by omega) (by omega) (by omega) (by omega) rfl (by decide) ?_
    refine g_bipush (n := 52) X dX12_without_50 (by decide +kernel) rfl ?_
    exact hq _ _ _ _ dX12_without_52 ⟨rfl, by omega, (by rw [show a = 2 by omega]; decide +kernel)⟩
  by_cases c4 : a = 3
  · refine g_tableIn (tgt := 53) X 3 dX12_without_1 (by omega) (by omega) (by omega) (by omega) rfl (by decide) ?_
    refine g_iconst (n := 54) X dX12_without_53 rfl ?_
    exact hq _ _ _ _ dX12_without_54 ⟨rfl, by omega, (by rw [show a = 3 by omega]; decide +kernel)⟩
  by_cases c5 : a = 4
  · refine g_tableIn (tgt := 55) X 4 dX12_without_1 (by omega) (by omega) (by omega) (by omega) rfl (by decide) ?_
    refine g_bipush (n := 57) X dX12_without_55 (by decide +kernel) rfl ?_
    exact hq _ _ _ _ dX12_without_57 ⟨rfl, by omega, (by rw [show a = 4 by omega]; decide +kernel)⟩
  by_cases c6 : a = 5
  · refine g_tableIn (tgt := 58) X 5 dX12_without_1 (by omega) (by omega) (by omega) (by omega) rfl (by decide) ?_
    refine g_iconst (n := 59) X dX12_without_58 rfl ?_
    exact hq _ _ _ _ dX12_without_59 ⟨rfl, by omega, (by rcases (by omega : a = 5 ∨ a = 6) with rfl | rfl <;> decide +kernel)⟩
  by_cases c7 : a = 6
  · refine g_tableIn (tgt := 58) X 6 dX12_without_1 (by omega) (by omega) (by omega) (by omega) rfl (by decide) ?_
    refine g_iconst (n := 59) X dX12_without_58 rfl ?_
    exact hq _ _ _ _ dX12_without_59 ⟨rfl, by omega, (by rcases (by omega : a = 5 ∨ a = 6) with rfl | rfl <;> decide +kernel)⟩
  refine g_tableOut (tgt := 60) X dX12_without_1 (by omega) (by omega) (by decide) ?_
  refine g_iconst (n := 61) X dX12_without_60 rfl ?_
  exact hq _ _ _ _ dX12_without_61 ⟨rfl, by omega, (gWo_z (by omega)).symm⟩
abbrev R_e_X12_law : Room := { frames := 2, cells := 0, slots := 0, locals := 47 }
set_option maxRecDepth 100000 in
set_option maxHeartbeats 4000000 in
theorem e_X12_law {l : Launch} {n0 : Nat} {D : va_G} {cA : Nat → ClassId} {M : gM} (a : Int) (r_a : 0 ≤ a ∧ a ≤ 7) (b : Int) (r_b : 0 ≤ b ∧ b ≤ 300) {sz : Nat} (hsz : 206 ≤ sz) (I : gI sz M) (C : gC sz M) (hV : gVn M)  : Met l yX12_law (gWsOf yX12_law cX12_law 6 (Option.some Jvm.ClassFile.FieldType.int)) R_e_X12_law (gPc n0 D cA [gA n0 190, gJ a, gJ b] M sz) (gQi n0 D cA sz (fun z M1 => M = M1 ∧ (-60 ≤ z ∧ z ≤ 9999) ∧ (z = (if gAm M a b = -1 then gWo a else gLa2 M 191 (gAm M a b) a (gWo a) (M 191 (gAm M a b + 24700)).toNat)))) 0 0 (fun q => n0 ≤ q) := by
  refine gMetI [gA n0 190, gJ a, gJ b] (by decide) (Nat.le_of_ble_eq_true rfl) ⟨rfl, rfl⟩ ?_
  intro p e s m args below meth cd Q X hq
  have X : gCx p s m args meth cd n0 D cA "ParishUnionModel" cX12_law 6 := X
  show G p l e R_e_X12_law s m args below meth cd n0 D cA 6 Q 0 0 M sz 0 [(0, gA n0 190), (1, gJ a), (2, gJ b)] []
  refine g_aload_n (n := 1) X 0 dX12_law_0 rfl rfl rfl ?_
  refine g_iload_n (n := 2) X 1 dX12_law_1 rfl rfl rfl ?_
  refine g_iload_n (n := 3) X 2 dX12_law_2 rfl rfl rfl ?_
  refine g_callVi (n := 6) (As := [gJ a, gJ b]) (rest := []) (cs1 := 0) (ss1 := 0) X (e_X12_actOf a (by omega) b (by omega) hsz I C hV) okX12_actOf kw_6_197 ⟨kw_6_199, kw_0_50⟩ ⟨rfl, rfl⟩ ⟨Nat.le_of_ble_eq_true rfl, Nat.le_of_ble_eq_true rfl⟩ rfl (by decide) (gsz hsz (by decide)) lay_190 rfl rfl (Nat.le_of_ble_eq_true rfl) ⟨Nat.le_of_ble_eq_true rfl, Nat.le_of_ble_eq_true rfl⟩ rfl rfl dX12_law_3 rfl (fun v1 M2 P3 => ?_)
  obtain ⟨rfl, rv1, xv1⟩ := P3
  have lcr : 0 ≤ v1 → 0 ≤ M 191 (v1 + 24700) ∧ M 191 (v1 + 24700) ≤ 8 := fun h => by obtain ⟨v, hv, rv⟩ := gRd I (by decide) (gsz hsz (by decide)) (rs_LCOUNT (k := v1 + 24700) (by omega)).1; omega
  refine g_istore_n (n := 7) (L' := [(3, gJ v1), (0, gA n0 190), (1, gJ a), (2, gJ b)]) X dX12_law_6 rfl (by decide) rfl rfl ?_
  refine g_iload_n (n := 8) X 2 dX12_law_7 rfl rfl rfl ?_
  refine g_callSi (n := 11) (As := [gJ a]) (rest := []) (cs1 := 0) (ss1 := 0) X (e_X12_without a (by omega) hsz I C ) okX12_without kw_6_205 kw_6_206 ⟨rfl, rfl⟩ ⟨Nat.le_of_ble_eq_true rfl, Nat.le_of_ble_eq_true rfl⟩ rfl rfl (Nat.le_of_ble_eq_true rfl) ⟨Nat.le_of_ble_eq_true rfl, Nat.le_of_ble_eq_true rfl⟩ rfl rfl dX12_law_8 rfl (fun v4 M5 P6 => ?_)
  obtain ⟨rfl, rv4, xv4⟩ := P6
  refine g_istore (n := 13) (L' := [(4, gJ v4), (3, gJ v1), (0, gA n0 190), (1, gJ a), (2, gJ b)]) X dX12_law_11 (by decide) rfl rfl ?_
  refine g_iconst (n := 14) X dX12_law_13 rfl ?_
  refine g_istore (n := 16) (L' := [(5, gJ 0), (4, gJ v4), (3, gJ v1), (0, gA n0 190), (1, gJ a), (2, gJ b)]) X dX12_law_14 (by decide) rfl rfl ?_
  have j10 : ∀ (N23 : Nat) (v7 v8 : Int) , (-60 ≤ v7 ∧ v7 ≤ 9999) → (0 ≤ v8 ∧ v8 ≤ 8) → (v7 = gLa2 M 191 v1 a (gWo a) v8.toNat ∧ (v1 = -1 → v8 = 0) ∧ (0 ≤ v1 → v8 ≤ M 191 (v1 + 24700))) → (8 - v8).toNat < N23 → G p l e R_e_X12_law s m args below meth cd n0 D cA 6 Q 0 0 M sz 16 [(0, gA n0 190), (1, gJ a), (3, gJ v1), (4, gJ v7), (5, gJ v8)] [] := by
    intro N23; induction N23 with
    | zero => intro v7 v8 rv7 rv8 hF hm25; exfalso; omega
    | succ N23 ih24 =>
      intro v7 v8 rv7 rv8 hF hm25
      refine g_iload_n (n := 17) X 2 dX12_law_16 rfl rfl rfl ?_
      refine g_iconst (n := 18) X dX12_law_17 rfl ?_
      refine g_icmp_eq (n := 21) (tgt := 85) X dX12_law_18 (by decide) (by omega) (by omega) rfl (fun c26 => ?_) (fun c26 => ?_)
      · refine g_iload (n := 87) X 3 dX12_law_85 rfl rfl ?_
        exact hq _ _ _ _ dX12_law_87 ⟨rfl, by omega, (by have y := xv1; rw [← y.1]; first | (rw [if_pos (by omega)]; have f1 := hF.1; rw [hF.2.1 (by omega)] at f1; exact f1) | (rw [if_neg (by omega)]; have f3 := hF.2.2 (by omega); have f1 := hF.1; rw [show v8 = M 191 (v1 + 24700) by omega] at f1; exact f1))⟩
      · refine g_iload (n := 23) X 4 dX12_law_21 rfl rfl ?_
        refine g_aload_n (n := 24) X 0 dX12_law_23 rfl rfl rfl ?_
        refine gg_12_1 (n := 27) (z := 191) X (by decide) (gsz hsz (by decide)) lay_190 kw_6_27 dX12_law_24 rfl (rf_190_1 I (gsz hsz (by decide))) (by decide) ?_
        refine g_sipush (n := 30) X dX12_law_27 (by decide +kernel) rfl ?_
        refine g_iload_n (n := 31) X 2 dX12_law_30 rfl rfl rfl ?_
        refine g_iadd (n := 32) (z := v1 + 24700) X dX12_law_31 (by omega) rfl ?_
        obtain ⟨v27, hv27, rv27⟩ := gRd I (by decide) (gsz hsz (by decide)) (rs_LCOUNT (k := v1 + 24700) (by omega)).1
        refine g_iald2 (n := 33) (v := v27) X (by decide) (gsz hsz (by decide)) lay_191 (by omega) (by omega) (by decide) dX12_law_32 rfl hv27 ?_
        refine g_icmp_ge (n := 36) (tgt := 85) X dX12_law_33 (by decide) (by omega) (by omega) rfl (fun c28 => ?_) (fun c28 => ?_)
        · refine g_iload (n := 87) X 3 dX12_law_85 rfl rfl ?_
          exact hq _ _ _ _ dX12_law_87 ⟨rfl, by omega, (by have y := xv1; have zn : M 191 (v1 + 24700) = v27 := hv27; rw [← y.1]; first | (rw [if_pos (by omega)]; have f1 := hF.1; rw [hF.2.1 (by omega)] at f1; exact f1) | (rw [if_neg (by omega)]; have f3 := hF.2.2 (by omega); have f1 := hF.1; rw [show v8 = M 191 (v1 + 24700) by omega] at f1; exact f1))⟩
        · refine g_aload_n (n := 37) X 0 dX12_law_36 rfl rfl rfl ?_
          refine gg_12_1 (n := 40) (z := 191) X (by decide) (gsz hsz (by decide)) lay_190 kw_6_27 dX12_law_37 rfl (rf_190_1 I (gsz hsz (by decide))) (by decide) ?_
          refine g_sipush (n := 43) X dX12_law_40 (by decide +kernel) rfl ?_
          refine g_bipush (n := 45) X dX12_law_43 (by decide +kernel) rfl ?_
          refine g_iload_n (n := 46) X 2 dX12_law_45 rfl rfl rfl ?_
          refine g_imul (n := 47) (z := 8 * v1) X dX12_law_46 rfl rfl ?_
          refine g_iadd (n := 48) (z := 24720 + (8 * v1)) X dX12_law_47 rfl rfl ?_
          refine g_iload (n := 50) X 4 dX12_law_48 rfl rfl ?_
          refine g_iadd (n := 51) (z := (24720 + (8 * v1)) + v8) X dX12_law_50 rfl rfl ?_
          obtain ⟨v29, hv29, rv29⟩ := gRd I (by decide) (gsz hsz (by decide)) (rs_LWORD (k := (24720 + (8 * v1)) + v8) (by omega)).1
          refine g_iald2 (n := 52) (v := v29) X (by decide) (gsz hsz (by decide)) lay_191 (by omega) (by omega) (by decide) dX12_law_51 rfl hv29 ?_
          refine g_iload_n (n := 53) X 1 dX12_law_52 rfl rfl rfl ?_
          refine g_icmp_ne (n := 56) (tgt := 75) X dX12_law_53 (by decide) (by omega) (by omega) rfl (fun c30 => ?_) (fun c30 => ?_)
          · refine g_iload (n := 77) X 3 dX12_law_75 rfl rfl ?_
            refine g_istore (n := 79) (L' := [(4, gJ v7), (0, gA n0 190), (1, gJ a), (3, gJ v1), (5, gJ v8)]) X dX12_law_77 (by decide) rfl rfl ?_
            refine g_iinc (n := 82) (w := v8 + 1) (L' := [(5, gJ (v8 + 1)), (4, gJ v7), (0, gA n0 190), (1, gJ a), (3, gJ v1)]) X 4 dX12_law_79 rfl rfl (by decide) rfl rfl ?_
            refine g_goto (tgt := 16) X dX12_law_82 (by decide) ?_
            refine G.sub (L' := [(0, gA n0 190), (1, gJ a), (3, gJ v1), (4, gJ v7), (5, gJ (v8 + 1))]) [2, 3, 4, 1, 0] rfl ?_
            exact ih24 v7 (v8 + 1) (by omega) (by omega) (by have zn : M 191 (v1 + 24700) = v27 := hv27; have cw : M 191 (8 * v1 + v8 + 24720) = v29 := (by rw [show 8 * v1 + v8 + 24720 = (24720 + (8 * v1)) + v8 by omega]; exact hv29); refine ⟨?_, fun c => by omega, fun c => by omega⟩; rw [show (v8 + 1).toNat = v8.toNat + 1 by omega]; unfold gLa2; rw [show ((v8.toNat : Nat) : Int) = v8 by omega, cw]; first | (rw [if_pos (by omega), cv]) | (rw [if_neg (by omega)]; exact hF.1)) (by omega)
          · refine g_aload_n (n := 57) X 0 dX12_law_56 rfl rfl rfl ?_
            refine gg_12_1 (n := 60) (z := 191) X (by decide) (gsz hsz (by decide)) lay_190 kw_6_27 dX12_law_57 rfl (rf_190_1 I (gsz hsz (by decide))) (by decide) ?_
            refine g_sipush (n := 63) X dX12_law_60 (by decide +kernel) rfl ?_
            refine g_bipush (n := 65) X dX12_law_63 (by decide +kernel) rfl ?_
            refine g_iload_n (n := 66) X 2 dX12_law_65 rfl rfl rfl ?_
            refine g_imul (n := 67) (z := 8 * v1) X dX12_law_66 rfl rfl ?_
            refine g_iadd (n := 68) (z := 24810 + (8 * v1)) X dX12_law_67 rfl rfl ?_
            refine g_iload (n := 70) X 4 dX12_law_68 rfl rfl ?_
            refine g_iadd (n := 71) (z := (24810 + (8 * v1)) + v8) X dX12_law_70 rfl rfl ?_
            obtain ⟨v31, hv31, rv31⟩ := gRd I (by decide) (gsz hsz (by decide)) (rs_LVALUE (k := (24810 + (8 * v1)) + v8) (by omega)).1
            refine g_iald2 (n := 72) (v := v31) X (by decide) (gsz hsz (by decide)) lay_191 (by omega) (by omega) (by decide) dX12_law_71 rfl hv31 ?_
            refine g_goto (tgt := 77) X dX12_law_72 (by decide) ?_
            refine g_istore (n := 79) (L' := [(4, gJ v31), (0, gA n0 190), (1, gJ a), (3, gJ v1), (5, gJ v8)]) X dX12_law_77 (by decide) rfl rfl ?_
            refine g_iinc (n := 82) (w := v8 + 1) (L' := [(5, gJ (v8 + 1)), (4, gJ v31), (0, gA n0 190), (1, gJ a), (3, gJ v1)]) X 4 dX12_law_79 rfl rfl (by decide) rfl rfl ?_
            refine g_goto (tgt := 16) X dX12_law_82 (by decide) ?_
            refine G.sub (L' := [(0, gA n0 190), (1, gJ a), (3, gJ v1), (4, gJ v31), (5, gJ (v8 + 1))]) [2, 3, 4, 1, 0] rfl ?_
            exact ih24 v31 (v8 + 1) (by omega) (by omega) (by have zn : M 191 (v1 + 24700) = v27 := hv27; have cw : M 191 (8 * v1 + v8 + 24720) = v29 := (by rw [show 8 * v1 + v8 + 24720 = (24720 + (8 * v1)) + v8 by omega]; exact hv29); have cv : M 191 (8 * v1 + v8 + 24810) = v31 := (by rw [show 8 * v1 + v8 + 24810 = (24810 + (8 * v1)) + v8 by omega]; exact hv31); refine ⟨?_, fun c => by omega, fun c => by omega⟩; rw [show (v8 + 1).toNat = v8.toNat + 1 by omega]; unfold gLa2; rw [show ((v8.toNat : Nat) : Int) = v8 by omega, cw]; first | (rw [if_pos (by omega), cv]) | (rw [if_neg (by omega)]; exact hF.1)) (by omega)
  refine G.sub (L' := [(0, gA n0 190), (1, gJ a), (3, gJ v1), (4, gJ v4), (5, gJ 0)]) [3, 4, 2, 1, 0] rfl ?_
  exact j10 _ v4 0 (by omega) (by omega) ⟨xv4, fun _ => rfl, fun h => (lcr h).1⟩ (Nat.lt_succ_self _)
abbrev R_e_X12_manyOf : Room := { frames := 2, cells := 0, slots := 0, locals := 47 }
set_option maxRecDepth 100000 in
set_option maxHeartbeats 4000000 in
theorem e_X12_manyOf {l : Launch} {n0 : Nat} {D : va_G} {cA : Nat → ClassId} {M : gM} (a : Int) (r_a : 8 ≤ a ∧ a ≤ 9) (b : Int) (r_b : 0 ≤ b ∧ b ≤ 300) {sz : Nat} (hsz : 206 ≤ sz) (I : gI sz M) (C : gC sz M) (hV : gVn M)  : Met l yX12_manyOf (gWsOf yX12_manyOf cX12_manyOf 6 (Option.some Jvm.ClassFile.FieldType.int)) R_e_X12_manyOf (gPc n0 D cA [gA n0 190, gJ a, gJ b] M sz) (gQi n0 D cA sz (fun z M1 => M = M1 ∧ (0 ≤ z ∧ z ≤ 8) ∧ (z = (if gAm M a b = -1 then 0 else gMa2 M 191 (gAm M a b) a (M 191 (gAm M a b + 24700)).toNat)))) 0 0 (fun q => n0 ≤ q) := by
  refine gMetI [gA n0 190, gJ a, gJ b] (by decide) (Nat.le_of_ble_eq_true rfl) ⟨rfl, rfl⟩ ?_
  intro p e s m args below meth cd Q X hq
  have X : gCx p s m args meth cd n0 D cA "ParishUnionModel" cX12_manyOf 6 := X
  show G p l e R_e_X12_manyOf s m args below meth cd n0 D cA 6 Q 0 0 M sz 0 [(0, gA n0 190), (1, gJ a), (2, gJ b)] []
  refine g_aload_n (n := 1) X 0 dX12_manyOf_0 rfl rfl rfl ?_
  refine g_iload_n (n := 2) X 1 dX12_manyOf_1 rfl rfl rfl ?_
  refine g_iload_n (n := 3) X 2 dX12_manyOf_2 rfl rfl rfl ?_
  refine g_callVi (n := 6) (As := [gJ a, gJ b]) (rest := []) (cs1 := 0) (ss1 := 0) X (e_X12_actOf a (by omega) b (by omega) hsz I C hV) okX12_actOf kw_6_197 ⟨kw_6_199, kw_0_50⟩ ⟨rfl, rfl⟩ ⟨Nat.le_of_ble_eq_true rfl, Nat.le_of_ble_eq_true rfl⟩ rfl (by decide) (gsz hsz (by decide)) lay_190 rfl rfl (Nat.le_of_ble_eq_true rfl) ⟨Nat.le_of_ble_eq_true rfl, Nat.le_of_ble_eq_true rfl⟩ rfl rfl dX12_manyOf_3 rfl (fun v1 M2 P3 => ?_)
  obtain ⟨rfl, rv1, xv1⟩ := P3
  have lcr : 0 ≤ v1 → 0 ≤ M 191 (v1 + 24700) ∧ M 191 (v1 + 24700) ≤ 8 := fun h => by obtain ⟨v, hv, rv⟩ := gRd I (by decide) (gsz hsz (by decide)) (rs_LCOUNT (k := v1 + 24700) (by omega)).1; omega
  refine g_istore_n (n := 7) (L' := [(3, gJ v1), (0, gA n0 190), (1, gJ a), (2, gJ b)]) X dX12_manyOf_6 rfl (by decide) rfl rfl ?_
  refine g_iconst (n := 8) X dX12_manyOf_7 rfl ?_
  refine g_istore (n := 10) (L' := [(4, gJ 0), (3, gJ v1), (0, gA n0 190), (1, gJ a), (2, gJ b)]) X dX12_manyOf_8 (by decide) rfl rfl ?_
  refine g_iconst (n := 11) X dX12_manyOf_10 rfl ?_
  refine g_istore (n := 13) (L' := [(5, gJ 0), (4, gJ 0), (3, gJ v1), (0, gA n0 190), (1, gJ a), (2, gJ b)]) X dX12_manyOf_11 (by decide) rfl rfl ?_
  have j7 : ∀ (N13 : Nat) (v4 v5 : Int) , (0 ≤ v4 ∧ v4 ≤ 8) → (0 ≤ v5 ∧ v5 ≤ 8) → (v4 = gMa2 M 191 v1 a v5.toNat ∧ (v1 = -1 → v5 = 0) ∧ (0 ≤ v1 → v5 ≤ M 191 (v1 + 24700))) → (v4 ≤ v5) → (8 - v5).toNat < N13 → G p l e R_e_X12_manyOf s m args below meth cd n0 D cA 6 Q 0 0 M sz 13 [(0, gA n0 190), (1, gJ a), (3, gJ v1), (4, gJ v4), (5, gJ v5)] [] := by
    intro N13; induction N13 with
    | zero => intro v4 v5 rv4 rv5 hF hv9 hm15; exfalso; omega
    | succ N13 ih14 =>
      intro v4 v5 rv4 rv5 hF hv9 hm15
      refine g_iload_n (n := 14) X 2 dX12_manyOf_13 rfl rfl rfl ?_
      refine g_iconst (n := 15) X dX12_manyOf_14 rfl ?_
      refine g_icmp_eq (n := 18) (tgt := 69) X dX12_manyOf_15 (by decide) (by omega) (by omega) rfl (fun c16 => ?_) (fun c16 => ?_)
      · refine g_iload (n := 71) X 3 dX12_manyOf_69 rfl rfl ?_
        exact hq _ _ _ _ dX12_manyOf_71 ⟨rfl, by omega, (by have y := xv1; rw [← y.1]; first | (rw [if_pos (by omega)]; have f1 := hF.1; rw [hF.2.1 (by omega)] at f1; exact f1) | (rw [if_neg (by omega)]; have f3 := hF.2.2 (by omega); have f1 := hF.1; rw [show v5 = M 191 (v1 + 24700) by omega] at f1; exact f1))⟩
      · refine g_iload (n := 20) X 4 dX12_manyOf_18 rfl rfl ?_
        refine g_aload_n (n := 21) X 0 dX12_manyOf_20 rfl rfl rfl ?_
        refine gg_12_1 (n := 24) (z := 191) X (by decide) (gsz hsz (by decide)) lay_190 kw_6_27 dX12_manyOf_21 rfl (rf_190_1 I (gsz hsz (by decide))) (by decide) ?_
        refine g_sipush (n := 27) X dX12_manyOf_24 (by decide +kernel) rfl ?_
        refine g_iload_n (n := 28) X 2 dX12_manyOf_27 rfl rfl rfl ?_
        refine g_iadd (n := 29) (z := v1 + 24700) X dX12_manyOf_28 (by omega) rfl ?_
        obtain ⟨v17, hv17, rv17⟩ := gRd I (by decide) (gsz hsz (by decide)) (rs_LCOUNT (k := v1 + 24700) (by omega)).1
        refine g_iald2 (n := 30) (v := v17) X (by decide) (gsz hsz (by decide)) lay_191 (by omega) (by omega) (by decide) dX12_manyOf_29 rfl hv17 ?_
        refine g_icmp_ge (n := 33) (tgt := 69) X dX12_manyOf_30 (by decide) (by omega) (by omega) rfl (fun c18 => ?_) (fun c18 => ?_)
        · refine g_iload (n := 71) X 3 dX12_manyOf_69 rfl rfl ?_
          exact hq _ _ _ _ dX12_manyOf_71 ⟨rfl, by omega, (by have y := xv1; have zn : M 191 (v1 + 24700) = v17 := hv17; rw [← y.1]; first | (rw [if_pos (by omega)]; have f1 := hF.1; rw [hF.2.1 (by omega)] at f1; exact f1) | (rw [if_neg (by omega)]; have f3 := hF.2.2 (by omega); have f1 := hF.1; rw [show v5 = M 191 (v1 + 24700) by omega] at f1; exact f1))⟩
        · refine g_iload (n := 35) X 3 dX12_manyOf_33 rfl rfl ?_
          refine g_aload_n (n := 36) X 0 dX12_manyOf_35 rfl rfl rfl ?_
          refine gg_12_1 (n := 39) (z := 191) X (by decide) (gsz hsz (by decide)) lay_190 kw_6_27 dX12_manyOf_36 rfl (rf_190_1 I (gsz hsz (by decide))) (by decide) ?_
          refine g_sipush (n := 42) X dX12_manyOf_39 (by decide +kernel) rfl ?_
          refine g_bipush (n := 44) X dX12_manyOf_42 (by decide +kernel) rfl ?_
          refine g_iload_n (n := 45) X 2 dX12_manyOf_44 rfl rfl rfl ?_
          refine g_imul (n := 46) (z := 8 * v1) X dX12_manyOf_45 rfl rfl ?_
          refine g_iadd (n := 47) (z := 24720 + (8 * v1)) X dX12_manyOf_46 rfl rfl ?_
          refine g_iload (n := 49) X 4 dX12_manyOf_47 rfl rfl ?_
          refine g_iadd (n := 50) (z := (24720 + (8 * v1)) + v5) X dX12_manyOf_49 rfl rfl ?_
          obtain ⟨v19, hv19, rv19⟩ := gRd I (by decide) (gsz hsz (by decide)) (rs_LWORD (k := (24720 + (8 * v1)) + v5) (by omega)).1
          refine g_iald2 (n := 51) (v := v19) X (by decide) (gsz hsz (by decide)) lay_191 (by omega) (by omega) (by decide) dX12_manyOf_50 rfl hv19 ?_
          refine g_iload_n (n := 52) X 1 dX12_manyOf_51 rfl rfl rfl ?_
          refine g_icmp_ne (n := 55) (tgt := 59) X dX12_manyOf_52 (by decide) (by omega) (by omega) rfl (fun c20 => ?_) (fun c20 => ?_)
          · refine g_iconst (n := 60) X dX12_manyOf_59 rfl ?_
            refine g_iadd (n := 61) (z := v4) X dX12_manyOf_60 (by omega) rfl ?_
            refine g_istore (n := 63) (L' := [(4, gJ v4), (0, gA n0 190), (1, gJ a), (3, gJ v1), (5, gJ v5)]) X dX12_manyOf_61 (by decide) rfl rfl ?_
            refine g_iinc (n := 66) (w := v5 + 1) (L' := [(5, gJ (v5 + 1)), (4, gJ v4), (0, gA n0 190), (1, gJ a), (3, gJ v1)]) X 4 dX12_manyOf_63 rfl rfl (by decide) rfl rfl ?_
            refine g_goto (tgt := 13) X dX12_manyOf_66 (by decide) ?_
            refine G.sub (L' := [(0, gA n0 190), (1, gJ a), (3, gJ v1), (4, gJ v4), (5, gJ (v5 + 1))]) [2, 3, 4, 1, 0] rfl ?_
            exact ih14 v4 (v5 + 1) (by omega) (by omega) (by have zn : M 191 (v1 + 24700) = v17 := hv17; have cw : M 191 (8 * v1 + v5 + 24720) = v19 := (by rw [show 8 * v1 + v5 + 24720 = (24720 + (8 * v1)) + v5 by omega]; exact hv19); refine ⟨?_, fun c => by omega, fun c => by omega⟩; rw [show (v5 + 1).toNat = v5.toNat + 1 by omega]; unfold gMa2; rw [show ((v5.toNat : Nat) : Int) = v5 by omega, cw, ← hF.1]; first | (rw [if_pos (by omega)]) | (rw [if_neg (by omega)]; omega)) (by omega) (by omega)
          · refine g_iconst (n := 56) X dX12_manyOf_55 rfl ?_
            refine g_goto (tgt := 60) X dX12_manyOf_56 (by decide) ?_
            refine g_iadd (n := 61) (z := v4 + 1) X dX12_manyOf_60 (by omega) rfl ?_
            refine g_istore (n := 63) (L' := [(4, gJ (v4 + 1)), (0, gA n0 190), (1, gJ a), (3, gJ v1), (5, gJ v5)]) X dX12_manyOf_61 (by decide) rfl rfl ?_
            refine g_iinc (n := 66) (w := v5 + 1) (L' := [(5, gJ (v5 + 1)), (4, gJ (v4 + 1)), (0, gA n0 190), (1, gJ a), (3, gJ v1)]) X 4 dX12_manyOf_63 rfl rfl (by decide) rfl rfl ?_
            refine g_goto (tgt := 13) X dX12_manyOf_66 (by decide) ?_
            refine G.sub (L' := [(0, gA n0 190), (1, gJ a), (3, gJ v1), (4, gJ (v4 + 1)), (5, gJ (v5 + 1))]) [2, 3, 4, 1, 0] rfl ?_
            exact ih14 (v4 + 1) (v5 + 1) (by omega) (by omega) (by have zn : M 191 (v1 + 24700) = v17 := hv17; have cw : M 191 (8 * v1 + v5 + 24720) = v19 := (by rw [show 8 * v1 + v5 + 24720 = (24720 + (8 * v1)) + v5 by omega]; exact hv19); refine ⟨?_, fun c => by omega, fun c => by omega⟩; rw [show (v5 + 1).toNat = v5.toNat + 1 by omega]; unfold gMa2; rw [show ((v5.toNat : Nat) : Int) = v5 by omega, cw, ← hF.1]; first | (rw [if_pos (by omega)]) | (rw [if_neg (by omega)]; omega)) (by omega) (by omega)
  refine G.sub (L' := [(0, gA n0 190), (1, gJ a), (3, gJ v1), (4, gJ 0), (5, gJ 0)]) [3, 4, 2, 1, 0] rfl ?_
  exact j7 _ 0 0 (by omega) (by omega) ⟨rfl, fun _ => rfl, fun h => (lcr h).1⟩ (by omega) (Nat.lt_succ_self _)
abbrev R_e_X12_force : Room := { frames := 3, cells := 0, slots := 0, locals := 72 }
set_option maxRecDepth 100000 in
set_option maxHeartbeats 4000000 in
theorem e_X12_force {l : Launch} {n0 : Nat} {D : va_G} {cA : Nat → ClassId} {M : gM} (a : Int) (r_a : -2147483648 ≤ a ∧ a ≤ 2147483647) (b : Int) (r_b : -2147483648 ≤ b ∧ b ≤ 2147483647) {sz : Nat} (hsz : 206 ≤ sz) (I : gI sz M) (C : gC sz M) (hV : gVn M)  : Met l yX12_force (gWsOf yX12_force cX12_force 3 (Option.some Jvm.ClassFile.FieldType.int)) R_e_X12_force (gPc n0 D cA [gA n0 190, gJ a, gJ b] M sz) (gQi n0 D cA sz (fun z M1 => M = M1 ∧ (-60 ≤ z ∧ z ≤ 9999) ∧ ((¬ (0 ≤ b ∧ b ≤ 19) ∧ z = -1) ∨ ((0 ≤ b ∧ b ≤ 19) ∧ ¬ (0 ≤ a ∧ a ≤ 300) ∧ z = -2) ∨ ((0 ≤ b ∧ b ≤ 7) ∧ (0 ≤ a ∧ a ≤ 300) ∧ z = (if gAm M b a = -1 then gWo b else gLa2 M 191 (gAm M b a) b (gWo b) (M 191 (gAm M b a + 24700)).toNat)) ∨ ((8 ≤ b ∧ b ≤ 9) ∧ (0 ≤ a ∧ a ≤ 300) ∧ z = (if gAm M b a = -1 then 0 else gMa2 M 191 (gAm M b a) b (M 191 (gAm M b a + 24700)).toNat)) ∨ ((10 ≤ b ∧ b ≤ 19) ∧ (0 ≤ a ∧ a ≤ 300) ∧ z = gAm M (b - 10) a)))) 0 0 (fun q => n0 ≤ q) := by
  refine gMetI [gA n0 190, gJ a, gJ b] (by decide) (Nat.le_of_ble_eq_true rfl) ⟨rfl, rfl⟩ ?_
  intro p e s m args below meth cd Q X hq
  have X : gCx p s m args meth cd n0 D cA "ParishUnionModel" cX12_force 3 := X
  show G p l e R_e_X12_force s m args below meth cd n0 D cA 3 Q 0 0 M sz 0 [(0, gA n0 190), (1, gJ a), (2, gJ b)] []
  refine g_iload_n (n := 1) X 2 dX12_force_0 rfl rfl rfl ?_
  refine g_iconst (n := 2) X dX12_force_1 rfl ?_
  refine g_bipush (n := 4) X dX12_force_2 (by decide +kernel) rfl ?_
  refine g_callSi (n := 7) (As := [gJ b, gJ 0, gJ 19]) (rest := []) (cs1 := 0) (ss1 := 0) X (s_X12_in b (by omega) 0 (by omega) 19 (by omega) hsz I C ) okX12_in kw_6_106 kw_6_107 ⟨rfl, rfl⟩ ⟨Nat.le_of_ble_eq_true rfl, Nat.le_of_ble_eq_true rfl⟩ rfl rfl (Nat.le_of_ble_eq_true rfl) ⟨Nat.le_of_ble_eq_true rfl, Nat.le_of_ble_eq_true rfl⟩ rfl rfl dX12_force_4 rfl (fun v1 M2 P3 => ?_)
  obtain ⟨rfl, rv1, xv1⟩ := P3
  refine g_if_ne (n := 10) (tgt := 12) X dX12_force_7 (by decide) (by omega) rfl (fun c4 => ?_) (fun c4 => ?_)
  · refine g_iload_n (n := 13) X 1 dX12_force_12 rfl rfl rfl ?_
    refine g_callSi (n := 16) (As := [gJ a]) (rest := []) (cs1 := 0) (ss1 := 0) X (s_X12_isWeek a (by omega) hsz I C ) okX12_isWeek kw_6_236 kw_6_237 ⟨rfl, rfl⟩ ⟨Nat.le_of_ble_eq_true rfl, Nat.le_of_ble_eq_true rfl⟩ rfl rfl (Nat.le_of_ble_eq_true rfl) ⟨Nat.le_of_ble_eq_true rfl, Nat.le_of_ble_eq_true rfl⟩ rfl rfl dX12_force_13 rfl (fun v5 M6 P7 => ?_)
    obtain ⟨rfl, rv5, xv5⟩ := P7
    refine g_if_ne (n := 19) (tgt := 22) X dX12_force_16 (by decide) (by omega) rfl (fun c8 => ?_) (fun c8 => ?_)
    · refine g_iload_n (n := 23) X 2 dX12_force_22 rfl rfl rfl ?_
      refine g_bipush (n := 25) X dX12_force_23 (by decide +kernel) rfl ?_
      refine g_icmp_le (n := 28) (tgt := 40) X dX12_force_25 (by decide) (by omega) (by omega) rfl (fun c9 => ?_) (fun c9 => ?_)
      · refine g_iload_n (n := 41) X 2 dX12_force_40 rfl rfl rfl ?_
        refine g_bipush (n := 43) X dX12_force_41 (by decide +kernel) rfl ?_
        refine g_icmp_le (n := 46) (tgt := 55) X dX12_force_43 (by decide) (by omega) (by omega) rfl (fun c10 => ?_) (fun c10 => ?_)
        · refine g_aload_n (n := 56) X 0 dX12_force_55 rfl rfl rfl ?_
          refine g_iload_n (n := 57) X 2 dX12_force_56 rfl rfl rfl ?_
          refine g_iload_n (n := 58) X 1 dX12_force_57 rfl rfl rfl ?_
          refine g_callVi (n := 61) (As := [gJ b, gJ a]) (rest := []) (cs1 := 0) (ss1 := 0) X (e_X12_law b (by omega) a (by omega) hsz I C hV) okX12_law kw_6_193 ⟨kw_6_195, kw_0_49⟩ ⟨rfl, rfl⟩ ⟨Nat.le_of_ble_eq_true rfl, Nat.le_of_ble_eq_true rfl⟩ rfl (by decide) (gsz hsz (by decide)) lay_190 rfl rfl (Nat.le_of_ble_eq_true rfl) ⟨Nat.le_of_ble_eq_true rfl, Nat.le_of_ble_eq_true rfl⟩ rfl rfl dX12_force_58 rfl (fun v11 M12 P13 => ?_)
          obtain ⟨rfl, rv11, xv11⟩ := P13
          exact hq _ _ _ _ dX12_force_61 ⟨rfl, by omega, (by first | exact Or.inr (Or.inr (Or.inl ⟨by omega, by omega, xv11⟩)) | exact Or.inr (Or.inr (Or.inr (Or.inl ⟨by omega, by omega, xv11⟩))) | exact Or.inr (Or.inr (Or.inr (Or.inr ⟨by omega, by omega, xv11.1⟩))))⟩
        · refine g_aload_n (n := 47) X 0 dX12_force_46 rfl rfl rfl ?_
          refine g_iload_n (n := 48) X 2 dX12_force_47 rfl rfl rfl ?_
          refine g_iload_n (n := 49) X 1 dX12_force_48 rfl rfl rfl ?_
          refine g_callVi (n := 52) (As := [gJ b, gJ a]) (rest := []) (cs1 := 0) (ss1 := 0) X (e_X12_manyOf b (by omega) a (by omega) hsz I C hV) okX12_manyOf kw_7_74 ⟨kw_7_76, kw_0_69⟩ ⟨rfl, rfl⟩ ⟨Nat.le_of_ble_eq_true rfl, Nat.le_of_ble_eq_true rfl⟩ rfl (by decide) (gsz hsz (by decide)) lay_190 rfl rfl (Nat.le_of_ble_eq_true rfl) ⟨Nat.le_of_ble_eq_true rfl, Nat.le_of_ble_eq_true rfl⟩ rfl rfl dX12_force_49 rfl (fun v14 M15 P16 => ?_)
          obtain ⟨rfl, rv14, xv14⟩ := P16
          refine g_goto (tgt := 61) X dX12_force_52 (by decide) ?_
          exact hq _ _ _ _ dX12_force_61 ⟨rfl, by omega, (by first | exact Or.inr (Or.inr (Or.inl ⟨by omega, by omega, xv14⟩)) | exact Or.inr (Or.inr (Or.inr (Or.inl ⟨by omega, by omega, xv14⟩))) | exact Or.inr (Or.inr (Or.inr (Or.inr ⟨by omega, by omega, xv14.1⟩))))⟩
      · refine g_aload_n (n := 29) X 0 dX12_force_28 rfl rfl rfl ?_
        refine g_iload_n (n := 30) X 2 dX12_force_29 rfl rfl rfl ?_
        refine g_bipush (n := 32) X dX12_force_30 (by decide +kernel) rfl ?_
        refine g_isub (n := 33) (z := b - 10) X dX12_force_32 (by omega) rfl ?_
        refine g_iload_n (n := 34) X 1 dX12_force_33 rfl rfl rfl ?_
        refine g_callVi (n := 37) (As := [gJ (b - 10), gJ a]) (rest := []) (cs1 := 0) (ss1 := 0) X (e_X12_actOf (b - 10) (by omega) a (by omega) hsz I C hV) okX12_actOf kw_6_197 ⟨kw_6_199, kw_0_50⟩ ⟨rfl, rfl⟩ ⟨Nat.le_of_ble_eq_true rfl, Nat.le_of_ble_eq_true rfl⟩ rfl (by decide) (gsz hsz (by decide)) lay_190 rfl rfl (Nat.le_of_ble_eq_true rfl) ⟨Nat.le_of_ble_eq_true rfl, Nat.le_of_ble_eq_true rfl⟩ rfl rfl dX12_force_34 rfl (fun v17 M18 P19 => ?_)
        obtain ⟨rfl, rv17, xv17⟩ := P19
        refine g_goto (tgt := 61) X dX12_force_37 (by decide) ?_
        exact hq _ _ _ _ dX12_force_61 ⟨rfl, by omega, (by first | exact Or.inr (Or.inr (Or.inl ⟨by omega, by omega, xv17⟩)) | exact Or.inr (Or.inr (Or.inr (Or.inl ⟨by omega, by omega, xv17⟩))) | exact Or.inr (Or.inr (Or.inr (Or.inr ⟨by omega, by omega, xv17.1⟩))))⟩
    · refine g_bipush (n := 21) X dX12_force_19 (by decide +kernel) rfl ?_
      exact hq _ _ _ _ dX12_force_21 ⟨rfl, by omega, by omega⟩
  · refine g_iconst (n := 11) X dX12_force_10 rfl ?_
    exact hq _ _ _ _ dX12_force_11 ⟨rfl, by omega, by omega⟩
