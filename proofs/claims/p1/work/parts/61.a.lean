theorem g_lawret {p : Program} {e : Env} {s : State} {m : MethodId} {below : List Frame} {meth : Method} {c : Code} {l : Launch} {D : va_G} {cA : Nat → ClassId} {b : Nat} {xs : Nat → Int32} (X : gCx p s m #[Value.ref b] meth c s.heap.size D cA "ParishUnionLaw" code 4) (hr : meth.sig.returnType = ret) (hb : b < s.heap.size ∧ va_X b 7 xs s s.heap) {cells slots : Nat} {M : gM} {sz pc : Nat} {Lv : List (Nat × Value)} (h1 : cells ≤ 600000) (h2 : slots ≤ 7302249) (hd : decode code pc = .ok (.ireturn, 1)) : G p l e room_1 s m #[Value.ref b] below meth c s.heap.size D cA 4 (lw_Z below #[Value.ref b] s) cells slots M sz pc Lv [gJ 1] := by
  intro H locs ls hl hW hS
  refine va_forget (fun q hq => hS.2.2 q hq) ?_
  refine W.widen h1 h2 ?_
  rw [show gJ 1 = Value.int 1 from congrArg Value.int (by decide +kernel : Int32.ofInt 1 = 1)]
  exact lw_ret X.1 X.2.1 hr X.2.2.2.2.2.1 hd
theorem dL_law_1992 : decode code 1992 = .ok (.iinc 3 7, 3) := by decide +kernel
theorem dL_law_1995 : decode code 1995 = .ok (.goto (-1977), 3) := by decide +kernel
theorem dL_law_18 : decode code 18 = .ok (.iload_n 3, 1) := by decide +kernel
theorem dL_law_19 : decode code 19 = .ok (.aload_n 0, 1) := by decide +kernel
theorem dL_law_20 : decode code 20 = .ok (.arraylength, 1) := by decide +kernel
theorem dL_law_21 : decode code 21 = .ok (.bipush 7, 2) := by decide +kernel
theorem dL_law_23 : decode code 23 = .ok (.isub, 1) := by decide +kernel
theorem dL_law_24 : decode code 24 = .ok (.if_icmp .gt 1974, 3) := by decide +kernel
theorem dL_law_1998 : decode code 1998 = .ok (.iconst 1, 1) := by decide +kernel
theorem dL_law_1999 : decode code 1999 = .ok (.ireturn, 1) := by decide +kernel
set_option maxHeartbeats 1000000 in
theorem law_tail {p : Program} {e : Env} {s : State} {m : MethodId} {below : List Frame} {meth : Method} {c : Code} {l : Launch} {D : va_G} {cA : Nat → ClassId} {b : Nat} {xs : Nat → Int32} (X : gCx p s m #[Value.ref b] meth c s.heap.size D cA "ParishUnionLaw" code 4) (hr : meth.sig.returnType = ret) (hb : b < s.heap.size ∧ va_X b 7 xs s s.heap) {cells slots : Nat} {M : gM} {sz : Nat} (h1 : cells ≤ 600000) (h2 : slots ≤ 7302249) : G p l e room_1 s m #[Value.ref b] below meth c s.heap.size D cA 4 (lw_Z below #[Value.ref b] s) cells slots M sz 1992 [(3, gJ 0), (2, gA s.heap.size 190), (1, gA s.heap.size 0), (0, .ref b)] [] := by
  refine g_iinc (n := 1995) (w := 7) (L' := [(3, gJ 7), (2, gA s.heap.size 190), (1, gA s.heap.size 0), (0, .ref b)]) X 0 dL_law_1992 rfl rfl (by decide) rfl rfl ?_
  refine g_goto (tgt := 18) X dL_law_1995 (by decide) ?_
  refine g_iload_n (n := 19) X 0 dL_law_18 rfl rfl rfl ?_
  refine g_aload_n (n := 20) X 3 dL_law_19 rfl rfl rfl ?_
  refine g_scrlen (n := 21) (z := 7) X hb (by decide +kernel) dL_law_20 rfl ?_
  refine g_bipush (n := 23) X dL_law_21 (by decide +kernel) rfl ?_
  refine g_isub (n := 24) (z := 0) X dL_law_23 rfl rfl ?_
  refine g_icmp_gt (n := 27) (tgt := 1998) X dL_law_24 (by decide) (by omega) (by omega) rfl (fun c1 => ?_) (fun c1 => by exfalso; omega)
  refine g_iconst (n := 1999) X dL_law_1998 rfl ?_
  exact g_lawret X hr hb h1 h2 dL_law_1999
def gFr0 (M : gM) : Prop := M 0 0 = 2 ∧ M 0 1 = 154 ∧ M 0 2 = 160 ∧ M 0 3 = 162 ∧ M 0 4 = 163 ∧ M 0 5 = 171 ∧ M 0 6 = 172 ∧ M 0 7 = 173 ∧ M 0 8 = 174 ∧ M 0 9 = 0 ∧ M 1 0 = 3 ∧ M 1 1 = 6
def gFr1 (M : gM) : Prop := M 1 2 = 7 ∧ M 1 3 = 8 ∧ M 1 4 = 9 ∧ M 1 5 = 10 ∧ M 1 6 = 16 ∧ M 1 7 = 24 ∧ M 1 8 = 27 ∧ M 1 9 = 31 ∧ M 1 10 = 0 ∧ M 1 11 = 0 ∧ M 1 12 = 0 ∧ M 1 13 = 0
def gFr2 (M : gM) : Prop := M 1 14 = 0 ∧ M 1 15 = 0 ∧ M 2 0 = 4 ∧ M 2 1 = 5 ∧ M 5 0 = 32 ∧ M 7 0 = 88 ∧ M 9 0 = 11 ∧ M 9 1 = 12 ∧ M 9 2 = 13 ∧ M 9 3 = 14 ∧ M 9 4 = 15 ∧ M 9 5 = 0
def gFr3 (M : gM) : Prop := M 15 0 = 17 ∧ M 15 1 = 18 ∧ M 15 2 = 19 ∧ M 15 3 = 20 ∧ M 15 4 = 21 ∧ M 15 5 = 22 ∧ M 15 6 = 23 ∧ M 15 7 = 0 ∧ M 15 8 = 0 ∧ M 15 9 = 1 ∧ M 23 0 = 25 ∧ M 23 1 = 26
def gFr4 (M : gM) : Prop := M 26 0 = 28 ∧ M 26 1 = 29 ∧ M 26 2 = 30 ∧ M 26 3 = 0 ∧ M 87 0 = 89 ∧ M 87 1 = 90 ∧ M 87 2 = 91 ∧ M 87 3 = 92 ∧ M 87 4 = 93 ∧ M 153 0 = 155 ∧ M 153 1 = 156 ∧ M 153 2 = 157
def gFr5 (M : gM) : Prop := M 153 3 = 158 ∧ M 153 4 = 159 ∧ M 159 0 = 161 ∧ M 190 0 = 0 ∧ M 190 1 = 192 ∧ M 190 2 = 193 ∧ M 190 3 = 194 ∧ M 190 4 = 0 ∧ M 190 5 = 195 ∧ M 190 6 = 196 ∧ M 190 7 = 197 ∧ M 190 8 = 0
def gFr6 (M : gM) : Prop := M 190 9 = 198 ∧ M 190 10 = 199 ∧ M 190 11 = 0 ∧ M 190 12 = 0 ∧ M 190 13 = 0 ∧ M 190 14 = 0 ∧ M 190 15 = 0 ∧ M 190 16 = 200 ∧ M 190 17 = 201 ∧ M 190 18 = 202 ∧ M 190 19 = 1 ∧ M 190 20 = 203
def gFr7 (M : gM) : Prop := M 190 21 = 204 ∧ M 190 22 = 205 ∧ M 190 23 = 206 ∧ (∀ i : Int, 0 ≤ i → i < 6 → M 3 i = 100) ∧ (∀ i : Int, 0 ≤ i → i < 36 → (i % 7 = 0 → M 4 i = 0) ∧ (¬ i % 7 = 0 → M 4 i = 99)) ∧ (∀ i : Int, 0 ≤ i → i < 4 → M 16 i = 2) ∧ (∀ i : Int, 0 ≤ i → i < 301 → M 17 i = 0) ∧ (∀ i : Int, 0 ≤ i → i < 3 → M 18 i = 0) ∧ (∀ i : Int, 0 ≤ i → i < 4 → M 30 i = 0) ∧ (∀ i : Int, 0 ≤ i → i < 150 → M 8 i = 0) ∧ (∀ i : Int, 0 ≤ i → i < 20 → M 14 i = 0) ∧ (∀ i : Int, 0 ≤ i → i < 25301 → M 191 i = gS0 i)
def gFr (M : gM) : Prop := gFr0 M ∧ gFr1 M ∧ gFr2 M ∧ gFr3 M ∧ gFr4 M ∧ gFr5 M ∧ gFr6 M ∧ gFr7 M
theorem gFrc_0 {M : gM} (h : gFr M) : gFr0 M := h.1
theorem gFr_0_0 {M : gM} (h : gFr M) : M 0 0 = 2 := (gFrc_0 h).1
theorem gFr_0_1 {M : gM} (h : gFr M) : M 0 1 = 154 := (gFrc_0 h).2.1
theorem gFr_0_2 {M : gM} (h : gFr M) : M 0 2 = 160 := (gFrc_0 h).2.2.1
theorem gFr_0_3 {M : gM} (h : gFr M) : M 0 3 = 162 := (gFrc_0 h).2.2.2.1
theorem gFr_0_4 {M : gM} (h : gFr M) : M 0 4 = 163 := (gFrc_0 h).2.2.2.2.1
theorem gFr_0_5 {M : gM} (h : gFr M) : M 0 5 = 171 := (gFrc_0 h).2.2.2.2.2.1
theorem gFr_0_6 {M : gM} (h : gFr M) : M 0 6 = 172 := (gFrc_0 h).2.2.2.2.2.2.1
theorem gFr_0_7 {M : gM} (h : gFr M) : M 0 7 = 173 := (gFrc_0 h).2.2.2.2.2.2.2.1
theorem gFr_0_8 {M : gM} (h : gFr M) : M 0 8 = 174 := (gFrc_0 h).2.2.2.2.2.2.2.2.1
theorem gFr_0_9 {M : gM} (h : gFr M) : M 0 9 = 0 := (gFrc_0 h).2.2.2.2.2.2.2.2.2.1
theorem gFr_1_0 {M : gM} (h : gFr M) : M 1 0 = 3 := (gFrc_0 h).2.2.2.2.2.2.2.2.2.2.1
theorem gFr_1_1 {M : gM} (h : gFr M) : M 1 1 = 6 := (gFrc_0 h).2.2.2.2.2.2.2.2.2.2.2
theorem gFrc_1 {M : gM} (h : gFr M) : gFr1 M := h.2.1
theorem gFr_1_2 {M : gM} (h : gFr M) : M 1 2 = 7 := (gFrc_1 h).1
theorem gFr_1_3 {M : gM} (h : gFr M) : M 1 3 = 8 := (gFrc_1 h).2.1
theorem gFr_1_4 {M : gM} (h : gFr M) : M 1 4 = 9 := (gFrc_1 h).2.2.1
theorem gFr_1_5 {M : gM} (h : gFr M) : M 1 5 = 10 := (gFrc_1 h).2.2.2.1
theorem gFr_1_6 {M : gM} (h : gFr M) : M 1 6 = 16 := (gFrc_1 h).2.2.2.2.1
theorem gFr_1_7 {M : gM} (h : gFr M) : M 1 7 = 24 := (gFrc_1 h).2.2.2.2.2.1
theorem gFr_1_8 {M : gM} (h : gFr M) : M 1 8 = 27 := (gFrc_1 h).2.2.2.2.2.2.1
theorem gFr_1_9 {M : gM} (h : gFr M) : M 1 9 = 31 := (gFrc_1 h).2.2.2.2.2.2.2.1
theorem gFr_1_10 {M : gM} (h : gFr M) : M 1 10 = 0 := (gFrc_1 h).2.2.2.2.2.2.2.2.1
theorem gFr_1_11 {M : gM} (h : gFr M) : M 1 11 = 0 := (gFrc_1 h).2.2.2.2.2.2.2.2.2.1
theorem gFr_1_12 {M : gM} (h : gFr M) : M 1 12 = 0 := (gFrc_1 h).2.2.2.2.2.2.2.2.2.2.1
theorem gFr_1_13 {M : gM} (h : gFr M) : M 1 13 = 0 := (gFrc_1 h).2.2.2.2.2.2.2.2.2.2.2
theorem gFrc_2 {M : gM} (h : gFr M) : gFr2 M := h.2.2.1
theorem gFr_1_14 {M : gM} (h : gFr M) : M 1 14 = 0 := (gFrc_2 h).1
theorem gFr_1_15 {M : gM} (h : gFr M) : M 1 15 = 0 := (gFrc_2 h).2.1
theorem gFr_2_0 {M : gM} (h : gFr M) : M 2 0 = 4 := (gFrc_2 h).2.2.1
theorem gFr_2_1 {M : gM} (h : gFr M) : M 2 1 = 5 := (gFrc_2 h).2.2.2.1
theorem gFr_5_0 {M : gM} (h : gFr M) : M 5 0 = 32 := (gFrc_2 h).2.2.2.2.1
theorem gFr_7_0 {M : gM} (h : gFr M) : M 7 0 = 88 := (gFrc_2 h).2.2.2.2.2.1
theorem gFr_9_0 {M : gM} (h : gFr M) : M 9 0 = 11 := (gFrc_2 h).2.2.2.2.2.2.1
theorem gFr_9_1 {M : gM} (h : gFr M) : M 9 1 = 12 := (gFrc_2 h).2.2.2.2.2.2.2.1
theorem gFr_9_2 {M : gM} (h : gFr M) : M 9 2 = 13 := (gFrc_2 h).2.2.2.2.2.2.2.2.1
theorem gFr_9_3 {M : gM} (h : gFr M) : M 9 3 = 14 := (gFrc_2 h).2.2.2.2.2.2.2.2.2.1
theorem gFr_9_4 {M : gM} (h : gFr M) : M 9 4 = 15 := (gFrc_2 h).2.2.2.2.2.2.2.2.2.2.1
theorem gFr_9_5 {M : gM} (h : gFr M) : M 9 5 = 0 := (gFrc_2 h).2.2.2.2.2.2.2.2.2.2.2
theorem gFrc_3 {M : gM} (h : gFr M) : gFr3 M := h.2.2.2.1
theorem gFr_15_0 {M : gM} (h : gFr M) : M 15 0 = 17 := (gFrc_3 h).1
theorem gFr_15_1 {M : gM} (h : gFr M) : M 15 1 = 18 := (gFrc_3 h).2.1
theorem gFr_15_2 {M : gM} (h : gFr M) : M 15 2 = 19 := (gFrc_3 h).2.2.1
theorem gFr_15_3 {M : gM} (h : gFr M) : M 15 3 = 20 := (gFrc_3 h).2.2.2.1
theorem gFr_15_4 {M : gM} (h : gFr M) : M 15 4 = 21 := (gFrc_3 h).2.2.2.2.1
theorem gFr_15_5 {M : gM} (h : gFr M) : M 15 5 = 22 := (gFrc_3 h).2.2.2.2.2.1
theorem gFr_15_6 {M : gM} (h : gFr M) : M 15 6 = 23 := (gFrc_3 h).2.2.2.2.2.2.1
theorem gFr_15_7 {M : gM} (h : gFr M) : M 15 7 = 0 := (gFrc_3 h).2.2.2.2.2.2.2.1
theorem gFr_15_8 {M : gM} (h : gFr M) : M 15 8 = 0 := (gFrc_3 h).2.2.2.2.2.2.2.2.1
theorem gFr_15_9 {M : gM} (h : gFr M) : M 15 9 = 1 := (gFrc_3 h).2.2.2.2.2.2.2.2.2.1
theorem gFr_23_0 {M : gM} (h : gFr M) : M 23 0 = 25 := (gFrc_3 h).2.2.2.2.2.2.2.2.2.2.1
theorem gFr_23_1 {M : gM} (h : gFr M) : M 23 1 = 26 := (gFrc_3 h).2.2.2.2.2.2.2.2.2.2.2
theorem gFrc_4 {M : gM} (h : gFr M) : gFr4 M := h.2.2.2.2.1
theorem gFr_26_0 {M : gM} (h : gFr M) : M 26 0 = 28 := (gFrc_4 h).1
theorem gFr_26_1 {M : gM} (h : gFr M) : M 26 1 = 29 := (gFrc_4 h).2.1
theorem gFr_26_2 {M : gM} (h : gFr M) : M 26 2 = 30 := (gFrc_4 h).2.2.1
theorem gFr_26_3 {M : gM} (h : gFr M) : M 26 3 = 0 := (gFrc_4 h).2.2.2.1
theorem gFr_87_0 {M : gM} (h : gFr M) : M 87 0 = 89 := (gFrc_4 h).2.2.2.2.1
theorem gFr_87_1 {M : gM} (h : gFr M) : M 87 1 = 90 := (gFrc_4 h).2.2.2.2.2.1
theorem gFr_87_2 {M : gM} (h : gFr M) : M 87 2 = 91 := (gFrc_4 h).2.2.2.2.2.2.1
theorem gFr_87_3 {M : gM} (h : gFr M) : M 87 3 = 92 := (gFrc_4 h).2.2.2.2.2.2.2.1
theorem gFr_87_4 {M : gM} (h : gFr M) : M 87 4 = 93 := (gFrc_4 h).2.2.2.2.2.2.2.2.1
theorem gFr_153_0 {M : gM} (h : gFr M) : M 153 0 = 155 := (gFrc_4 h).2.2.2.2.2.2.2.2.2.1
theorem gFr_153_1 {M : gM} (h : gFr M) : M 153 1 = 156 := (gFrc_4 h).2.2.2.2.2.2.2.2.2.2.1
theorem gFr_153_2 {M : gM} (h : gFr M) : M 153 2 = 157 := (gFrc_4 h).2.2.2.2.2.2.2.2.2.2.2
theorem gFrc_5 {M : gM} (h : gFr M) : gFr5 M := h.2.2.2.2.2.1
theorem gFr_153_3 {M : gM} (h : gFr M) : M 153 3 = 158 := (gFrc_5 h).1
theorem gFr_153_4 {M : gM} (h : gFr M) : M 153 4 = 159 := (gFrc_5 h).2.1
theorem gFr_159_0 {M : gM} (h : gFr M) : M 159 0 = 161 := (gFrc_5 h).2.2.1
theorem gFr_190_0 {M : gM} (h : gFr M) : M 190 0 = 0 := (gFrc_5 h).2.2.2.1
theorem gFr_190_1 {M : gM} (h : gFr M) : M 190 1 = 192 := (gFrc_5 h).2.2.2.2.1
theorem gFr_190_2 {M : gM} (h : gFr M) : M 190 2 = 193 := (gFrc_5 h).2.2.2.2.2.1
theorem gFr_190_3 {M : gM} (h : gFr M) : M 190 3 = 194 := (gFrc_5 h).2.2.2.2.2.2.1
theorem gFr_190_4 {M : gM} (h : gFr M) : M 190 4 = 0 := (gFrc_5 h).2.2.2.2.2.2.2.1
theorem gFr_190_5 {M : gM} (h : gFr M) : M 190 5 = 195 := (gFrc_5 h).2.2.2.2.2.2.2.2.1
theorem gFr_190_6 {M : gM} (h : gFr M) : M 190 6 = 196 := (gFrc_5 h).2.2.2.2.2.2.2.2.2.1
theorem gFr_190_7 {M : gM} (h : gFr M) : M 190 7 = 197 := (gFrc_5 h).2.2.2.2.2.2.2.2.2.2.1
theorem gFr_190_8 {M : gM} (h : gFr M) : M 190 8 = 0 := (gFrc_5 h).2.2.2.2.2.2.2.2.2.2.2
theorem gFrc_6 {M : gM} (h : gFr M) : gFr6 M := h.2.2.2.2.2.2.1
theorem gFr_190_9 {M : gM} (h : gFr M) : M 190 9 = 198 := (gFrc_6 h).1
theorem gFr_190_10 {M : gM} (h : gFr M) : M 190 10 = 199 := (gFrc_6 h).2.1
theorem gFr_190_11 {M : gM} (h : gFr M) : M 190 11 = 0 := (gFrc_6 h).2.2.1
theorem gFr_190_12 {M : gM} (h : gFr M) : M 190 12 = 0 := (gFrc_6 h).2.2.2.1
theorem gFr_190_13 {M : gM} (h : gFr M) : M 190 13 = 0 := (gFrc_6 h).2.2.2.2.1
theorem gFr_190_14 {M : gM} (h : gFr M) : M 190 14 = 0 := (gFrc_6 h).2.2.2.2.2.1
theorem gFr_190_15 {M : gM} (h : gFr M) : M 190 15 = 0 := (gFrc_6 h).2.2.2.2.2.2.1
theorem gFr_190_16 {M : gM} (h : gFr M) : M 190 16 = 200 := (gFrc_6 h).2.2.2.2.2.2.2.1
theorem gFr_190_17 {M : gM} (h : gFr M) : M 190 17 = 201 := (gFrc_6 h).2.2.2.2.2.2.2.2.1
theorem gFr_190_18 {M : gM} (h : gFr M) : M 190 18 = 202 := (gFrc_6 h).2.2.2.2.2.2.2.2.2.1
theorem gFr_190_19 {M : gM} (h : gFr M) : M 190 19 = 1 := (gFrc_6 h).2.2.2.2.2.2.2.2.2.2.1
theorem gFr_190_20 {M : gM} (h : gFr M) : M 190 20 = 203 := (gFrc_6 h).2.2.2.2.2.2.2.2.2.2.2
theorem gFrc_7 {M : gM} (h : gFr M) : gFr7 M := h.2.2.2.2.2.2.2
theorem gFr_190_21 {M : gM} (h : gFr M) : M 190 21 = 204 := (gFrc_7 h).1
theorem gFr_190_22 {M : gM} (h : gFr M) : M 190 22 = 205 := (gFrc_7 h).2.1
theorem gFr_190_23 {M : gM} (h : gFr M) : M 190 23 = 206 := (gFrc_7 h).2.2.1
theorem gFr_rents {M : gM} (h : gFr M) : (∀ i : Int, 0 ≤ i → i < 6 → M 3 i = 100) := (gFrc_7 h).2.2.2.1
theorem gFr_way {M : gM} (h : gFr M) : (∀ i : Int, 0 ≤ i → i < 36 → (i % 7 = 0 → M 4 i = 0) ∧ (¬ i % 7 = 0 → M 4 i = 99)) := (gFrc_7 h).2.2.2.2.1
theorem gFr_beds {M : gM} (h : gFr M) : (∀ i : Int, 0 ≤ i → i < 4 → M 16 i = 2) := (gFrc_7 h).2.2.2.2.2.1
theorem gFr_frost0 {M : gM} (h : gFr M) : (∀ i : Int, 0 ≤ i → i < 301 → M 17 i = 0) := (gFrc_7 h).2.2.2.2.2.2.1
theorem gFr_rows0 {M : gM} (h : gFr M) : (∀ i : Int, 0 ≤ i → i < 3 → M 18 i = 0) := (gFrc_7 h).2.2.2.2.2.2.2.1
theorem gFr_rooms0 {M : gM} (h : gFr M) : (∀ i : Int, 0 ≤ i → i < 4 → M 30 i = 0) := (gFrc_7 h).2.2.2.2.2.2.2.2.1
theorem gFr_tape0 {M : gM} (h : gFr M) : (∀ i : Int, 0 ≤ i → i < 150 → M 8 i = 0) := (gFrc_7 h).2.2.2.2.2.2.2.2.2.1
theorem gFr_car0 {M : gM} (h : gFr M) : (∀ i : Int, 0 ≤ i → i < 20 → M 14 i = 0) := (gFrc_7 h).2.2.2.2.2.2.2.2.2.2.1
theorem gFr_hS {M : gM} (h : gFr M) : (∀ i : Int, 0 ≤ i → i < 25301 → M 191 i = gS0 i) := (gFrc_7 h).2.2.2.2.2.2.2.2.2.2.2
