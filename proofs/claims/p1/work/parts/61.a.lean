theorem g_lawret {p : Program} {e : Env} {s : State} {m : MethodId} {below : List Frame} {meth : Method} {c : Code} {l : Launch} {D : va_G} {cA : Nat → ClassId} {b : Nat} {xs : Nat → Int32} (X : gCx p s m #[Value.ref b] meth c s.heap.size D cA "ParishUnionLaw" code 4) (hr : meth.sig.returnType = ret) (hb : b < s.heap.size ∧ va_X b 7 xs s s.heap) {cells slots : Nat} {M : gM} {sz pc : Nat} {Lv : List (Nat × Value)} (h1 : cells ≤ 600000) (h2 : slots ≤ 7302249) (hd : decode code pc = .ok (.ireturn, 1)) : G p l e room_1 s m #[Value.ref b] below meth c s.heap.size D cA 4 (lw_Z below #[Value.ref b] s) cells slots M sz pc Lv [gJ 1] := by
  intro H locs ls hl hW hS
  refine va_forget (fun q hq => hS.2.2 q hq) ?_
  refine W.widen h1 h2 ?_
  rw [show gJ 1 = Value.int 1 from congrArg Value.int (by decide +kernel : Int32.ofInt 1 = 1)]
  exact lw_ret X.1 X.2.1 hr X.2.2.2.2.2.1 hd
theorem dL_law_1992 : decode code 1992 = .ok (.iinc 3 7, 3) := by decide +kernel
theorem dL_law_1995 : decode code 1995 = .ok (.goto (-1977), 3) := by decide +kernel
theorem dL_law_18 : decode code 18 = .ok (.iload_n 3, 1) := by decide +kernel
theorem dL_law_19 : decode code 19 = .ok (.aload_n 0, 1) := by decide +kernel
theorem dL_law_20 : decode code 20 = .ok (.arraylength, 1) := by decide +kernel
theorem dL_law_21 : decode code 21 = .ok (.bipush 7, 2) := by decide +kernel
theorem dL_law_23 : decode code 23 = .ok (.isub, 1) := by decide +kernel
theorem dL_law_24 : decode code 24 = .ok (.if_icmp .gt 1974, 3) := by decide +kernel
theorem dL_law_1998 : decode code 1998 = .ok (.iconst 1, 1) := by decide +kernel
theorem dL_law_1999 : decode code 1999 = .ok (.ireturn, 1) := by decide +kernel
set_option maxHeartbeats 1000000 in
theorem law_tail {p : Program} {e : Env} {s : State} {m : MethodId} {below : List Frame} {meth : Method} {c : Code} {l : Launch} {D : va_G} {cA : Nat → ClassId} {b : Nat} {xs : Nat → Int32} (X : gCx p s m #[Value.ref b] meth c s.heap.size D cA "ParishUnionLaw" code 4) (hr : meth.sig.returnType = ret) (hb : b < s.heap.size ∧ va_X b 7 xs s s.heap) {cells slots : Nat} {M : gM} {sz : Nat} (h1 : cells ≤ 600000) (h2 : slots ≤ 7302249) : G p l e room_1 s m #[Value.ref b] below meth c s.heap.size D cA 4 (lw_Z below #[Value.ref b] s) cells slots M sz 1992 [(3, gJ 0), (2, gA s.heap.size 190), (1, gA s.heap.size 0), (0, .ref b)] [] := by
  refine g_iinc (n := 1995) (w := 7) (L' := [(3, gJ 7), (2, gA s.heap.size 190), (1, gA s.heap.size 0), (0, .ref b)]) X 0 dL_law_1992 rfl rfl (by decide) rfl rfl ?_
  refine g_goto (tgt := 18) X dL_law_1995 (by decide) ?_
  refine g_iload_n (n := 19) X 0 dL_law_18 rfl rfl rfl ?_
  refine g_aload_n (n := 20) X 3 dL_law_19 rfl rfl rfl ?_
  refine g_scrlen (n := 21) (z := 7) X hb (by decide +kernel) dL_law_20 rfl ?_
  refine g_bipush (n := 23) X dL_law_21 (by decide +kernel) rfl ?_
  refine g_isub (n := 24) (z := 0) X dL_law_23 rfl rfl ?_
  refine g_icmp_gt (n := 27) (tgt := 1998) X dL_law_24 (by decide) (by omega) (by omega) rfl (fun c1 => ?_) (fun c1 => by exfalso; omega)
  refine g_iconst (n := 1999) X dL_law_1998 rfl ?_
  exact g_lawret X hr hb h1 h2 dL_law_1999
def gFr (M : gM) : Prop := M 0 0 = 2 ∧ M 0 1 = 154 ∧ M 0 2 = 160 ∧ M 0 3 = 162 ∧ M 0 4 = 163 ∧ M 0 5 = 171 ∧ M 0 6 = 172 ∧ M 0 7 = 173 ∧ M 0 8 = 174 ∧ M 0 9 = 0 ∧ M 1 0 = 3 ∧ M 1 1 = 6 ∧ M 1 2 = 7 ∧ M 1 3 = 8 ∧ M 1 4 = 9 ∧ M 1 5 = 10 ∧ M 1 6 = 16 ∧ M 1 7 = 24 ∧ M 1 8 = 27 ∧ M 1 9 = 31 ∧ M 1 10 = 0 ∧ M 1 11 = 0 ∧ M 1 12 = 0 ∧ M 1 13 = 0 ∧ M 1 14 = 0 ∧ M 1 15 = 0 ∧ M 2 0 = 4 ∧ M 2 1 = 5 ∧ M 5 0 = 32 ∧ M 7 0 = 88 ∧ M 9 0 = 11 ∧ M 9 1 = 12 ∧ M 9 2 = 13 ∧ M 9 3 = 14 ∧ M 9 4 = 15 ∧ M 9 5 = 0 ∧ M 15 0 = 17 ∧ M 15 1 = 18 ∧ M 15 2 = 19 ∧ M 15 3 = 20 ∧ M 15 4 = 21 ∧ M 15 5 = 22 ∧ M 15 6 = 23 ∧ M 15 7 = 0 ∧ M 15 8 = 0 ∧ M 15 9 = 1 ∧ M 23 0 = 25 ∧ M 23 1 = 26 ∧ M 26 0 = 28 ∧ M 26 1 = 29 ∧ M 26 2 = 30 ∧ M 26 3 = 0 ∧ M 87 0 = 89 ∧ M 87 1 = 90 ∧ M 87 2 = 91 ∧ M 87 3 = 92 ∧ M 87 4 = 93 ∧ M 153 0 = 155 ∧ M 153 1 = 156 ∧ M 153 2 = 157 ∧ M 153 3 = 158 ∧ M 153 4 = 159 ∧ M 159 0 = 161 ∧ M 190 0 = 0 ∧ M 190 1 = 192 ∧ M 190 2 = 193 ∧ M 190 3 = 194 ∧ M 190 4 = 0 ∧ M 190 5 = 195 ∧ M 190 6 = 196 ∧ M 190 7 = 197 ∧ M 190 8 = 0 ∧ M 190 9 = 198 ∧ M 190 10 = 199 ∧ M 190 11 = 0 ∧ M 190 12 = 0 ∧ M 190 13 = 0 ∧ M 190 14 = 0 ∧ M 190 15 = 0 ∧ M 190 16 = 200 ∧ M 190 17 = 201 ∧ M 190 18 = 202 ∧ M 190 19 = 1 ∧ M 190 20 = 203 ∧ M 190 21 = 204 ∧ M 190 22 = 205 ∧ M 190 23 = 206 ∧ (∀ i : Int, 0 ≤ i → i < 6 → M 3 i = 100) ∧ (∀ i : Int, 0 ≤ i → i < 36 → (i % 7 = 0 → M 4 i = 0) ∧ (¬ i % 7 = 0 → M 4 i = 99)) ∧ (∀ i : Int, 0 ≤ i → i < 4 → M 16 i = 2) ∧ (∀ i : Int, 0 ≤ i → i < 301 → M 17 i = 0) ∧ (∀ i : Int, 0 ≤ i → i < 3 → M 18 i = 0) ∧ (∀ i : Int, 0 ≤ i → i < 4 → M 30 i = 0) ∧ (∀ i : Int, 0 ≤ i → i < 150 → M 8 i = 0) ∧ (∀ i : Int, 0 ≤ i → i < 20 → M 14 i = 0) ∧ (∀ i : Int, 0 ≤ i → i < 25301 → M 191 i = gS0 i)
