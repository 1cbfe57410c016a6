/-! ===== BASE: class tables, the layout of the heap, words ===== -/
def gNF (c : Nat) : Nat := match c with
  | 0 => 8
  | 1 => 8
  | 2 => 10
  | 3 => 2
  | 4 => 6
  | 5 => 2
  | 6 => 16
  | 7 => 5
  | 8 => 9
  | 9 => 16
  | 10 => 4
  | 11 => 10
  | _ => 24
def gTY (c : Nat) : Nat → FieldType := match c with
  | 0 => tyX0
  | 1 => tyX1
  | 2 => tyX2
  | 3 => tyX3
  | 4 => tyX4
  | 5 => tyX5
  | 6 => tyX6
  | 7 => tyX7
  | 8 => tyX8
  | 9 => tyX9
  | 10 => tyX10
  | 11 => tyX11
  | _ => tyX12
def gU0 (r : Int) : Nat × Nat := if r = 0 then (0, 9) else if r = 1 then (0, 3) else if r = 2 then (1, 6) else if r = 3 then (1, 36) else if r = 4 then (6, 16) else if r = 5 then (7, 40) else if r = 6 then (5, 11) else if r = 7 then (3, 150) else if r = 8 then (0, 4) else if r = 9 then (1, 20) else if r = 10 then (1, 20) else if r = 11 then (1, 20) else if r = 12 then (1, 20) else if r = 13 then (4, 20) else if r = 14 then (0, 2) else if r = 15 then (1, 4) else if r = 16 then (1, 301) else if r = 17 then (1, 3) else if r = 18 then (1, 30) else if r = 19 then (1, 6) else if r = 20 then (1, 6) else if r = 21 then (1, 6) else if r = 22 then (0, 5) else if r = 23 then (1, 2100) else if r = 24 then (2, 4800) else if r = 25 then (0, 10) else if r = 26 then (1, 40) else if r = 27 then (1, 40) else if r = 28 then (1, 40) else (1, 4)
def gUA (r : Int) : Nat × Nat := if r = 0 then (0, 0) else if r = 1 then (3, 150) else if r = 2 then (1, 10) else if r = 3 then (1, 8) else if r = 4 then (1, 8) else (1, 8)
def gU (r : Int) : Nat × Nat := if r < 30 then gU0 r else if r < 46 then (0, 6) else if r < 86 then (0, 8) else gUA ((r - 86) % 6)
def gB (r : Int) : Nat × Nat := if r = 153 then (0, 1) else if r = 154 then (1, 40) else if r = 155 then (4, 40) else if r = 156 then (1, 10) else if r = 157 then (1, 10) else if r = 158 then (1, 10) else if r = 159 then (0, 7) else if r = 160 then (3, 0) else if r = 161 then (6, 16) else if r = 162 then (0, 2) else if r = 163 then (1, 4) else if r = 164 then (1, 301) else if r = 165 then (1, 3) else if r = 166 then (1, 30) else if r = 167 then (1, 6) else if r = 168 then (1, 6) else if r = 169 then (1, 6) else if r = 170 then (2, 6) else if r = 171 then (2, 6) else if r = 172 then (1, 6) else (2, 6)
def gMo (r : Int) : Nat × Nat := if r = 190 then (0, 12) else if r = 191 then (1, 25301) else if r = 192 then (1, 25301) else if r = 193 then (1, 25301) else if r = 194 then (1, 36) else if r = 195 then (1, 40) else if r = 196 then (1, 40) else if r = 197 then (4, 40) else if r = 198 then (1, 10) else if r = 199 then (1, 16) else if r = 200 then (1, 16) else if r = 201 then (1, 16) else if r = 202 then (2, 6) else if r = 203 then (2, 6) else if r = 204 then (1, 6) else (2, 6)
def glay (o : Int) : Nat × Nat := if o < 1 then (0, 11) else if o < 153 then gU (o - 1) else if o < 174 then gB o else if o < 190 then (0, 6) else if o < 206 then gMo o else gU (o - 206)
theorem lay_0 : glay 0 = (0, 11) := by decide +kernel
theorem lay_1 : glay 1 = (0, 9) := by decide +kernel
theorem lay_2 : glay 2 = (0, 3) := by decide +kernel
theorem lay_3 : glay 3 = (1, 6) := by decide +kernel
theorem lay_4 : glay 4 = (1, 36) := by decide +kernel
theorem lay_5 : glay 5 = (6, 16) := by decide +kernel
theorem lay_6 : glay 6 = (7, 40) := by decide +kernel
theorem lay_7 : glay 7 = (5, 11) := by decide +kernel
theorem lay_8 : glay 8 = (3, 150) := by decide +kernel
theorem lay_9 : glay 9 = (0, 4) := by decide +kernel
theorem lay_10 : glay 10 = (1, 20) := by decide +kernel
theorem lay_11 : glay 11 = (1, 20) := by decide +kernel
theorem lay_12 : glay 12 = (1, 20) := by decide +kernel
theorem lay_13 : glay 13 = (1, 20) := by decide +kernel
theorem lay_14 : glay 14 = (4, 20) := by decide +kernel
theorem lay_15 : glay 15 = (0, 2) := by decide +kernel
theorem lay_16 : glay 16 = (1, 4) := by decide +kernel
theorem lay_17 : glay 17 = (1, 301) := by decide +kernel
theorem lay_18 : glay 18 = (1, 3) := by decide +kernel
theorem lay_19 : glay 19 = (1, 30) := by decide +kernel
theorem lay_20 : glay 20 = (1, 6) := by decide +kernel
theorem lay_21 : glay 21 = (1, 6) := by decide +kernel
theorem lay_22 : glay 22 = (1, 6) := by decide +kernel
theorem lay_23 : glay 23 = (0, 5) := by decide +kernel
theorem lay_24 : glay 24 = (1, 2100) := by decide +kernel
theorem lay_25 : glay 25 = (2, 4800) := by decide +kernel
theorem lay_26 : glay 26 = (0, 10) := by decide +kernel
theorem lay_27 : glay 27 = (1, 40) := by decide +kernel
theorem lay_28 : glay 28 = (1, 40) := by decide +kernel
theorem lay_29 : glay 29 = (1, 40) := by decide +kernel
theorem lay_30 : glay 30 = (1, 4) := by decide +kernel
theorem lay_31 : glay 31 = (0, 6) := by decide +kernel
theorem lay_87 : glay 87 = (0, 0) := by decide +kernel
theorem lay_88 : glay 88 = (3, 150) := by decide +kernel
theorem lay_89 : glay 89 = (1, 10) := by decide +kernel
theorem lay_90 : glay 90 = (1, 8) := by decide +kernel
theorem lay_91 : glay 91 = (1, 8) := by decide +kernel
theorem lay_92 : glay 92 = (1, 8) := by decide +kernel
theorem lay_153 : glay 153 = (0, 1) := by decide +kernel
theorem lay_154 : glay 154 = (1, 40) := by decide +kernel
theorem lay_155 : glay 155 = (4, 40) := by decide +kernel
theorem lay_156 : glay 156 = (1, 10) := by decide +kernel
theorem lay_157 : glay 157 = (1, 10) := by decide +kernel
theorem lay_158 : glay 158 = (1, 10) := by decide +kernel
theorem lay_159 : glay 159 = (0, 7) := by decide +kernel
theorem lay_160 : glay 160 = (3, 0) := by decide +kernel
theorem lay_161 : glay 161 = (6, 16) := by decide +kernel
theorem lay_162 : glay 162 = (0, 2) := by decide +kernel
theorem lay_163 : glay 163 = (1, 4) := by decide +kernel
theorem lay_164 : glay 164 = (1, 301) := by decide +kernel
theorem lay_165 : glay 165 = (1, 3) := by decide +kernel
theorem lay_166 : glay 166 = (1, 30) := by decide +kernel
theorem lay_167 : glay 167 = (1, 6) := by decide +kernel
theorem lay_168 : glay 168 = (1, 6) := by decide +kernel
theorem lay_169 : glay 169 = (1, 6) := by decide +kernel
theorem lay_170 : glay 170 = (2, 6) := by decide +kernel
theorem lay_171 : glay 171 = (2, 6) := by decide +kernel
theorem lay_172 : glay 172 = (1, 6) := by decide +kernel
theorem lay_173 : glay 173 = (2, 6) := by decide +kernel
theorem lay_174 : glay 174 = (0, 6) := by decide +kernel
theorem lay_190 : glay 190 = (0, 12) := by decide +kernel
theorem lay_191 : glay 191 = (1, 25301) := by decide +kernel
theorem lay_192 : glay 192 = (1, 25301) := by decide +kernel
theorem lay_193 : glay 193 = (1, 25301) := by decide +kernel
theorem lay_194 : glay 194 = (1, 36) := by decide +kernel
theorem lay_195 : glay 195 = (1, 40) := by decide +kernel
theorem lay_196 : glay 196 = (1, 40) := by decide +kernel
theorem lay_197 : glay 197 = (4, 40) := by decide +kernel
theorem lay_198 : glay 198 = (1, 10) := by decide +kernel
theorem lay_199 : glay 199 = (1, 16) := by decide +kernel
theorem lay_200 : glay 200 = (1, 16) := by decide +kernel
theorem lay_201 : glay 201 = (1, 16) := by decide +kernel
theorem lay_202 : glay 202 = (2, 6) := by decide +kernel
theorem lay_203 : glay 203 = (2, 6) := by decide +kernel
theorem lay_204 : glay 204 = (1, 6) := by decide +kernel
theorem lay_205 : glay 205 = (2, 6) := by decide +kernel
theorem lay_206 : glay 206 = (0, 9) := by decide +kernel
theorem lay_207 : glay 207 = (0, 3) := by decide +kernel
theorem lay_208 : glay 208 = (1, 6) := by decide +kernel
theorem lay_209 : glay 209 = (1, 36) := by decide +kernel
theorem lay_210 : glay 210 = (6, 16) := by decide +kernel
theorem lay_211 : glay 211 = (7, 40) := by decide +kernel
theorem lay_212 : glay 212 = (5, 11) := by decide +kernel
theorem lay_213 : glay 213 = (3, 150) := by decide +kernel
theorem lay_214 : glay 214 = (0, 4) := by decide +kernel
theorem lay_215 : glay 215 = (1, 20) := by decide +kernel
theorem lay_216 : glay 216 = (1, 20) := by decide +kernel
theorem lay_217 : glay 217 = (1, 20) := by decide +kernel
theorem lay_218 : glay 218 = (1, 20) := by decide +kernel
theorem lay_219 : glay 219 = (4, 20) := by decide +kernel
theorem lay_220 : glay 220 = (0, 2) := by decide +kernel
theorem lay_221 : glay 221 = (1, 4) := by decide +kernel
theorem lay_222 : glay 222 = (1, 301) := by decide +kernel
theorem lay_223 : glay 223 = (1, 3) := by decide +kernel
theorem lay_224 : glay 224 = (1, 30) := by decide +kernel
theorem lay_225 : glay 225 = (1, 6) := by decide +kernel
theorem lay_226 : glay 226 = (1, 6) := by decide +kernel
theorem lay_227 : glay 227 = (1, 6) := by decide +kernel
theorem lay_228 : glay 228 = (0, 5) := by decide +kernel
theorem lay_229 : glay 229 = (1, 2100) := by decide +kernel
theorem lay_230 : glay 230 = (2, 4800) := by decide +kernel
theorem lay_231 : glay 231 = (0, 10) := by decide +kernel
theorem lay_232 : glay 232 = (1, 40) := by decide +kernel
theorem lay_233 : glay 233 = (1, 40) := by decide +kernel
theorem lay_234 : glay 234 = (1, 40) := by decide +kernel
theorem lay_235 : glay 235 = (1, 4) := by decide +kernel
theorem lay_P {i : Int} (h0 : 0 ≤ i) (h1 : i < 16) : glay (31 + i) = (0, 6) := by
  unfold glay gU
  rw [if_neg (by omega), if_pos (by omega), if_neg (by omega), if_pos (by omega)]
theorem lay_R {i : Int} (h0 : 0 ≤ i) (h1 : i < 40) : glay (47 + i) = (0, 8) := by
  unfold glay gU
  rw [if_neg (by omega), if_pos (by omega), if_neg (by omega), if_neg (by omega), if_pos (by omega)]
theorem lay_A0 {i : Int} (h0 : 0 ≤ i) (h1 : i < 11) : glay (87 + 6 * i) = (0, 0) := by
  unfold glay gU
  rw [if_neg (by omega), if_pos (by omega), if_neg (by omega), if_neg (by omega), if_neg (by omega), show (87 + 6 * i - 1 - 86) % 6 = 0 by omega]
  rfl
theorem lay_A1 {i : Int} (h0 : 0 ≤ i) (h1 : i < 11) : glay (88 + 6 * i) = (3, 150) := by
  unfold glay gU
  rw [if_neg (by omega), if_pos (by omega), if_neg (by omega), if_neg (by omega), if_neg (by omega), show (88 + 6 * i - 1 - 86) % 6 = 1 by omega]
  rfl
theorem lay_A2 {i : Int} (h0 : 0 ≤ i) (h1 : i < 11) : glay (89 + 6 * i) = (1, 10) := by
  unfold glay gU
  rw [if_neg (by omega), if_pos (by omega), if_neg (by omega), if_neg (by omega), if_neg (by omega), show (89 + 6 * i - 1 - 86) % 6 = 2 by omega]
  rfl
theorem lay_A3 {i : Int} (h0 : 0 ≤ i) (h1 : i < 11) : glay (90 + 6 * i) = (1, 8) := by
  unfold glay gU
  rw [if_neg (by omega), if_pos (by omega), if_neg (by omega), if_neg (by omega), if_neg (by omega), show (90 + 6 * i - 1 - 86) % 6 = 3 by omega]
  rfl
theorem lay_A4 {i : Int} (h0 : 0 ≤ i) (h1 : i < 11) : glay (91 + 6 * i) = (1, 8) := by
  unfold glay gU
  rw [if_neg (by omega), if_pos (by omega), if_neg (by omega), if_neg (by omega), if_neg (by omega), show (91 + 6 * i - 1 - 86) % 6 = 4 by omega]
  rfl
theorem lay_A5 {i : Int} (h0 : 0 ≤ i) (h1 : i < 11) : glay (92 + 6 * i) = (1, 8) := by
  unfold glay gU
  rw [if_neg (by omega), if_pos (by omega), if_neg (by omega), if_neg (by omega), if_neg (by omega), show (92 + 6 * i - 1 - 86) % 6 = 5 by omega]
  rfl
theorem layk_P {i : Int} (h0 : 0 ≤ i) (h1 : i < 16) : glay (236 + i) = (0, 6) := by
  unfold glay gU
  rw [if_neg (by omega), if_neg (by omega), if_neg (by omega), if_neg (by omega), if_neg (by omega), if_neg (by omega), if_pos (by omega)]
theorem layk_R {i : Int} (h0 : 0 ≤ i) (h1 : i < 40) : glay (252 + i) = (0, 8) := by
  unfold glay gU
  rw [if_neg (by omega), if_neg (by omega), if_neg (by omega), if_neg (by omega), if_neg (by omega), if_neg (by omega), if_neg (by omega), if_pos (by omega)]
theorem layk_A0 {i : Int} (h0 : 0 ≤ i) (h1 : i < 11) : glay (292 + 6 * i) = (0, 0) := by
  unfold glay gU
  rw [if_neg (by omega), if_neg (by omega), if_neg (by omega), if_neg (by omega), if_neg (by omega), if_neg (by omega), if_neg (by omega), if_neg (by omega), show (292 + 6 * i - 206 - 86) % 6 = 0 by omega]
  rfl
theorem layk_A1 {i : Int} (h0 : 0 ≤ i) (h1 : i < 11) : glay (293 + 6 * i) = (3, 150) := by
  unfold glay gU
  rw [if_neg (by omega), if_neg (by omega), if_neg (by omega), if_neg (by omega), if_neg (by omega), if_neg (by omega), if_neg (by omega), if_neg (by omega), show (293 + 6 * i - 206 - 86) % 6 = 1 by omega]
  rfl
theorem layk_A2 {i : Int} (h0 : 0 ≤ i) (h1 : i < 11) : glay (294 + 6 * i) = (1, 10) := by
  unfold glay gU
  rw [if_neg (by omega), if_neg (by omega), if_neg (by omega), if_neg (by omega), if_neg (by omega), if_neg (by omega), if_neg (by omega), if_neg (by omega), show (294 + 6 * i - 206 - 86) % 6 = 2 by omega]
  rfl
theorem layk_A3 {i : Int} (h0 : 0 ≤ i) (h1 : i < 11) : glay (295 + 6 * i) = (1, 8) := by
  unfold glay gU
  rw [if_neg (by omega), if_neg (by omega), if_neg (by omega), if_neg (by omega), if_neg (by omega), if_neg (by omega), if_neg (by omega), if_neg (by omega), show (295 + 6 * i - 206 - 86) % 6 = 3 by omega]
  rfl
theorem layk_A4 {i : Int} (h0 : 0 ≤ i) (h1 : i < 11) : glay (296 + 6 * i) = (1, 8) := by
  unfold glay gU
  rw [if_neg (by omega), if_neg (by omega), if_neg (by omega), if_neg (by omega), if_neg (by omega), if_neg (by omega), if_neg (by omega), if_neg (by omega), show (296 + 6 * i - 206 - 86) % 6 = 4 by omega]
  rfl
theorem layk_A5 {i : Int} (h0 : 0 ≤ i) (h1 : i < 11) : glay (297 + 6 * i) = (1, 8) := by
  unfold glay gU
  rw [if_neg (by omega), if_neg (by omega), if_neg (by omega), if_neg (by omega), if_neg (by omega), if_neg (by omega), if_neg (by omega), if_neg (by omega), show (297 + 6 * i - 206 - 86) % 6 = 5 by omega]
  rfl
theorem lay_Q {i : Int} (h0 : 0 ≤ i) (h1 : i < 16) : glay (174 + i) = (0, 6) := by
  unfold glay
  rw [if_neg (by omega), if_neg (by omega), if_neg (by omega), if_pos (by omega)]
def gNestM : List (String × Nat × Jvm.MethodName × String) := [("ParishUnion$Union", 42, ({ cls := "ParishUnion$Orders", name := "<init>", desc := "()V" } : Jvm.MethodName), "ParishUnion"), ("ParishUnion$Union", 56, ({ cls := "ParishUnion$Past", name := "<init>", desc := "()V" } : Jvm.MethodName), "ParishUnion"), ("ParishUnion$Union", 63, ({ cls := "ParishUnion$Vagrants", name := "<init>", desc := "()V" } : Jvm.MethodName), "ParishUnion"), ("ParishUnion$Union", 72, ({ cls := "ParishUnion$Person", name := "<init>", desc := "()V" } : Jvm.MethodName), "ParishUnion"), ("ParishUnion$Union", 73, ({ cls := "ParishUnion$Right", name := "<init>", desc := "()V" } : Jvm.MethodName), "ParishUnion"), ("ParishUnion$Union", 74, ({ cls := "ParishUnion$Act", name := "<init>", desc := "()V" } : Jvm.MethodName), "ParishUnion"), ("ParishUnion", 18, ({ cls := "ParishUnion$Bench", name := "<init>", desc := "()V" } : Jvm.MethodName), "ParishUnion"), ("ParishUnion", 25, ({ cls := "ParishUnion$Reader", name := "<init>", desc := "()V" } : Jvm.MethodName), "ParishUnion"), ("ParishUnion", 57, ({ cls := "ParishUnion$Person", name := "<init>", desc := "()V" } : Jvm.MethodName), "ParishUnion")]
def gNestF : List (String × Nat × String × String × String × String) := [("ParishUnion$Right", 44, "ParishUnion", "KIND_ABOVE", "[I", "ParishUnion"), ("ParishUnion$Union", 146, "ParishUnion", "WITHOUT_ACTS", "[I", "ParishUnion")]
def gSO : List (String × Nat × String × List Int32) := [("ParishUnion$Reader", 69, "hired", [104, 105, 114, 101, 100]), ("ParishUnion$Reader", 71, "rated", [114, 97, 116, 101, 100]), ("ParishUnion$Reader", 73, "diet", [100, 105, 101, 116]), ("ParishUnion$Reader", 75, "fear", [102, 101, 97, 114]), ("ParishUnion$Reader", 77, "bind", [98, 105, 110, 100]), ("ParishUnion$Reader", 79, "wed", [119, 101, 100]), ("ParishUnion$Reader", 81, "kin", [107, 105, 110]), ("ParishUnion$Reader", 83, "share", [115, 104, 97, 114, 101]), ("ParishUnion$Reader", 85, "give", [103, 105, 118, 101]), ("ParishUnion$Reader", 87, "ward", [119, 97, 114, 100]), ("ParishUnion$Reader", 89, "ny", [110, 121]), ("ParishUnion$Reader", 95, "rhe", [114, 104, 101]), ("ParishUnion$Reader", 97, "0123", [48, 49, 50, 51]), ("ParishUnion$Reader", 117, "aghf", [97, 103, 104, 102]), ("ParishUnion$Reader", 119, "<>", [60, 62]), ("ParishUnion$Reader", 121, "sp", [115, 112]), ("ParishUnionModel", 143, "hired ", [104, 105, 114, 101, 100, 32]), ("ParishUnionModel", 145, "rated ", [114, 97, 116, 101, 100, 32]), ("ParishUnionModel", 147, "diet ", [100, 105, 101, 116, 32]), ("ParishUnionModel", 149, "fear ", [102, 101, 97, 114, 32]), ("ParishUnionModel", 151, "bind ", [98, 105, 110, 100, 32]), ("ParishUnionModel", 153, "wed ", [119, 101, 100, 32]), ("ParishUnionModel", 155, "kin ", [107, 105, 110, 32]), ("ParishUnionModel", 157, "share ", [115, 104, 97, 114, 101, 32]), ("ParishUnionModel", 159, "give ", [103, 105, 118, 101, 32]), ("ParishUnionModel", 161, "ward ", [119, 97, 114, 100, 32])]
def gKA (j : Nat) : Int32 := match j with
  | 0 => -1
  | 4 => 1
  | _ => 0
def gWA (j : Nat) : Int32 := match j with
  | 0 => 50
  | 1 => 100
  | 2 => 10
  | 3 => 5
  | 4 => 14
  | 5 => 1
  | 6 => 1
  | _ => 0
theorem gWA_of {i : Int} (h0 : 0 ≤ i) (h1 : i < 10) : ∃ z : Int, gWA i.toNat = Int32.ofInt z ∧ (0 ≤ z ∧ z ≤ 100 ∧ (i = 0 → z = 50) ∧ (i = 1 → z = 100) ∧ (i = 2 → z = 10) ∧ (i = 3 → z = 5) ∧ (i = 4 → z = 14) ∧ (i = 5 → z = 1) ∧ (i = 6 → z = 1) ∧ (i = 7 → z = 0) ∧ (i = 8 → z = 0) ∧ (i = 9 → z = 0)) := by
  have h : i = 0 ∨ i = 1 ∨ i = 2 ∨ i = 3 ∨ i = 4 ∨ i = 5 ∨ i = 6 ∨ i = 7 ∨ i = 8 ∨ i = 9 := by omega
  rcases h with rfl | rfl | rfl | rfl | rfl | rfl | rfl | rfl | rfl | rfl
  · exact ⟨50, by decide +kernel, by omega⟩
  · exact ⟨100, by decide +kernel, by omega⟩
  · exact ⟨10, by decide +kernel, by omega⟩
  · exact ⟨5, by decide +kernel, by omega⟩
  · exact ⟨14, by decide +kernel, by omega⟩
  · exact ⟨1, by decide +kernel, by omega⟩
  · exact ⟨1, by decide +kernel, by omega⟩
  · exact ⟨0, by decide +kernel, by omega⟩
  · exact ⟨0, by decide +kernel, by omega⟩
  · exact ⟨0, by decide +kernel, by omega⟩
def gT : List Cond := lw_tbl.filter goodWord
theorem gT_of {w : Cond} (h : w ∈ lw_tbl) (hg : goodWord w = true) : w ∈ gT := List.mem_filter.mpr ⟨h, hg⟩
theorem tb_0 : ∀ w ∈ k2_sels lw_privs, w ∈ lw_tbl := fun _ h => List.mem_append_left _ h
theorem tb_1 : ∀ w ∈ tables_1_1, w ∈ lw_tbl := fun w h => List.mem_append_right _ (show w ∈ tables_1 from List.mem_append_left _ h)
theorem tb_2 : ∀ w ∈ tables_1_2, w ∈ lw_tbl := fun w h => List.mem_append_right _ (show w ∈ tables_1 from List.mem_append_right _ (List.mem_append_left _ h))
theorem tb_3 : ∀ w ∈ tables_1_3, w ∈ lw_tbl := fun w h => List.mem_append_right _ (show w ∈ tables_1 from List.mem_append_right _ (List.mem_append_right _ (List.mem_append_left _ h)))
theorem tb_4 : ∀ w ∈ tables_1_4, w ∈ lw_tbl := fun w h => List.mem_append_right _ (show w ∈ tables_1 from List.mem_append_right _ (List.mem_append_right _ (List.mem_append_right _ (List.mem_append_left _ h))))
theorem tb_5 : ∀ w ∈ tables_1_5, w ∈ lw_tbl := fun w h => List.mem_append_right _ (show w ∈ tables_1 from List.mem_append_right _ (List.mem_append_right _ (List.mem_append_right _ (List.mem_append_right _ (List.mem_append_left _ h)))))
theorem tb_6 : ∀ w ∈ tables_1_6, w ∈ lw_tbl := fun w h => List.mem_append_right _ (show w ∈ tables_1 from List.mem_append_right _ (List.mem_append_right _ (List.mem_append_right _ (List.mem_append_right _ (List.mem_append_right _ (List.mem_append_left _ h))))))
theorem tb_7 : ∀ w ∈ tables_1_7, w ∈ lw_tbl := fun w h => List.mem_append_right _ (show w ∈ tables_1 from List.mem_append_right _ (List.mem_append_right _ (List.mem_append_right _ (List.mem_append_right _ (List.mem_append_right _ (List.mem_append_right _ (List.mem_append_left _ h)))))))
theorem tb_8 : ∀ w ∈ tables_1_8, w ∈ lw_tbl := fun w h => List.mem_append_right _ (show w ∈ tables_1 from List.mem_append_right _ (List.mem_append_right _ (List.mem_append_right _ (List.mem_append_right _ (List.mem_append_right _ (List.mem_append_right _ (List.mem_append_right _ (h))))))))
theorem iX0 : ∀ w ∈ u_ws RX0 TX0 8, w ∈ gT := fun w hw => gT_of ((by decide +kernel : ∀ w ∈ u_ws RX0 TX0 8, w ∈ lw_tbl) w hw) ((by decide +kernel : ∀ w ∈ u_ws RX0 TX0 8, goodWord w = true) w hw)
theorem iX1 : ∀ w ∈ u_ws RX1 TX1 8, w ∈ gT := fun w hw => gT_of ((by decide +kernel : ∀ w ∈ u_ws RX1 TX1 8, w ∈ lw_tbl) w hw) ((by decide +kernel : ∀ w ∈ u_ws RX1 TX1 8, goodWord w = true) w hw)
theorem iX2 : ∀ w ∈ u_ws RX2 TX2 10, w ∈ gT := fun w hw => gT_of ((by decide +kernel : ∀ w ∈ u_ws RX2 TX2 10, w ∈ lw_tbl) w hw) ((by decide +kernel : ∀ w ∈ u_ws RX2 TX2 10, goodWord w = true) w hw)
theorem iX3 : ∀ w ∈ u_ws RX3 TX3 2, w ∈ gT := fun w hw => gT_of ((by decide +kernel : ∀ w ∈ u_ws RX3 TX3 2, w ∈ lw_tbl) w hw) ((by decide +kernel : ∀ w ∈ u_ws RX3 TX3 2, goodWord w = true) w hw)
theorem iX4 : ∀ w ∈ u_ws RX4 TX4 6, w ∈ gT := fun w hw => gT_of ((by decide +kernel : ∀ w ∈ u_ws RX4 TX4 6, w ∈ lw_tbl) w hw) ((by decide +kernel : ∀ w ∈ u_ws RX4 TX4 6, goodWord w = true) w hw)
theorem iX5 : ∀ w ∈ u_ws RX5 TX5 2, w ∈ gT := fun w hw => gT_of ((by decide +kernel : ∀ w ∈ u_ws RX5 TX5 2, w ∈ lw_tbl) w hw) ((by decide +kernel : ∀ w ∈ u_ws RX5 TX5 2, goodWord w = true) w hw)
theorem iX6 : ∀ w ∈ u_ws RX6 TX6 16, w ∈ gT := fun w hw => gT_of ((by decide +kernel : ∀ w ∈ u_ws RX6 TX6 16, w ∈ lw_tbl) w hw) ((by decide +kernel : ∀ w ∈ u_ws RX6 TX6 16, goodWord w = true) w hw)
theorem iX7 : ∀ w ∈ u_ws RX7 TX7 5, w ∈ gT := fun w hw => gT_of ((by decide +kernel : ∀ w ∈ u_ws RX7 TX7 5, w ∈ lw_tbl) w hw) ((by decide +kernel : ∀ w ∈ u_ws RX7 TX7 5, goodWord w = true) w hw)
theorem iX8 : ∀ w ∈ u_ws RX8 TX8 9, w ∈ gT := fun w hw => gT_of ((by decide +kernel : ∀ w ∈ u_ws RX8 TX8 9, w ∈ lw_tbl) w hw) ((by decide +kernel : ∀ w ∈ u_ws RX8 TX8 9, goodWord w = true) w hw)
theorem iX9 : ∀ w ∈ u_ws RX9 TX9 16, w ∈ gT := fun w hw => gT_of ((by decide +kernel : ∀ w ∈ u_ws RX9 TX9 16, w ∈ lw_tbl) w hw) ((by decide +kernel : ∀ w ∈ u_ws RX9 TX9 16, goodWord w = true) w hw)
theorem iX10 : ∀ w ∈ u_ws RX10 TX10 4, w ∈ gT := fun w hw => gT_of ((by decide +kernel : ∀ w ∈ u_ws RX10 TX10 4, w ∈ lw_tbl) w hw) ((by decide +kernel : ∀ w ∈ u_ws RX10 TX10 4, goodWord w = true) w hw)
theorem iX11 : ∀ w ∈ u_ws RX11 TX11 10, w ∈ gT := fun w hw => gT_of ((by decide +kernel : ∀ w ∈ u_ws RX11 TX11 10, w ∈ lw_tbl) w hw) ((by decide +kernel : ∀ w ∈ u_ws RX11 TX11 10, goodWord w = true) w hw)
theorem iX12 : ∀ w ∈ u_ws RX12 TX12 24, w ∈ gT := fun w hw => gT_of ((by decide +kernel : ∀ w ∈ u_ws RX12 TX12 24, w ∈ lw_tbl) w hw) ((by decide +kernel : ∀ w ∈ u_ws RX12 TX12 24, goodWord w = true) w hw)
