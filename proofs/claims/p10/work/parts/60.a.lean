/-! THE CLAIM OUT OF ONE WALK OF THE LAW'S BODY. Your part is whole_start (and what it stands on); all else here is the same for every law, but numbers. -/
def R_law : String := "ParishUnionLaw"
def lw_P (b : Addr) (xs : List Int32) (args : Array Value) (s : State) : Prop := args = #[.ref b] ∧ s.IntsAt b xs ∧ xs.length ≤ 3584 ∧ (Jvm.Cond.and given_1 narrow_1).before args s = true
def lw_Q (_ : Array Value) (s : State) (o : Outcome) (t : State) : Prop := o = .returned (some (.int 1)) ∧ Framed s o t [] 349274 8054428
def lw_Z (below : List Frame) (a : Array Value) (s : State) : State → Prop := fun t => ∃ o, t.status = .running ∧ Ended t below o ∧ lw_Q a s o t
/-- the law's own end, with 1 on the stack, nothing written that was there before, its room as the claim has it -/
theorem lw_ret {p : Program} {l : Launch} {e : Env} {s : State} {m : MethodId} {below : List Frame} {meth : Method} {c : Code} {b : Nat} (hx : p.tables.exec = Jvm.exec) (hb : c.code = code) (hr : meth.sig.returnType = ret) (hlocks : meth.locks = false) {pc : Nat} {H : Heap} {ls : Array Slot} (hdg : decode code pc = .ok (.ireturn, 1)) : W p l e room_1 s m #[Value.ref b] below meth c H [] 349274 8054428 (lw_Z below #[Value.ref b] s) (F0 m pc ls [.int 1]) := by
  intro T hT X
  obtain ⟨fs, hret, hrun, hended, hW, hframe⟩ := X.leave (v := some (.int 1)) (hlocks := hlocks) (fun h => by rw [hr] at h; cases h)
  have hmeth' : T.vm.method? m = some meth := X.method'
  refine ⟨T.setFrames fs, ?_, .returned (some (.int 1)), hrun, hended, rfl, ⟨_, rfl⟩, hW, hframe⟩
  jvm_step X.here [X.here.top, hx, hb, hdg, hmeth', hr, ret, narrow_b1]
  (try refine ⟨rfl, ?_⟩); (try refine ⟨rfl, ?_⟩)
  first | (intro acts; rw [hret _ acts rfl rfl rfl]) | rw [hret _ _ rfl rfl rfl]
  exact Steps.refl _
/-- what holds at the law's entry: the machine, the code, the tables' words (any of lw_tbl by 'hts w (by decide +kernel)'), the script of L ints xs at the cell b, what the Statement gives of the start (any of its parts by flat_of_before) -/
def lw_At (p : Program) (s : State) (m : MethodId) (meth : Method) (c : Code) (b L : Nat) (xs : Nat → Int32) : Prop :=
  p.tables.exec = Jvm.exec ∧ c.code = code ∧ meth.sig.returnType = ret ∧ c.maxLocals = 4 ∧ s.vm.findClass R_law = some m.cls ∧ (∀ w ∈ lw_tbl, w.before #[Value.ref b] s = true) ∧ va_X b L xs s s.heap ∧ b < s.heap.size ∧ meth.locks = false ∧ (Jvm.Cond.and given_1 narrow_1).before #[Value.ref b] s = true
def gPS (n0 : Nat) (s : State) (x : String × Nat × String × List Int32) (q : Nat × Nat) : Prop := vk_R x.1 x.2.1 x.2.2.1 q.1 s ∧ va_O "java/lang/String" q.1 (fun a => n0 ≤ a) s s.heap ∧ va_OF "java/lang/String" "coder" "B" (.int 0) q.1 (fun a => n0 ≤ a) s s.heap ∧ va_OF "java/lang/String" "value" "[B" (.ref q.2) q.1 (fun a => n0 ≤ a) s s.heap ∧ va_T .byte q.2 x.2.2.2.length (fun j => .int (x.2.2.2.getD j 0)) (fun a => n0 ≤ a) s s.heap
def gFl : List Cond := flatC (Jvm.Cond.and given_1 narrow_1)
theorem gStr_0 {s : State} {b : Nat} (hts : ∀ w ∈ lw_tbl, w.before #[Value.ref b] s = true) (hF : ∀ w ∈ gFl, w.before #[Value.ref b] s = true) : ∃ q : Nat × Nat, gPS s.heap.size s ("ParishUnion$Reader", 69, "hired", [104, 105, 114, 101, 100]) q := by
  have hA : ∀ a : Nat, a < s.heap.size → ¬ s.heap.size ≤ a := fun a h => by omega
  obtain ⟨a, c, cB, kA, q1, q2, q3, q4, q5, q6, -⟩ := Cond.exactly_spec (args := #[Value.ref b]) (first := s) (o := none) (s := s) (idx := []) (t := (Term.string "ParishUnion$Reader" 69)) (cls := "java/lang/String") (hF _ (by decide +kernel))
  obtain ⟨t, ht, hT⟩ := va_Tof (args := #[Value.ref b]) (s := s) (tm := .field (Term.string "ParishUnion$Reader" 69) "java/lang/String" "value" "[B") (ty := .byte) (N := 5) (f := fun j => .int (([104, 105, 114, 101, 100] : List Int32).getD j 0)) (A := fun a => s.heap.size ≤ a) (by decide) (hF _ (by decide +kernel)) (va_eqt (hF _ (by decide +kernel))) (fun j hj => by
    have hc : j = 0 ∨ j = 1 ∨ j = 2 ∨ j = 3 ∨ j = 4 := by omega
    rcases hc with rfl | rfl | rfl | rfl | rfl
    · exact va_eqt (hF _ (by decide +kernel))
    · exact va_eqt (hF _ (by decide +kernel))
    · exact va_eqt (hF _ (by decide +kernel))
    · exact va_eqt (hF _ (by decide +kernel))
    · exact va_eqt (hF _ (by decide +kernel))) hA
  exact ⟨(a, t), vk_R.of (hts _ (tb_3 _ (List.mem_of_getElem? (i := 225) rfl))) q1, ⟨cB, q3, q5, by rw [q6]; exact q2, hA _ (Array.getElem?_eq_some_iff.mp q3).1⟩, vk_OFof q1 (va_eqt (hF _ (by decide +kernel))) hA, vk_OFof q1 ht hA, hT⟩
theorem gStr_1 {s : State} {b : Nat} (hts : ∀ w ∈ lw_tbl, w.before #[Value.ref b] s = true) (hF : ∀ w ∈ gFl, w.before #[Value.ref b] s = true) : ∃ q : Nat × Nat, gPS s.heap.size s ("ParishUnion$Reader", 71, "rated", [114, 97, 116, 101, 100]) q := by
  have hA : ∀ a : Nat, a < s.heap.size → ¬ s.heap.size ≤ a := fun a h => by omega
  obtain ⟨a, c, cB, kA, q1, q2, q3, q4, q5, q6, -⟩ := Cond.exactly_spec (args := #[Value.ref b]) (first := s) (o := none) (s := s) (idx := []) (t := (Term.string "ParishUnion$Reader" 71)) (cls := "java/lang/String") (hF _ (by decide +kernel))
  obtain ⟨t, ht, hT⟩ := va_Tof (args := #[Value.ref b]) (s := s) (tm := .field (Term.string "ParishUnion$Reader" 71) "java/lang/String" "value" "[B") (ty := .byte) (N := 5) (f := fun j => .int (([114, 97, 116, 101, 100] : List Int32).getD j 0)) (A := fun a => s.heap.size ≤ a) (by decide) (hF _ (by decide +kernel)) (va_eqt (hF _ (by decide +kernel))) (fun j hj => by
    have hc : j = 0 ∨ j = 1 ∨ j = 2 ∨ j = 3 ∨ j = 4 := by omega
    rcases hc with rfl | rfl | rfl | rfl | rfl
    · exact va_eqt (hF _ (by decide +kernel))
    · exact va_eqt (hF _ (by decide +kernel))
    · exact va_eqt (hF _ (by decide +kernel))
    · exact va_eqt (hF _ (by decide +kernel))
    · exact va_eqt (hF _ (by decide +kernel))) hA
  exact ⟨(a, t), vk_R.of (hts _ (tb_3 _ (List.mem_of_getElem? (i := 226) rfl))) q1, ⟨cB, q3, q5, by rw [q6]; exact q2, hA _ (Array.getElem?_eq_some_iff.mp q3).1⟩, vk_OFof q1 (va_eqt (hF _ (by decide +kernel))) hA, vk_OFof q1 ht hA, hT⟩
theorem gStr_2 {s : State} {b : Nat} (hts : ∀ w ∈ lw_tbl, w.before #[Value.ref b] s = true) (hF : ∀ w ∈ gFl, w.before #[Value.ref b] s = true) : ∃ q : Nat × Nat, gPS s.heap.size s ("ParishUnion$Reader", 73, "diet", [100, 105, 101, 116]) q := by
  have hA : ∀ a : Nat, a < s.heap.size → ¬ s.heap.size ≤ a := fun a h => by omega
  obtain ⟨a, c, cB, kA, q1, q2, q3, q4, q5, q6, -⟩ := Cond.exactly_spec (args := #[Value.ref b]) (first := s) (o := none) (s := s) (idx := []) (t := (Term.string "ParishUnion$Reader" 73)) (cls := "java/lang/String") (hF _ (by decide +kernel))
  obtain ⟨t, ht, hT⟩ := va_Tof (args := #[Value.ref b]) (s := s) (tm := .field (Term.string "ParishUnion$Reader" 73) "java/lang/String" "value" "[B") (ty := .byte) (N := 4) (f := fun j => .int (([100, 105, 101, 116] : List Int32).getD j 0)) (A := fun a => s.heap.size ≤ a) (by decide) (hF _ (by decide +kernel)) (va_eqt (hF _ (by decide +kernel))) (fun j hj => by
    have hc : j = 0 ∨ j = 1 ∨ j = 2 ∨ j = 3 := by omega
    rcases hc with rfl | rfl | rfl | rfl
    · exact va_eqt (hF _ (by decide +kernel))
    · exact va_eqt (hF _ (by decide +kernel))
    · exact va_eqt (hF _ (by decide +kernel))
    · exact va_eqt (hF _ (by decide +kernel))) hA
  exact ⟨(a, t), vk_R.of (hts _ (tb_3 _ (List.mem_of_getElem? (i := 227) rfl))) q1, ⟨cB, q3, q5, by rw [q6]; exact q2, hA _ (Array.getElem?_eq_some_iff.mp q3).1⟩, vk_OFof q1 (va_eqt (hF _ (by decide +kernel))) hA, vk_OFof q1 ht hA, hT⟩
theorem gStr_3 {s : State} {b : Nat} (hts : ∀ w ∈ lw_tbl, w.before #[Value.ref b] s = true) (hF : ∀ w ∈ gFl, w.before #[Value.ref b] s = true) : ∃ q : Nat × Nat, gPS s.heap.size s ("ParishUnion$Reader", 75, "fear", [102, 101, 97, 114]) q := by
  have hA : ∀ a : Nat, a < s.heap.size → ¬ s.heap.size ≤ a := fun a h => by omega
  obtain ⟨a, c, cB, kA, q1, q2, q3, q4, q5, q6, -⟩ := Cond.exactly_spec (args := #[Value.ref b]) (first := s) (o := none) (s := s) (idx := []) (t := (Term.string "ParishUnion$Reader" 75)) (cls := "java/lang/String") (hF _ (by decide +kernel))
  obtain ⟨t, ht, hT⟩ := va_Tof (args := #[Value.ref b]) (s := s) (tm := .field (Term.string "ParishUnion$Reader" 75) "java/lang/String" "value" "[B") (ty := .byte) (N := 4) (f := fun j => .int (([102, 101, 97, 114] : List Int32).getD j 0)) (A := fun a => s.heap.size ≤ a) (by decide) (hF _ (by decide +kernel)) (va_eqt (hF _ (by decide +kernel))) (fun j hj => by
    have hc : j = 0 ∨ j = 1 ∨ j = 2 ∨ j = 3 := by omega
    rcases hc with rfl | rfl | rfl | rfl
    · exact va_eqt (hF _ (by decide +kernel))
    · exact va_eqt (hF _ (by decide +kernel))
    · exact va_eqt (hF _ (by decide +kernel))
    · exact va_eqt (hF _ (by decide +kernel))) hA
  exact ⟨(a, t), vk_R.of (hts _ (tb_3 _ (List.mem_of_getElem? (i := 228) rfl))) q1, ⟨cB, q3, q5, by rw [q6]; exact q2, hA _ (Array.getElem?_eq_some_iff.mp q3).1⟩, vk_OFof q1 (va_eqt (hF _ (by decide +kernel))) hA, vk_OFof q1 ht hA, hT⟩
theorem gStr_4 {s : State} {b : Nat} (hts : ∀ w ∈ lw_tbl, w.before #[Value.ref b] s = true) (hF : ∀ w ∈ gFl, w.before #[Value.ref b] s = true) : ∃ q : Nat × Nat, gPS s.heap.size s ("ParishUnion$Reader", 77, "bind", [98, 105, 110, 100]) q := by
  have hA : ∀ a : Nat, a < s.heap.size → ¬ s.heap.size ≤ a := fun a h => by omega
  obtain ⟨a, c, cB, kA, q1, q2, q3, q4, q5, q6, -⟩ := Cond.exactly_spec (args := #[Value.ref b]) (first := s) (o := none) (s := s) (idx := []) (t := (Term.string "ParishUnion$Reader" 77)) (cls := "java/lang/String") (hF _ (by decide +kernel))
  obtain ⟨t, ht, hT⟩ := va_Tof (args := #[Value.ref b]) (s := s) (tm := .field (Term.string "ParishUnion$Reader" 77) "java/lang/String" "value" "[B") (ty := .byte) (N := 4) (f := fun j => .int (([98, 105, 110, 100] : List Int32).getD j 0)) (A := fun a => s.heap.size ≤ a) (by decide) (hF _ (by decide +kernel)) (va_eqt (hF _ (by decide +kernel))) (fun j hj => by
    have hc : j = 0 ∨ j = 1 ∨ j = 2 ∨ j = 3 := by omega
    rcases hc with rfl | rfl | rfl | rfl
    · exact va_eqt (hF _ (by decide +kernel))
    · exact va_eqt (hF _ (by decide +kernel))
    · exact va_eqt (hF _ (by decide +kernel))
    · exact va_eqt (hF _ (by decide +kernel))) hA
  exact ⟨(a, t), vk_R.of (hts _ (tb_3 _ (List.mem_of_getElem? (i := 229) rfl))) q1, ⟨cB, q3, q5, by rw [q6]; exact q2, hA _ (Array.getElem?_eq_some_iff.mp q3).1⟩, vk_OFof q1 (va_eqt (hF _ (by decide +kernel))) hA, vk_OFof q1 ht hA, hT⟩
theorem gStr_5 {s : State} {b : Nat} (hts : ∀ w ∈ lw_tbl, w.before #[Value.ref b] s = true) (hF : ∀ w ∈ gFl, w.before #[Value.ref b] s = true) : ∃ q : Nat × Nat, gPS s.heap.size s ("ParishUnion$Reader", 79, "wed", [119, 101, 100]) q := by
  have hA : ∀ a : Nat, a < s.heap.size → ¬ s.heap.size ≤ a := fun a h => by omega
  obtain ⟨a, c, cB, kA, q1, q2, q3, q4, q5, q6, -⟩ := Cond.exactly_spec (args := #[Value.ref b]) (first := s) (o := none) (s := s) (idx := []) (t := (Term.string "ParishUnion$Reader" 79)) (cls := "java/lang/String") (hF _ (by decide +kernel))
  obtain ⟨t, ht, hT⟩ := va_Tof (args := #[Value.ref b]) (s := s) (tm := .field (Term.string "ParishUnion$Reader" 79) "java/lang/String" "value" "[B") (ty := .byte) (N := 3) (f := fun j => .int (([119, 101, 100] : List Int32).getD j 0)) (A := fun a => s.heap.size ≤ a) (by decide) (hF _ (by decide +kernel)) (va_eqt (hF _ (by decide +kernel))) (fun j hj => by
    have hc : j = 0 ∨ j = 1 ∨ j = 2 := by omega
    rcases hc with rfl | rfl | rfl
    · exact va_eqt (hF _ (by decide +kernel))
    · exact va_eqt (hF _ (by decide +kernel))
    · exact va_eqt (hF _ (by decide +kernel))) hA
  exact ⟨(a, t), vk_R.of (hts _ (tb_3 _ (List.mem_of_getElem? (i := 230) rfl))) q1, ⟨cB, q3, q5, by rw [q6]; exact q2, hA _ (Array.getElem?_eq_some_iff.mp q3).1⟩, vk_OFof q1 (va_eqt (hF _ (by decide +kernel))) hA, vk_OFof q1 ht hA, hT⟩
theorem gStr_6 {s : State} {b : Nat} (hts : ∀ w ∈ lw_tbl, w.before #[Value.ref b] s = true) (hF : ∀ w ∈ gFl, w.before #[Value.ref b] s = true) : ∃ q : Nat × Nat, gPS s.heap.size s ("ParishUnion$Reader", 81, "kin", [107, 105, 110]) q := by
  have hA : ∀ a : Nat, a < s.heap.size → ¬ s.heap.size ≤ a := fun a h => by omega
  obtain ⟨a, c, cB, kA, q1, q2, q3, q4, q5, q6, -⟩ := Cond.exactly_spec (args := #[Value.ref b]) (first := s) (o := none) (s := s) (idx := []) (t := (Term.string "ParishUnion$Reader" 81)) (cls := "java/lang/String") (hF _ (by decide +kernel))
  obtain ⟨t, ht, hT⟩ := va_Tof (args := #[Value.ref b]) (s := s) (tm := .field (Term.string "ParishUnion$Reader" 81) "java/lang/String" "value" "[B") (ty := .byte) (N := 3) (f := fun j => .int (([107, 105, 110] : List Int32).getD j 0)) (A := fun a => s.heap.size ≤ a) (by decide) (hF _ (by decide +kernel)) (va_eqt (hF _ (by decide +kernel))) (fun j hj => by
    have hc : j = 0 ∨ j = 1 ∨ j = 2 := by omega
    rcases hc with rfl | rfl | rfl
    · exact va_eqt (hF _ (by decide +kernel))
    · exact va_eqt (hF _ (by decide +kernel))
    · exact va_eqt (hF _ (by decide +kernel))) hA
  exact ⟨(a, t), vk_R.of (hts _ (tb_3 _ (List.mem_of_getElem? (i := 231) rfl))) q1, ⟨cB, q3, q5, by rw [q6]; exact q2, hA _ (Array.getElem?_eq_some_iff.mp q3).1⟩, vk_OFof q1 (va_eqt (hF _ (by decide +kernel))) hA, vk_OFof q1 ht hA, hT⟩
theorem gStr_7 {s : State} {b : Nat} (hts : ∀ w ∈ lw_tbl, w.before #[Value.ref b] s = true) (hF : ∀ w ∈ gFl, w.before #[Value.ref b] s = true) : ∃ q : Nat × Nat, gPS s.heap.size s ("ParishUnion$Reader", 83, "share", [115, 104, 97, 114, 101]) q := by
  have hA : ∀ a : Nat, a < s.heap.size → ¬ s.heap.size ≤ a := fun a h => by omega
  obtain ⟨a, c, cB, kA, q1, q2, q3, q4, q5, q6, -⟩ := Cond.exactly_spec (args := #[Value.ref b]) (first := s) (o := none) (s := s) (idx := []) (t := (Term.string "ParishUnion$Reader" 83)) (cls := "java/lang/String") (hF _ (by decide +kernel))
  obtain ⟨t, ht, hT⟩ := va_Tof (args := #[Value.ref b]) (s := s) (tm := .field (Term.string "ParishUnion$Reader" 83) "java/lang/String" "value" "[B") (ty := .byte) (N := 5) (f := fun j => .int (([115, 104, 97, 114, 101] : List Int32).getD j 0)) (A := fun a => s.heap.size ≤ a) (by decide) (hF _ (by decide +kernel)) (va_eqt (hF _ (by decide +kernel))) (fun j hj => by
    have hc : j = 0 ∨ j = 1 ∨ j = 2 ∨ j = 3 ∨ j = 4 := by omega
    rcases hc with rfl | rfl | rfl | rfl | rfl
    · exact va_eqt (hF _ (by decide +kernel))
    · exact va_eqt (hF _ (by decide +kernel))
    · exact va_eqt (hF _ (by decide +kernel))
    · exact va_eqt (hF _ (by decide +kernel))
    · exact va_eqt (hF _ (by decide +kernel))) hA
  exact ⟨(a, t), vk_R.of (hts _ (tb_3 _ (List.mem_of_getElem? (i := 232) rfl))) q1, ⟨cB, q3, q5, by rw [q6]; exact q2, hA _ (Array.getElem?_eq_some_iff.mp q3).1⟩, vk_OFof q1 (va_eqt (hF _ (by decide +kernel))) hA, vk_OFof q1 ht hA, hT⟩
theorem gStr_8 {s : State} {b : Nat} (hts : ∀ w ∈ lw_tbl, w.before #[Value.ref b] s = true) (hF : ∀ w ∈ gFl, w.before #[Value.ref b] s = true) : ∃ q : Nat × Nat, gPS s.heap.size s ("ParishUnion$Reader", 85, "give", [103, 105, 118, 101]) q := by
  have hA : ∀ a : Nat, a < s.heap.size → ¬ s.heap.size ≤ a := fun a h => by omega
  obtain ⟨a, c, cB, kA, q1, q2, q3, q4, q5, q6, -⟩ := Cond.exactly_spec (args := #[Value.ref b]) (first := s) (o := none) (s := s) (idx := []) (t := (Term.string "ParishUnion$Reader" 85)) (cls := "java/lang/String") (hF _ (by decide +kernel))
  obtain ⟨t, ht, hT⟩ := va_Tof (args := #[Value.ref b]) (s := s) (tm := .field (Term.string "ParishUnion$Reader" 85) "java/lang/String" "value" "[B") (ty := .byte) (N := 4) (f := fun j => .int (([103, 105, 118, 101] : List Int32).getD j 0)) (A := fun a => s.heap.size ≤ a) (by decide) (hF _ (by decide +kernel)) (va_eqt (hF _ (by decide +kernel))) (fun j hj => by
    have hc : j = 0 ∨ j = 1 ∨ j = 2 ∨ j = 3 := by omega
    rcases hc with rfl | rfl | rfl | rfl
    · exact va_eqt (hF _ (by decide +kernel))
    · exact va_eqt (hF _ (by decide +kernel))
    · exact va_eqt (hF _ (by decide +kernel))
    · exact va_eqt (hF _ (by decide +kernel))) hA
  exact ⟨(a, t), vk_R.of (hts _ (tb_3 _ (List.mem_of_getElem? (i := 233) rfl))) q1, ⟨cB, q3, q5, by rw [q6]; exact q2, hA _ (Array.getElem?_eq_some_iff.mp q3).1⟩, vk_OFof q1 (va_eqt (hF _ (by decide +kernel))) hA, vk_OFof q1 ht hA, hT⟩
theorem gStr_9 {s : State} {b : Nat} (hts : ∀ w ∈ lw_tbl, w.before #[Value.ref b] s = true) (hF : ∀ w ∈ gFl, w.before #[Value.ref b] s = true) : ∃ q : Nat × Nat, gPS s.heap.size s ("ParishUnion$Reader", 87, "ward", [119, 97, 114, 100]) q := by
  have hA : ∀ a : Nat, a < s.heap.size → ¬ s.heap.size ≤ a := fun a h => by omega
  obtain ⟨a, c, cB, kA, q1, q2, q3, q4, q5, q6, -⟩ := Cond.exactly_spec (args := #[Value.ref b]) (first := s) (o := none) (s := s) (idx := []) (t := (Term.string "ParishUnion$Reader" 87)) (cls := "java/lang/String") (hF _ (by decide +kernel))
  obtain ⟨t, ht, hT⟩ := va_Tof (args := #[Value.ref b]) (s := s) (tm := .field (Term.string "ParishUnion$Reader" 87) "java/lang/String" "value" "[B") (ty := .byte) (N := 4) (f := fun j => .int (([119, 97, 114, 100] : List Int32).getD j 0)) (A := fun a => s.heap.size ≤ a) (by decide) (hF _ (by decide +kernel)) (va_eqt (hF _ (by decide +kernel))) (fun j hj => by
    have hc : j = 0 ∨ j = 1 ∨ j = 2 ∨ j = 3 := by omega
    rcases hc with rfl | rfl | rfl | rfl
    · exact va_eqt (hF _ (by decide +kernel))
    · exact va_eqt (hF _ (by decide +kernel))
    · exact va_eqt (hF _ (by decide +kernel))
    · exact va_eqt (hF _ (by decide +kernel))) hA
  exact ⟨(a, t), vk_R.of (hts _ (tb_3 _ (List.mem_of_getElem? (i := 234) rfl))) q1, ⟨cB, q3, q5, by rw [q6]; exact q2, hA _ (Array.getElem?_eq_some_iff.mp q3).1⟩, vk_OFof q1 (va_eqt (hF _ (by decide +kernel))) hA, vk_OFof q1 ht hA, hT⟩
theorem gStr_10 {s : State} {b : Nat} (hts : ∀ w ∈ lw_tbl, w.before #[Value.ref b] s = true) (hF : ∀ w ∈ gFl, w.before #[Value.ref b] s = true) : ∃ q : Nat × Nat, gPS s.heap.size s ("ParishUnion$Reader", 89, "ny", [110, 121]) q := by
  have hA : ∀ a : Nat, a < s.heap.size → ¬ s.heap.size ≤ a := fun a h => by omega
  obtain ⟨a, c, cB, kA, q1, q2, q3, q4, q5, q6, -⟩ := Cond.exactly_spec (args := #[Value.ref b]) (first := s) (o := none) (s := s) (idx := []) (t := (Term.string "ParishUnion$Reader" 89)) (cls := "java/lang/String") (hF _ (by decide +kernel))
  obtain ⟨t, ht, hT⟩ := va_Tof (args := #[Value.ref b]) (s := s) (tm := .field (Term.string "ParishUnion$Reader" 89) "java/lang/String" "value" "[B") (ty := .byte) (N := 2) (f := fun j => .int (([110, 121] : List Int32).getD j 0)) (A := fun a => s.heap.size ≤ a) (by decide) (hF _ (by decide +kernel)) (va_eqt (hF _ (by decide +kernel))) (fun j hj => by
    have hc : j = 0 ∨ j = 1 := by omega
    rcases hc with rfl | rfl
    · exact va_eqt (hF _ (by decide +kernel))
    · exact va_eqt (hF _ (by decide +kernel))) hA
  exact ⟨(a, t), vk_R.of (hts _ (tb_4 _ (List.mem_of_getElem? (i := 52) rfl))) q1, ⟨cB, q3, q5, by rw [q6]; exact q2, hA _ (Array.getElem?_eq_some_iff.mp q3).1⟩, vk_OFof q1 (va_eqt (hF _ (by decide +kernel))) hA, vk_OFof q1 ht hA, hT⟩
theorem gStr_11 {s : State} {b : Nat} (hts : ∀ w ∈ lw_tbl, w.before #[Value.ref b] s = true) (hF : ∀ w ∈ gFl, w.before #[Value.ref b] s = true) : ∃ q : Nat × Nat, gPS s.heap.size s ("ParishUnion$Reader", 95, "rhe", [114, 104, 101]) q := by
  have hA : ∀ a : Nat, a < s.heap.size → ¬ s.heap.size ≤ a := fun a h => by omega
  obtain ⟨a, c, cB, kA, q1, q2, q3, q4, q5, q6, -⟩ := Cond.exactly_spec (args := #[Value.ref b]) (first := s) (o := none) (s := s) (idx := []) (t := (Term.string "ParishUnion$Reader" 95)) (cls := "java/lang/String") (hF _ (by decide +kernel))
  obtain ⟨t, ht, hT⟩ := va_Tof (args := #[Value.ref b]) (s := s) (tm := .field (Term.string "ParishUnion$Reader" 95) "java/lang/String" "value" "[B") (ty := .byte) (N := 3) (f := fun j => .int (([114, 104, 101] : List Int32).getD j 0)) (A := fun a => s.heap.size ≤ a) (by decide) (hF _ (by decide +kernel)) (va_eqt (hF _ (by decide +kernel))) (fun j hj => by
    have hc : j = 0 ∨ j = 1 ∨ j = 2 := by omega
    rcases hc with rfl | rfl | rfl
    · exact va_eqt (hF _ (by decide +kernel))
    · exact va_eqt (hF _ (by decide +kernel))
    · exact va_eqt (hF _ (by decide +kernel))) hA
  exact ⟨(a, t), vk_R.of (hts _ (tb_4 _ (List.mem_of_getElem? (i := 57) rfl))) q1, ⟨cB, q3, q5, by rw [q6]; exact q2, hA _ (Array.getElem?_eq_some_iff.mp q3).1⟩, vk_OFof q1 (va_eqt (hF _ (by decide +kernel))) hA, vk_OFof q1 ht hA, hT⟩
theorem gStr_12 {s : State} {b : Nat} (hts : ∀ w ∈ lw_tbl, w.before #[Value.ref b] s = true) (hF : ∀ w ∈ gFl, w.before #[Value.ref b] s = true) : ∃ q : Nat × Nat, gPS s.heap.size s ("ParishUnion$Reader", 97, "0123", [48, 49, 50, 51]) q := by
  have hA : ∀ a : Nat, a < s.heap.size → ¬ s.heap.size ≤ a := fun a h => by omega
  obtain ⟨a, c, cB, kA, q1, q2, q3, q4, q5, q6, -⟩ := Cond.exactly_spec (args := #[Value.ref b]) (first := s) (o := none) (s := s) (idx := []) (t := (Term.string "ParishUnion$Reader" 97)) (cls := "java/lang/String") (hF _ (by decide +kernel))
  obtain ⟨t, ht, hT⟩ := va_Tof (args := #[Value.ref b]) (s := s) (tm := .field (Term.string "ParishUnion$Reader" 97) "java/lang/String" "value" "[B") (ty := .byte) (N := 4) (f := fun j => .int (([48, 49, 50, 51] : List Int32).getD j 0)) (A := fun a => s.heap.size ≤ a) (by decide) (hF _ (by decide +kernel)) (va_eqt (hF _ (by decide +kernel))) (fun j hj => by
    have hc : j = 0 ∨ j = 1 ∨ j = 2 ∨ j = 3 := by omega
    rcases hc with rfl | rfl | rfl | rfl
    · exact va_eqt (hF _ (by decide +kernel))
    · exact va_eqt (hF _ (by decide +kernel))
    · exact va_eqt (hF _ (by decide +kernel))
    · exact va_eqt (hF _ (by decide +kernel))) hA
  exact ⟨(a, t), vk_R.of (hts _ (tb_4 _ (List.mem_of_getElem? (i := 58) rfl))) q1, ⟨cB, q3, q5, by rw [q6]; exact q2, hA _ (Array.getElem?_eq_some_iff.mp q3).1⟩, vk_OFof q1 (va_eqt (hF _ (by decide +kernel))) hA, vk_OFof q1 ht hA, hT⟩
theorem gStr_13 {s : State} {b : Nat} (hts : ∀ w ∈ lw_tbl, w.before #[Value.ref b] s = true) (hF : ∀ w ∈ gFl, w.before #[Value.ref b] s = true) : ∃ q : Nat × Nat, gPS s.heap.size s ("ParishUnion$Reader", 117, "aghf", [97, 103, 104, 102]) q := by
  have hA : ∀ a : Nat, a < s.heap.size → ¬ s.heap.size ≤ a := fun a h => by omega
  obtain ⟨a, c, cB, kA, q1, q2, q3, q4, q5, q6, -⟩ := Cond.exactly_spec (args := #[Value.ref b]) (first := s) (o := none) (s := s) (idx := []) (t := (Term.string "ParishUnion$Reader" 117)) (cls := "java/lang/String") (hF _ (by decide +kernel))
  obtain ⟨t, ht, hT⟩ := va_Tof (args := #[Value.ref b]) (s := s) (tm := .field (Term.string "ParishUnion$Reader" 117) "java/lang/String" "value" "[B") (ty := .byte) (N := 4) (f := fun j => .int (([97, 103, 104, 102] : List Int32).getD j 0)) (A := fun a => s.heap.size ≤ a) (by decide) (hF _ (by decide +kernel)) (va_eqt (hF _ (by decide +kernel))) (fun j hj => by
    have hc : j = 0 ∨ j = 1 ∨ j = 2 ∨ j = 3 := by omega
    rcases hc with rfl | rfl | rfl | rfl
    · exact va_eqt (hF _ (by decide +kernel))
    · exact va_eqt (hF _ (by decide +kernel))
    · exact va_eqt (hF _ (by decide +kernel))
    · exact va_eqt (hF _ (by decide +kernel))) hA
  exact ⟨(a, t), vk_R.of (hts _ (tb_4 _ (List.mem_of_getElem? (i := 76) rfl))) q1, ⟨cB, q3, q5, by rw [q6]; exact q2, hA _ (Array.getElem?_eq_some_iff.mp q3).1⟩, vk_OFof q1 (va_eqt (hF _ (by decide +kernel))) hA, vk_OFof q1 ht hA, hT⟩
theorem gStr_14 {s : State} {b : Nat} (hts : ∀ w ∈ lw_tbl, w.before #[Value.ref b] s = true) (hF : ∀ w ∈ gFl, w.before #[Value.ref b] s = true) : ∃ q : Nat × Nat, gPS s.heap.size s ("ParishUnion$Reader", 119, "<>", [60, 62]) q := by
  have hA : ∀ a : Nat, a < s.heap.size → ¬ s.heap.size ≤ a := fun a h => by omega
  obtain ⟨a, c, cB, kA, q1, q2, q3, q4, q5, q6, -⟩ := Cond.exactly_spec (args := #[Value.ref b]) (first := s) (o := none) (s := s) (idx := []) (t := (Term.string "ParishUnion$Reader" 119)) (cls := "java/lang/String") (hF _ (by decide +kernel))
  obtain ⟨t, ht, hT⟩ := va_Tof (args := #[Value.ref b]) (s := s) (tm := .field (Term.string "ParishUnion$Reader" 119) "java/lang/String" "value" "[B") (ty := .byte) (N := 2) (f := fun j => .int (([60, 62] : List Int32).getD j 0)) (A := fun a => s.heap.size ≤ a) (by decide) (hF _ (by decide +kernel)) (va_eqt (hF _ (by decide +kernel))) (fun j hj => by
    have hc : j = 0 ∨ j = 1 := by omega
    rcases hc with rfl | rfl
    · exact va_eqt (hF _ (by decide +kernel))
    · exact va_eqt (hF _ (by decide +kernel))) hA
  exact ⟨(a, t), vk_R.of (hts _ (tb_4 _ (List.mem_of_getElem? (i := 77) rfl))) q1, ⟨cB, q3, q5, by rw [q6]; exact q2, hA _ (Array.getElem?_eq_some_iff.mp q3).1⟩, vk_OFof q1 (va_eqt (hF _ (by decide +kernel))) hA, vk_OFof q1 ht hA, hT⟩
theorem gStr_15 {s : State} {b : Nat} (hts : ∀ w ∈ lw_tbl, w.before #[Value.ref b] s = true) (hF : ∀ w ∈ gFl, w.before #[Value.ref b] s = true) : ∃ q : Nat × Nat, gPS s.heap.size s ("ParishUnion$Reader", 121, "sp", [115, 112]) q := by
  have hA : ∀ a : Nat, a < s.heap.size → ¬ s.heap.size ≤ a := fun a h => by omega
  obtain ⟨a, c, cB, kA, q1, q2, q3, q4, q5, q6, -⟩ := Cond.exactly_spec (args := #[Value.ref b]) (first := s) (o := none) (s := s) (idx := []) (t := (Term.string "ParishUnion$Reader" 121)) (cls := "java/lang/String") (hF _ (by decide +kernel))
  obtain ⟨t, ht, hT⟩ := va_Tof (args := #[Value.ref b]) (s := s) (tm := .field (Term.string "ParishUnion$Reader" 121) "java/lang/String" "value" "[B") (ty := .byte) (N := 2) (f := fun j => .int (([115, 112] : List Int32).getD j 0)) (A := fun a => s.heap.size ≤ a) (by decide) (hF _ (by decide +kernel)) (va_eqt (hF _ (by decide +kernel))) (fun j hj => by
    have hc : j = 0 ∨ j = 1 := by omega
    rcases hc with rfl | rfl
    · exact va_eqt (hF _ (by decide +kernel))
    · exact va_eqt (hF _ (by decide +kernel))) hA
  exact ⟨(a, t), vk_R.of (hts _ (tb_4 _ (List.mem_of_getElem? (i := 78) rfl))) q1, ⟨cB, q3, q5, by rw [q6]; exact q2, hA _ (Array.getElem?_eq_some_iff.mp q3).1⟩, vk_OFof q1 (va_eqt (hF _ (by decide +kernel))) hA, vk_OFof q1 ht hA, hT⟩
theorem gStr_16 {s : State} {b : Nat} (hts : ∀ w ∈ lw_tbl, w.before #[Value.ref b] s = true) (hF : ∀ w ∈ gFl, w.before #[Value.ref b] s = true) : ∃ q : Nat × Nat, gPS s.heap.size s ("ParishUnionModel", 143, "hired ", [104, 105, 114, 101, 100, 32]) q := by
  have hA : ∀ a : Nat, a < s.heap.size → ¬ s.heap.size ≤ a := fun a h => by omega
  obtain ⟨a, c, cB, kA, q1, q2, q3, q4, q5, q6, -⟩ := Cond.exactly_spec (args := #[Value.ref b]) (first := s) (o := none) (s := s) (idx := []) (t := (Term.string "ParishUnionModel" 143)) (cls := "java/lang/String") (hF _ (by decide +kernel))
  obtain ⟨t, ht, hT⟩ := va_Tof (args := #[Value.ref b]) (s := s) (tm := .field (Term.string "ParishUnionModel" 143) "java/lang/String" "value" "[B") (ty := .byte) (N := 6) (f := fun j => .int (([104, 105, 114, 101, 100, 32] : List Int32).getD j 0)) (A := fun a => s.heap.size ≤ a) (by decide) (hF _ (by decide +kernel)) (va_eqt (hF _ (by decide +kernel))) (fun j hj => by
    have hc : j = 0 ∨ j = 1 ∨ j = 2 ∨ j = 3 ∨ j = 4 ∨ j = 5 := by omega
    rcases hc with rfl | rfl | rfl | rfl | rfl | rfl
    · exact va_eqt (hF _ (by decide +kernel))
    · exact va_eqt (hF _ (by decide +kernel))
    · exact va_eqt (hF _ (by decide +kernel))
    · exact va_eqt (hF _ (by decide +kernel))
    · exact va_eqt (hF _ (by decide +kernel))
    · exact va_eqt (hF _ (by decide +kernel))) hA
  exact ⟨(a, t), vk_R.of (hts _ (tb_7 _ (List.mem_of_getElem? (i := 14) rfl))) q1, ⟨cB, q3, q5, by rw [q6]; exact q2, hA _ (Array.getElem?_eq_some_iff.mp q3).1⟩, vk_OFof q1 (va_eqt (hF _ (by decide +kernel))) hA, vk_OFof q1 ht hA, hT⟩
theorem gStr_17 {s : State} {b : Nat} (hts : ∀ w ∈ lw_tbl, w.before #[Value.ref b] s = true) (hF : ∀ w ∈ gFl, w.before #[Value.ref b] s = true) : ∃ q : Nat × Nat, gPS s.heap.size s ("ParishUnionModel", 145, "rated ", [114, 97, 116, 101, 100, 32]) q := by
  have hA : ∀ a : Nat, a < s.heap.size → ¬ s.heap.size ≤ a := fun a h => by omega
  obtain ⟨a, c, cB, kA, q1, q2, q3, q4, q5, q6, -⟩ := Cond.exactly_spec (args := #[Value.ref b]) (first := s) (o := none) (s := s) (idx := []) (t := (Term.string "ParishUnionModel" 145)) (cls := "java/lang/String") (hF _ (by decide +kernel))
  obtain ⟨t, ht, hT⟩ := va_Tof (args := #[Value.ref b]) (s := s) (tm := .field (Term.string "ParishUnionModel" 145) "java/lang/String" "value" "[B") (ty := .byte) (N := 6) (f := fun j => .int (([114, 97, 116, 101, 100, 32] : List Int32).getD j 0)) (A := fun a => s.heap.size ≤ a) (by decide) (hF _ (by decide +kernel)) (va_eqt (hF _ (by decide +kernel))) (fun j hj => by
    have hc : j = 0 ∨ j = 1 ∨ j = 2 ∨ j = 3 ∨ j = 4 ∨ j = 5 := by omega
    rcases hc with rfl | rfl | rfl | rfl | rfl | rfl
    · exact va_eqt (hF _ (by decide +kernel))
    · exact va_eqt (hF _ (by decide +kernel))
    · exact va_eqt (hF _ (by decide +kernel))
    · exact va_eqt (hF _ (by decide +kernel))
    · exact va_eqt (hF _ (by decide +kernel))
    · exact va_eqt (hF _ (by decide +kernel))) hA
  exact ⟨(a, t), vk_R.of (hts _ (tb_7 _ (List.mem_of_getElem? (i := 15) rfl))) q1, ⟨cB, q3, q5, by rw [q6]; exact q2, hA _ (Array.getElem?_eq_some_iff.mp q3).1⟩, vk_OFof q1 (va_eqt (hF _ (by decide +kernel))) hA, vk_OFof q1 ht hA, hT⟩
theorem gStr_18 {s : State} {b : Nat} (hts : ∀ w ∈ lw_tbl, w.before #[Value.ref b] s = true) (hF : ∀ w ∈ gFl, w.before #[Value.ref b] s = true) : ∃ q : Nat × Nat, gPS s.heap.size s ("ParishUnionModel", 147, "diet ", [100, 105, 101, 116, 32]) q := by
  have hA : ∀ a : Nat, a < s.heap.size → ¬ s.heap.size ≤ a := fun a h => by omega
  obtain ⟨a, c, cB, kA, q1, q2, q3, q4, q5, q6, -⟩ := Cond.exactly_spec (args := #[Value.ref b]) (first := s) (o := none) (s := s) (idx := []) (t := (Term.string "ParishUnionModel" 147)) (cls := "java/lang/String") (hF _ (by decide +kernel))
  obtain ⟨t, ht, hT⟩ := va_Tof (args := #[Value.ref b]) (s := s) (tm := .field (Term.string "ParishUnionModel" 147) "java/lang/String" "value" "[B") (ty := .byte) (N := 5) (f := fun j => .int (([100, 105, 101, 116, 32] : List Int32).getD j 0)) (A := fun a => s.heap.size ≤ a) (by decide) (hF _ (by decide +kernel)) (va_eqt (hF _ (by decide +kernel))) (fun j hj => by
    have hc : j = 0 ∨ j = 1 ∨ j = 2 ∨ j = 3 ∨ j = 4 := by omega
    rcases hc with rfl | rfl | rfl | rfl | rfl
    · exact va_eqt (hF _ (by decide +kernel))
    · exact va_eqt (hF _ (by decide +kernel))
    · exact va_eqt (hF _ (by decide +kernel))
    · exact va_eqt (hF _ (by decide +kernel))
    · exact va_eqt (hF _ (by decide +kernel))) hA
  exact ⟨(a, t), vk_R.of (hts _ (tb_7 _ (List.mem_of_getElem? (i := 16) rfl))) q1, ⟨cB, q3, q5, by rw [q6]; exact q2, hA _ (Array.getElem?_eq_some_iff.mp q3).1⟩, vk_OFof q1 (va_eqt (hF _ (by decide +kernel))) hA, vk_OFof q1 ht hA, hT⟩
theorem gStr_19 {s : State} {b : Nat} (hts : ∀ w ∈ lw_tbl, w.before #[Value.ref b] s = true) (hF : ∀ w ∈ gFl, w.before #[Value.ref b] s = true) : ∃ q : Nat × Nat, gPS s.heap.size s ("ParishUnionModel", 149, "fear ", [102, 101, 97, 114, 32]) q := by
  have hA : ∀ a : Nat, a < s.heap.size → ¬ s.heap.size ≤ a := fun a h => by omega
  obtain ⟨a, c, cB, kA, q1, q2, q3, q4, q5, q6, -⟩ := Cond.exactly_spec (args := #[Value.ref b]) (first := s) (o := none) (s := s) (idx := []) (t := (Term.string "ParishUnionModel" 149)) (cls := "java/lang/String") (hF _ (by decide +kernel))
  obtain ⟨t, ht, hT⟩ := va_Tof (args := #[Value.ref b]) (s := s) (tm := .field (Term.string "ParishUnionModel" 149) "java/lang/String" "value" "[B") (ty := .byte) (N := 5) (f := fun j => .int (([102, 101, 97, 114, 32] : List Int32).getD j 0)) (A := fun a => s.heap.size ≤ a) (by decide) (hF _ (by decide +kernel)) (va_eqt (hF _ (by decide +kernel))) (fun j hj => by
    have hc : j = 0 ∨ j = 1 ∨ j = 2 ∨ j = 3 ∨ j = 4 := by omega
    rcases hc with rfl | rfl | rfl | rfl | rfl
    · exact va_eqt (hF _ (by decide +kernel))
    · exact va_eqt (hF _ (by decide +kernel))
    · exact va_eqt (hF _ (by decide +kernel))
    · exact va_eqt (hF _ (by decide +kernel))
    · exact va_eqt (hF _ (by decide +kernel))) hA
  exact ⟨(a, t), vk_R.of (hts _ (tb_7 _ (List.mem_of_getElem? (i := 17) rfl))) q1, ⟨cB, q3, q5, by rw [q6]; exact q2, hA _ (Array.getElem?_eq_some_iff.mp q3).1⟩, vk_OFof q1 (va_eqt (hF _ (by decide +kernel))) hA, vk_OFof q1 ht hA, hT⟩
theorem gStr_20 {s : State} {b : Nat} (hts : ∀ w ∈ lw_tbl, w.before #[Value.ref b] s = true) (hF : ∀ w ∈ gFl, w.before #[Value.ref b] s = true) : ∃ q : Nat × Nat, gPS s.heap.size s ("ParishUnionModel", 151, "bind ", [98, 105, 110, 100, 32]) q := by
  have hA : ∀ a : Nat, a < s.heap.size → ¬ s.heap.size ≤ a := fun a h => by omega
  obtain ⟨a, c, cB, kA, q1, q2, q3, q4, q5, q6, -⟩ := Cond.exactly_spec (args := #[Value.ref b]) (first := s) (o := none) (s := s) (idx := []) (t := (Term.string "ParishUnionModel" 151)) (cls := "java/lang/String") (hF _ (by decide +kernel))
  obtain ⟨t, ht, hT⟩ := va_Tof (args := #[Value.ref b]) (s := s) (tm := .field (Term.string "ParishUnionModel" 151) "java/lang/String" "value" "[B") (ty := .byte) (N := 5) (f := fun j => .int (([98, 105, 110, 100, 32] : List Int32).getD j 0)) (A := fun a => s.heap.size ≤ a) (by decide) (hF _ (by decide +kernel)) (va_eqt (hF _ (by decide +kernel))) (fun j hj => by
    have hc : j = 0 ∨ j = 1 ∨ j = 2 ∨ j = 3 ∨ j = 4 := by omega
    rcases hc with rfl | rfl | rfl | rfl | rfl
    · exact va_eqt (hF _ (by decide +kernel))
    · exact va_eqt (hF _ (by decide +kernel))
    · exact va_eqt (hF _ (by decide +kernel))
    · exact va_eqt (hF _ (by decide +kernel))
    · exact va_eqt (hF _ (by decide +kernel))) hA
  exact ⟨(a, t), vk_R.of (hts _ (tb_7 _ (List.mem_of_getElem? (i := 18) rfl))) q1, ⟨cB, q3, q5, by rw [q6]; exact q2, hA _ (Array.getElem?_eq_some_iff.mp q3).1⟩, vk_OFof q1 (va_eqt (hF _ (by decide +kernel))) hA, vk_OFof q1 ht hA, hT⟩
theorem gStr_21 {s : State} {b : Nat} (hts : ∀ w ∈ lw_tbl, w.before #[Value.ref b] s = true) (hF : ∀ w ∈ gFl, w.before #[Value.ref b] s = true) : ∃ q : Nat × Nat, gPS s.heap.size s ("ParishUnionModel", 153, "wed ", [119, 101, 100, 32]) q := by
  have hA : ∀ a : Nat, a < s.heap.size → ¬ s.heap.size ≤ a := fun a h => by omega
  obtain ⟨a, c, cB, kA, q1, q2, q3, q4, q5, q6, -⟩ := Cond.exactly_spec (args := #[Value.ref b]) (first := s) (o := none) (s := s) (idx := []) (t := (Term.string "ParishUnionModel" 153)) (cls := "java/lang/String") (hF _ (by decide +kernel))
  obtain ⟨t, ht, hT⟩ := va_Tof (args := #[Value.ref b]) (s := s) (tm := .field (Term.string "ParishUnionModel" 153) "java/lang/String" "value" "[B") (ty := .byte) (N := 4) (f := fun j => .int (([119, 101, 100, 32] : List Int32).getD j 0)) (A := fun a => s.heap.size ≤ a) (by decide) (hF _ (by decide +kernel)) (va_eqt (hF _ (by decide +kernel))) (fun j hj => by
    have hc : j = 0 ∨ j = 1 ∨ j = 2 ∨ j = 3 := by omega
    rcases hc with rfl | rfl | rfl | rfl
    · exact va_eqt (hF _ (by decide +kernel))
    · exact va_eqt (hF _ (by decide +kernel))
    · exact va_eqt (hF _ (by decide +kernel))
    · exact va_eqt (hF _ (by decide +kernel))) hA
  exact ⟨(a, t), vk_R.of (hts _ (tb_7 _ (List.mem_of_getElem? (i := 19) rfl))) q1, ⟨cB, q3, q5, by rw [q6]; exact q2, hA _ (Array.getElem?_eq_some_iff.mp q3).1⟩, vk_OFof q1 (va_eqt (hF _ (by decide +kernel))) hA, vk_OFof q1 ht hA, hT⟩
theorem gStr_22 {s : State} {b : Nat} (hts : ∀ w ∈ lw_tbl, w.before #[Value.ref b] s = true) (hF : ∀ w ∈ gFl, w.before #[Value.ref b] s = true) : ∃ q : Nat × Nat, gPS s.heap.size s ("ParishUnionModel", 155, "kin ", [107, 105, 110, 32]) q := by
  have hA : ∀ a : Nat, a < s.heap.size → ¬ s.heap.size ≤ a := fun a h => by omega
  obtain ⟨a, c, cB, kA, q1, q2, q3, q4, q5, q6, -⟩ := Cond.exactly_spec (args := #[Value.ref b]) (first := s) (o := none) (s := s) (idx := []) (t := (Term.string "ParishUnionModel" 155)) (cls := "java/lang/String") (hF _ (by decide +kernel))
  obtain ⟨t, ht, hT⟩ := va_Tof (args := #[Value.ref b]) (s := s) (tm := .field (Term.string "ParishUnionModel" 155) "java/lang/String" "value" "[B") (ty := .byte) (N := 4) (f := fun j => .int (([107, 105, 110, 32] : List Int32).getD j 0)) (A := fun a => s.heap.size ≤ a) (by decide) (hF _ (by decide +kernel)) (va_eqt (hF _ (by decide +kernel))) (fun j hj => by
    have hc : j = 0 ∨ j = 1 ∨ j = 2 ∨ j = 3 := by omega
    rcases hc with rfl | rfl | rfl | rfl
    · exact va_eqt (hF _ (by decide +kernel))
    · exact va_eqt (hF _ (by decide +kernel))
    · exact va_eqt (hF _ (by decide +kernel))
    · exact va_eqt (hF _ (by decide +kernel))) hA
  exact ⟨(a, t), vk_R.of (hts _ (tb_7 _ (List.mem_of_getElem? (i := 20) rfl))) q1, ⟨cB, q3, q5, by rw [q6]; exact q2, hA _ (Array.getElem?_eq_some_iff.mp q3).1⟩, vk_OFof q1 (va_eqt (hF _ (by decide +kernel))) hA, vk_OFof q1 ht hA, hT⟩
theorem gStr_23 {s : State} {b : Nat} (hts : ∀ w ∈ lw_tbl, w.before #[Value.ref b] s = true) (hF : ∀ w ∈ gFl, w.before #[Value.ref b] s = true) : ∃ q : Nat × Nat, gPS s.heap.size s ("ParishUnionModel", 157, "share ", [115, 104, 97, 114, 101, 32]) q := by
  have hA : ∀ a : Nat, a < s.heap.size → ¬ s.heap.size ≤ a := fun a h => by omega
  obtain ⟨a, c, cB, kA, q1, q2, q3, q4, q5, q6, -⟩ := Cond.exactly_spec (args := #[Value.ref b]) (first := s) (o := none) (s := s) (idx := []) (t := (Term.string "ParishUnionModel" 157)) (cls := "java/lang/String") (hF _ (by decide +kernel))
  obtain ⟨t, ht, hT⟩ := va_Tof (args := #[Value.ref b]) (s := s) (tm := .field (Term.string "ParishUnionModel" 157) "java/lang/String" "value" "[B") (ty := .byte) (N := 6) (f := fun j => .int (([115, 104, 97, 114, 101, 32] : List Int32).getD j 0)) (A := fun a => s.heap.size ≤ a) (by decide) (hF _ (by decide +kernel)) (va_eqt (hF _ (by decide +kernel))) (fun j hj => by
    have hc : j = 0 ∨ j = 1 ∨ j = 2 ∨ j = 3 ∨ j = 4 ∨ j = 5 := by omega
    rcases hc with rfl | rfl | rfl | rfl | rfl | rfl
    · exact va_eqt (hF _ (by decide +kernel))
    · exact va_eqt (hF _ (by decide +kernel))
    · exact va_eqt (hF _ (by decide +kernel))
    · exact va_eqt (hF _ (by decide +kernel))
    · exact va_eqt (hF _ (by decide +kernel))
    · exact va_eqt (hF _ (by decide +kernel))) hA
  exact ⟨(a, t), vk_R.of (hts _ (tb_7 _ (List.mem_of_getElem? (i := 21) rfl))) q1, ⟨cB, q3, q5, by rw [q6]; exact q2, hA _ (Array.getElem?_eq_some_iff.mp q3).1⟩, vk_OFof q1 (va_eqt (hF _ (by decide +kernel))) hA, vk_OFof q1 ht hA, hT⟩
theorem gStr_24 {s : State} {b : Nat} (hts : ∀ w ∈ lw_tbl, w.before #[Value.ref b] s = true) (hF : ∀ w ∈ gFl, w.before #[Value.ref b] s = true) : ∃ q : Nat × Nat, gPS s.heap.size s ("ParishUnionModel", 159, "give ", [103, 105, 118, 101, 32]) q := by
  have hA : ∀ a : Nat, a < s.heap.size → ¬ s.heap.size ≤ a := fun a h => by omega
  obtain ⟨a, c, cB, kA, q1, q2, q3, q4, q5, q6, -⟩ := Cond.exactly_spec (args := #[Value.ref b]) (first := s) (o := none) (s := s) (idx := []) (t := (Term.string "ParishUnionModel" 159)) (cls := "java/lang/String") (hF _ (by decide +kernel))
  obtain ⟨t, ht, hT⟩ := va_Tof (args := #[Value.ref b]) (s := s) (tm := .field (Term.string "ParishUnionModel" 159) "java/lang/String" "value" "[B") (ty := .byte) (N := 5) (f := fun j => .int (([103, 105, 118, 101, 32] : List Int32).getD j 0)) (A := fun a => s.heap.size ≤ a) (by decide) (hF _ (by decide +kernel)) (va_eqt (hF _ (by decide +kernel))) (fun j hj => by
    have hc : j = 0 ∨ j = 1 ∨ j = 2 ∨ j = 3 ∨ j = 4 := by omega
    rcases hc with rfl | rfl | rfl | rfl | rfl
    · exact va_eqt (hF _ (by decide +kernel))
    · exact va_eqt (hF _ (by decide +kernel))
    · exact va_eqt (hF _ (by decide +kernel))
    · exact va_eqt (hF _ (by decide +kernel))
    · exact va_eqt (hF _ (by decide +kernel))) hA
  exact ⟨(a, t), vk_R.of (hts _ (tb_7 _ (List.mem_of_getElem? (i := 22) rfl))) q1, ⟨cB, q3, q5, by rw [q6]; exact q2, hA _ (Array.getElem?_eq_some_iff.mp q3).1⟩, vk_OFof q1 (va_eqt (hF _ (by decide +kernel))) hA, vk_OFof q1 ht hA, hT⟩
theorem gStr_25 {s : State} {b : Nat} (hts : ∀ w ∈ lw_tbl, w.before #[Value.ref b] s = true) (hF : ∀ w ∈ gFl, w.before #[Value.ref b] s = true) : ∃ q : Nat × Nat, gPS s.heap.size s ("ParishUnionModel", 161, "ward ", [119, 97, 114, 100, 32]) q := by
  have hA : ∀ a : Nat, a < s.heap.size → ¬ s.heap.size ≤ a := fun a h => by omega
  obtain ⟨a, c, cB, kA, q1, q2, q3, q4, q5, q6, -⟩ := Cond.exactly_spec (args := #[Value.ref b]) (first := s) (o := none) (s := s) (idx := []) (t := (Term.string "ParishUnionModel" 161)) (cls := "java/lang/String") (hF _ (by decide +kernel))
  obtain ⟨t, ht, hT⟩ := va_Tof (args := #[Value.ref b]) (s := s) (tm := .field (Term.string "ParishUnionModel" 161) "java/lang/String" "value" "[B") (ty := .byte) (N := 5) (f := fun j => .int (([119, 97, 114, 100, 32] : List Int32).getD j 0)) (A := fun a => s.heap.size ≤ a) (by decide) (hF _ (by decide +kernel)) (va_eqt (hF _ (by decide +kernel))) (fun j hj => by
    have hc : j = 0 ∨ j = 1 ∨ j = 2 ∨ j = 3 ∨ j = 4 := by omega
    rcases hc with rfl | rfl | rfl | rfl | rfl
    · exact va_eqt (hF _ (by decide +kernel))
    · exact va_eqt (hF _ (by decide +kernel))
    · exact va_eqt (hF _ (by decide +kernel))
    · exact va_eqt (hF _ (by decide +kernel))
    · exact va_eqt (hF _ (by decide +kernel))) hA
  exact ⟨(a, t), vk_R.of (hts _ (tb_7 _ (List.mem_of_getElem? (i := 23) rfl))) q1, ⟨cB, q3, q5, by rw [q6]; exact q2, hA _ (Array.getElem?_eq_some_iff.mp q3).1⟩, vk_OFof q1 (va_eqt (hF _ (by decide +kernel))) hA, vk_OFof q1 ht hA, hT⟩
theorem kw_1_22 : (Jvm.Cond.instantiable "ParishUnion" (10 : Nat)) ∈ gT := gT_of (tb_1 _ (List.mem_of_getElem? (i := 22) rfl)) rfl
theorem kw_6_22 : (Jvm.Cond.instantiable "ParishUnionModel" (24 : Nat)) ∈ gT := gT_of (tb_6 _ (List.mem_of_getElem? (i := 22) rfl)) rfl
theorem gNM_in : ∀ q ∈ gNestM, Cond.methodLinkNest q.1 q.2.1 q.2.2.1 q.2.2.2 ∈ lw_tbl := by
  unfold gNestM
  refine List.forall_mem_cons.mpr ⟨tb_1 _ (List.mem_of_getElem? (i := 58) rfl), ?_⟩
  refine List.forall_mem_cons.mpr ⟨tb_1 _ (List.mem_of_getElem? (i := 138) rfl), ?_⟩
  refine List.forall_mem_cons.mpr ⟨tb_1 _ (List.mem_of_getElem? (i := 152) rfl), ?_⟩
  refine List.forall_mem_cons.mpr ⟨tb_1 _ (List.mem_of_getElem? (i := 171) rfl), ?_⟩
  refine List.forall_mem_cons.mpr ⟨tb_2 _ (List.mem_of_getElem? (i := 20) rfl), ?_⟩
  refine List.forall_mem_cons.mpr ⟨tb_2 _ (List.mem_of_getElem? (i := 67) rfl), ?_⟩
  refine List.forall_mem_cons.mpr ⟨tb_2 _ (List.mem_of_getElem? (i := 175) rfl), ?_⟩
  refine List.forall_mem_cons.mpr ⟨tb_2 _ (List.mem_of_getElem? (i := 207) rfl), ?_⟩
  refine List.forall_mem_cons.mpr ⟨tb_2 _ (List.mem_of_getElem? (i := 230) rfl), ?_⟩
  exact fun _ h => absurd h List.not_mem_nil
theorem gNF_in : ∀ q ∈ gNestF, Cond.fieldLinkNest q.1 q.2.1 q.2.2.1 q.2.2.2.1 q.2.2.2.2.1 q.2.2.2.2.2 ∈ lw_tbl := by
  unfold gNestF
  refine List.forall_mem_cons.mpr ⟨tb_3 _ (List.mem_of_getElem? (i := 116) rfl), ?_⟩
  refine List.forall_mem_cons.mpr ⟨tb_3 _ (List.mem_of_getElem? (i := 145) rfl), ?_⟩
  exact fun _ h => absurd h List.not_mem_nil
set_option maxHeartbeats 4000000 in
theorem gStart {p : Program} {s : State} {m : MethodId} {meth : Method} {c : Code} {b L : Nat} {xs : Nat → Int32} (C0 : lw_At p s m meth c b L xs) : ∃ (D : va_G) (cA : Nat → ClassId), gK D cA s ∧ gOld s.heap.size cA s s.heap := by
  obtain ⟨hx, hb, hr, hml, hown, hts, hX, hbl, hlocks, hgv⟩ := C0
  have hF : ∀ w ∈ gFl, w.before #[Value.ref b] s = true := flat_of_before _ hgv
  have hg : ∀ w ∈ gT, w.before #[Value.ref b] s = true := fun w hw => hts w (List.mem_filter.mp hw).1
  have hA : ∀ a : Nat, a < s.heap.size → ¬ s.heap.size ≤ a := fun a h => by omega
  obtain ⟨c0, i0, h0⟩ := u_known (C := RX0) (T := TX0) (N := 8) (n := 8) hg iX0 (hg _ kw_2_66)
  obtain ⟨c1, i1, h1⟩ := u_known (C := RX1) (T := TX1) (N := 8) (n := 8) hg iX1 (hg _ kw_2_174)
  obtain ⟨c2, i2, h2⟩ := u_known (C := RX2) (T := TX2) (N := 10) (n := 10) hg iX2 (hg _ kw_1_90)
  obtain ⟨c3, i3, h3⟩ := u_known (C := RX3) (T := TX3) (N := 2) (n := 2) hg iX3 (hg _ kw_1_36)
  obtain ⟨c4, i4, h4⟩ := u_known (C := RX4) (T := TX4) (N := 6) (n := 6) hg iX4 (hg _ kw_1_57)
  obtain ⟨c5, i5, h5⟩ := u_known (C := RX5) (T := TX5) (N := 2) (n := 2) hg iX5 (hg _ kw_1_137)
  obtain ⟨c6, i6, h6⟩ := u_known (C := RX6) (T := TX6) (N := 16) (n := 16) hg iX6 (hg _ kw_1_170)
  obtain ⟨c7, i7, h7⟩ := u_known (C := RX7) (T := TX7) (N := 5) (n := 5) hg iX7 (hg _ kw_2_206)
  obtain ⟨c8, i8, h8⟩ := u_known (C := RX8) (T := TX8) (N := 9) (n := 9) hg iX8 (hg _ kw_2_19)
  obtain ⟨c9, i9, h9⟩ := u_known (C := RX9) (T := TX9) (N := 16) (n := 16) hg iX9 (hg _ kw_1_30)
  obtain ⟨c10, i10, h10⟩ := u_known (C := RX10) (T := TX10) (N := 4) (n := 4) hg iX10 (hg _ kw_1_151)
  obtain ⟨c11, i11, h11⟩ := u_known (C := RX11) (T := TX11) (N := 10) (n := 10) hg iX11 (hg _ kw_1_22)
  obtain ⟨c12, i12, h12⟩ := u_known (C := RX12) (T := TX12) (N := 24) (n := 24) hg iX12 (hg _ kw_6_22)
  obtain ⟨a1, k1, m1, f1, g1, j1⟩ := Cond.arrayClass_spec (hg _ kw_1_49)
  obtain ⟨a2, k2, m2, f2, g2, j2⟩ := Cond.arrayClass_spec (hg _ kw_1_149)
  obtain ⟨a3, k3, m3, f3, g3, j3⟩ := Cond.arrayClass_spec (hg _ kw_1_87)
  obtain ⟨a4, k4, m4, f4, g4, j4⟩ := Cond.arrayClass_spec (hg _ kw_1_88)
  have ao5 := hts _ (tb_1 _ (List.mem_of_getElem? (i := 55) rfl))
  obtain ⟨m5, a5, k5, f5, e5, g5, j5, n5⟩ := Cond.arrayOver_spec ao5
  have ao6 := hts _ (tb_1 _ (List.mem_of_getElem? (i := 51) rfl))
  obtain ⟨m6, a6, k6, f6, e6, g6, j6, n6⟩ := Cond.arrayOver_spec ao6
  have ao7 := hts _ (tb_1 _ (List.mem_of_getElem? (i := 53) rfl))
  obtain ⟨m7, a7, k7, f7, e7, g7, j7, n7⟩ := Cond.arrayOver_spec ao7
  have hs : ∀ i : Nat, ∃ q : Nat × Nat, ∀ x, gSO[i]? = some x → gPS s.heap.size s x q := by
    intro i
    match i with
    | 0 => obtain ⟨q, hq⟩ := gStr_0 hts hF; exact ⟨q, fun x hx => by cases hx; exact hq⟩
    | 1 => obtain ⟨q, hq⟩ := gStr_1 hts hF; exact ⟨q, fun x hx => by cases hx; exact hq⟩
    | 2 => obtain ⟨q, hq⟩ := gStr_2 hts hF; exact ⟨q, fun x hx => by cases hx; exact hq⟩
    | 3 => obtain ⟨q, hq⟩ := gStr_3 hts hF; exact ⟨q, fun x hx => by cases hx; exact hq⟩
    | 4 => obtain ⟨q, hq⟩ := gStr_4 hts hF; exact ⟨q, fun x hx => by cases hx; exact hq⟩
    | 5 => obtain ⟨q, hq⟩ := gStr_5 hts hF; exact ⟨q, fun x hx => by cases hx; exact hq⟩
    | 6 => obtain ⟨q, hq⟩ := gStr_6 hts hF; exact ⟨q, fun x hx => by cases hx; exact hq⟩
    | 7 => obtain ⟨q, hq⟩ := gStr_7 hts hF; exact ⟨q, fun x hx => by cases hx; exact hq⟩
    | 8 => obtain ⟨q, hq⟩ := gStr_8 hts hF; exact ⟨q, fun x hx => by cases hx; exact hq⟩
    | 9 => obtain ⟨q, hq⟩ := gStr_9 hts hF; exact ⟨q, fun x hx => by cases hx; exact hq⟩
    | 10 => obtain ⟨q, hq⟩ := gStr_10 hts hF; exact ⟨q, fun x hx => by cases hx; exact hq⟩
    | 11 => obtain ⟨q, hq⟩ := gStr_11 hts hF; exact ⟨q, fun x hx => by cases hx; exact hq⟩
    | 12 => obtain ⟨q, hq⟩ := gStr_12 hts hF; exact ⟨q, fun x hx => by cases hx; exact hq⟩
    | 13 => obtain ⟨q, hq⟩ := gStr_13 hts hF; exact ⟨q, fun x hx => by cases hx; exact hq⟩
    | 14 => obtain ⟨q, hq⟩ := gStr_14 hts hF; exact ⟨q, fun x hx => by cases hx; exact hq⟩
    | 15 => obtain ⟨q, hq⟩ := gStr_15 hts hF; exact ⟨q, fun x hx => by cases hx; exact hq⟩
    | 16 => obtain ⟨q, hq⟩ := gStr_16 hts hF; exact ⟨q, fun x hx => by cases hx; exact hq⟩
    | 17 => obtain ⟨q, hq⟩ := gStr_17 hts hF; exact ⟨q, fun x hx => by cases hx; exact hq⟩
    | 18 => obtain ⟨q, hq⟩ := gStr_18 hts hF; exact ⟨q, fun x hx => by cases hx; exact hq⟩
    | 19 => obtain ⟨q, hq⟩ := gStr_19 hts hF; exact ⟨q, fun x hx => by cases hx; exact hq⟩
    | 20 => obtain ⟨q, hq⟩ := gStr_20 hts hF; exact ⟨q, fun x hx => by cases hx; exact hq⟩
    | 21 => obtain ⟨q, hq⟩ := gStr_21 hts hF; exact ⟨q, fun x hx => by cases hx; exact hq⟩
    | 22 => obtain ⟨q, hq⟩ := gStr_22 hts hF; exact ⟨q, fun x hx => by cases hx; exact hq⟩
    | 23 => obtain ⟨q, hq⟩ := gStr_23 hts hF; exact ⟨q, fun x hx => by cases hx; exact hq⟩
    | 24 => obtain ⟨q, hq⟩ := gStr_24 hts hF; exact ⟨q, fun x hx => by cases hx; exact hq⟩
    | 25 => obtain ⟨q, hq⟩ := gStr_25 hts hF; exact ⟨q, fun x hx => by cases hx; exact hq⟩
    | k + 26 => exact ⟨(0, 0), fun x hx => by simp [gSO] at hx⟩
  obtain ⟨ad, had⟩ := Classical.axiomOfChoice hs
  obtain ⟨cA, q1, q2, q3, q4, q5, q6, q7, e1, e2⟩ : ∃ cA : Nat → ClassId, cA 1 = a1 ∧ cA 2 = a2 ∧ cA 3 = a3 ∧ cA 4 = a4 ∧ cA 5 = a5 ∧ cA 6 = a6 ∧ cA 7 = a7 ∧ (∀ i : Nat, i < 26 → cA (100 + i) = (ad i).1) ∧ (∀ i : Nat, i < 26 → cA (200 + i) = (ad i).2) := by
    refine ⟨fun k => if k = 1 then a1 else if k = 2 then a2 else if k = 3 then a3 else if k = 4 then a4 else if k = 5 then a5 else if k = 6 then a6 else if k = 7 then a7 else if k < 200 then (ad (k - 100)).1 else (ad (k - 200)).2, rfl, rfl, rfl, rfl, rfl, rfl, rfl, fun i hi => ?_, fun i hi => ?_⟩
    · show (if 100 + i = 1 then a1 else _) = _
      rw [if_neg (by omega), if_neg (by omega), if_neg (by omega), if_neg (by omega), if_neg (by omega), if_neg (by omega), if_neg (by omega), if_pos (by omega), Nat.add_sub_cancel_left]
    · show (if 200 + i = 1 then a1 else _) = _
      rw [if_neg (by omega), if_neg (by omega), if_neg (by omega), if_neg (by omega), if_neg (by omega), if_neg (by omega), if_neg (by omega), if_neg (by omega), Nat.add_sub_cancel_left]
  have hin : ∀ (i : Nat) (x : String × Nat × String × List Int32), gSO[i]? = some x → i < 26 := fun i x h => (List.getElem?_eq_some_iff.mp h).1
  refine ⟨(fun k => [c0, c1, c2, c3, c4, c5, c6, c7, c8, c9, c10, c11, c12].getD k 0, fun k => [i0, i1, i2, i3, i4, i5, i6, i7, i8, i9, i10, i11, i12].getD k (fun _ => 0)), cA, ⟨⟨fun k q hq => ?_, fun k q hq => ?_⟩, fun q hq => ?_, fun q hq => ?_, va_AO.of ao5, va_AO.of ao6, va_AO.of ao7, fun i x hx => ?_⟩, ⟨Nat.le_refl _, ?_⟩, fun i x hx => ?_, ?_, ?_⟩
  · match k, hq with
    | 0, hq => cases hq; exact h0
    | 1, hq => cases hq; exact h1
    | 2, hq => cases hq; exact h2
    | 3, hq => cases hq; exact h3
    | 4, hq => cases hq; exact h4
    | 5, hq => cases hq; exact h5
    | 6, hq => cases hq; exact h6
    | 7, hq => cases hq; exact h7
    | 8, hq => cases hq; exact h8
    | 9, hq => cases hq; exact h9
    | 10, hq => cases hq; exact h10
    | 11, hq => cases hq; exact h11
    | 12, hq => cases hq; exact h12
    | k + 13, hq => simp [vwCl] at hq
  · match k, hq with
    | 0, hq => cases hq; show ArrOfT s (cA 1) _ ∧ va_RA s (cA 1) _; rw [q1]; exact ⟨fun n z => ⟨fun _ h => (by cases h), k1, g1, m1, j1⟩, f1⟩
    | 1, hq => cases hq; show ArrOfT s (cA 2) _ ∧ va_RA s (cA 2) _; rw [q2]; exact ⟨fun n z => ⟨fun _ h => (by cases h), k2, g2, m2, j2⟩, f2⟩
    | 2, hq => cases hq; show ArrOfT s (cA 3) _ ∧ va_RA s (cA 3) _; rw [q3]; exact ⟨fun n z => ⟨fun _ h => (by cases h), k3, g3, m3, j3⟩, f3⟩
    | 3, hq => cases hq; show ArrOfT s (cA 4) _ ∧ va_RA s (cA 4) _; rw [q4]; exact ⟨fun n z => ⟨fun _ h => (by cases h), k4, g4, m4, j4⟩, f4⟩
    | 4, hq => cases hq; show ArrOfT s (cA 5) _ ∧ va_RA s (cA 5) _; rw [q5]; exact ⟨fun n z => ⟨fun _ h => (by cases h), k5, g5, m5, j5⟩, k5, m5, g5, j5, f5, n5⟩
    | 5, hq => cases hq; show ArrOfT s (cA 6) _ ∧ va_RA s (cA 6) _; rw [q6]; exact ⟨fun n z => ⟨fun _ h => (by cases h), k6, g6, m6, j6⟩, k6, m6, g6, j6, f6, n6⟩
    | 6, hq => cases hq; show ArrOfT s (cA 7) _ ∧ va_RA s (cA 7) _; rw [q7]; exact ⟨fun n z => ⟨fun _ h => (by cases h), k7, g7, m7, j7⟩, k7, m7, g7, j7, f7, n7⟩
    | k + 7, hq => simp [gtys] at hq
  · have hn : Cond.methodLinkNest q.1 q.2.1 q.2.2.1 q.2.2.2 ∈ lw_tbl := gNM_in q hq
    exact va_Nw.of rfl (hts _ hn)
  · have hn : Cond.fieldLinkNest q.1 q.2.1 q.2.2.1 q.2.2.2.1 q.2.2.2.2.1 q.2.2.2.2.2 ∈ lw_tbl := gNF_in q hq
    exact va_Nw.of rfl (hts _ hn)
  · rw [e1 i (hin i x hx)]; exact (had i x hx).1
  · obtain ⟨t1, ht1, hT1⟩ := va_Tof (args := #[Value.ref b]) (s := s) (tm := .static "ParishUnion" "KIND_ABOVE" "[I") (ty := .int) (N := 5) (f := fun j => .int (gKA j)) (A := fun a => s.heap.size ≤ a) (by decide) (hF _ (by decide +kernel)) (va_eqt (hF _ (by decide +kernel))) (fun j hj => by
      have hc : j = 0 ∨ j = 1 ∨ j = 2 ∨ j = 3 ∨ j = 4 := by omega
      rcases hc with rfl | rfl | rfl | rfl | rfl <;> exact va_eqt (hF _ (by decide +kernel))) hA
    obtain ⟨t2, ht2, hT2⟩ := va_Tof (args := #[Value.ref b]) (s := s) (tm := .static "ParishUnion" "WITHOUT_ACTS" "[I") (ty := .int) (N := 10) (f := fun j => .int (gWA j)) (A := fun a => s.heap.size ≤ a) (by decide) (hF _ (by decide +kernel)) (va_eqt (hF _ (by decide +kernel))) (fun j hj => by
      have hc : j = 0 ∨ j = 1 ∨ j = 2 ∨ j = 3 ∨ j = 4 ∨ j = 5 ∨ j = 6 ∨ j = 7 ∨ j = 8 ∨ j = 9 := by omega
      rcases hc with rfl | rfl | rfl | rfl | rfl | rfl | rfl | rfl | rfl | rfl <;> exact va_eqt (hF _ (by decide +kernel))) hA
    exact ⟨t1, t2, va_Zof (hts _ (tb_3 _ (List.mem_of_getElem? (i := 117) rfl))) (hg _ kw_1_1) ht1 hA, hT1, va_Zof (hts _ (tb_3 _ (List.mem_of_getElem? (i := 146) rfl))) (hg _ kw_1_1) ht2 hA, hT2⟩
  · rw [e1 i (hin i x hx), e2 i (hin i x hx)]; exact (had i x hx).2
  · exact va_Zof (hts _ (tb_4 _ (List.mem_of_getElem? (i := 4) rfl))) (hg _ kw_1_17) (va_eqi (hF _ (by decide +kernel))) hA
  · obtain ⟨v, hv, hv2⟩ := Cond.isRef_spec (t := .static "jdk/internal/util/Preconditions" "SIOOBE_FORMATTER" "Ljava/util/function/BiFunction;") (hF (.isRef (.static "jdk/internal/util/Preconditions" "SIOOBE_FORMATTER" "Ljava/util/function/BiFunction;")) (by decide +kernel))
    refine ⟨v, ?_, va_Zof (hts _ (tb_4 _ (List.mem_of_getElem? (i := 20) rfl))) (hg _ kw_1_19) hv hA⟩
    cases v <;> first | exact Or.inl rfl | exact Or.inr ⟨_, rfl⟩ | (exact absurd hv2 (by simp [Value.isRef]))
