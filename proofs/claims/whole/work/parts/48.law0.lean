/-! THE CLAIM OUT OF ONE WALK OF THE LAW'S BODY. Your part is whole_start (and what it stands on); all else here is the same for every law, but numbers. -/
def R_law : String := "SneezeLightsLaw"
def lw_P (b : Addr) (xs : List Int32) (args : Array Value) (s : State) : Prop := args = #[.ref b] ∧ s.IntsAt b xs ∧ xs.length ≤ 3072 ∧ (Jvm.Cond.and given_1 narrow_1).before args s = true
def lw_Q (_ : Array Value) (s : State) (o : Outcome) (t : State) : Prop := o = .returned (some (.int 1)) ∧ Framed s o t [] 51 1394
def lw_Z (below : List Frame) (a : Array Value) (s : State) : State → Prop := fun t => ∃ o, t.status = .running ∧ Ended t below o ∧ lw_Q a s o t
/-- the law's own end, with 1 on the stack, nothing written that was there before, its room as the claim has it -/
theorem lw_ret {p : Program} {l : Launch} {e : Env} {s : State} {m : MethodId} {below : List Frame} {meth : Method} {c : Code} {b : Nat} (hx : p.tables.exec = Jvm.exec) (hb : c.code = code) (hr : meth.sig.returnType = ret) (hlocks : meth.locks = false) {pc : Nat} {H : Heap} {ls : Array Slot} (hdg : decode code pc = .ok (.ireturn, 1)) : W p l e room_1 s m #[Value.ref b] below meth c H [] 51 1394 (lw_Z below #[Value.ref b] s) (F0 m pc ls [.int 1]) := by
  intro T hT X
  obtain ⟨fs, hret, hrun, hended, hW, hframe⟩ := X.leave (v := some (.int 1)) (hlocks := hlocks) (fun h => by rw [hr] at h; cases h)
  have hmeth' : T.vm.method? m = some meth := X.method'
  refine ⟨T.setFrames fs, ?_, .returned (some (.int 1)), hrun, hended, rfl, ⟨_, rfl⟩, hW, hframe⟩
  jvm_step X.here [X.here.top, hx, hb, hdg, hmeth', hr, ret, narrow_b1]
  (try refine ⟨rfl, ?_⟩); (try refine ⟨rfl, ?_⟩)
  first | (intro acts; rw [hret _ acts rfl rfl rfl]) | rw [hret _ _ rfl rfl rfl]
  exact Steps.refl _
/-- what holds at the law's entry: the machine, the code, the tables' words (any of lw_tbl by 'hts w (by decide +kernel)'), the script of L ints xs at the cell b, what the Statement gives of the start (any of its parts by flat_of_before) -/
def lw_At (p : Program) (s : State) (m : MethodId) (meth : Method) (c : Code) (b L : Nat) (xs : Nat → Int32) : Prop :=
  p.tables.exec = Jvm.exec ∧ c.code = code ∧ meth.sig.returnType = ret ∧ c.maxLocals = 4 ∧ s.vm.findClass R_law = some m.cls ∧ (∀ w ∈ lw_tbl, w.before #[Value.ref b] s = true) ∧ va_X b L xs s s.heap ∧ b < s.heap.size ∧ meth.locks = false ∧ (Jvm.Cond.and given_1 narrow_1).before #[Value.ref b] s = true
/-! ===== the start ===== -/
def tmS (i : Nat) : Term := .string "SneezeLights$Winter" (strT.getD i (0, "")).1
abbrev gvn : Cond := Jvm.Cond.and given_1 narrow_1
theorem gv_ex : ∀ i, i < 13 → Cond.exactly (tmS i) "java/lang/String" ∈ flatC gvn := by decide +kernel
theorem gv_co : ∀ i, i < 13 → Cond.eq (.field (tmS i) "java/lang/String" "coder" "B") (.int 0) ∈ flatC gvn := by decide +kernel
theorem gv_ar : ∀ i, i < 13 → Cond.arrayOf (.field (tmS i) "java/lang/String" "value" "[B") .byte ∈ flatC gvn := by decide +kernel
theorem gv_le : ∀ i, i < 13 → Cond.eq (.length (.field (tmS i) "java/lang/String" "value" "[B")) (.int (Int32.ofNat (lenS.getD i 0))) ∈ flatC gvn := by decide +kernel
theorem gv_el : ∀ i, i < 13 → ∀ j, j < lenS.getD i 0 → Cond.eq (.elem (.field (tmS i) "java/lang/String" "value" "[B") (.int (Int32.ofNat j))) (.int ((bytS.getD i []).getD j 0)) ∈ flatC gvn := by decide +kernel
theorem gn_0_1 : Cond.not (Cond.eq (tmS 0) (tmS 1)) ∈ flatC gvn := List.mem_of_getElem? (i := 27) (by decide +kernel)
theorem gn_0_2 : Cond.not (Cond.eq (tmS 0) (tmS 2)) ∈ flatC gvn := List.mem_of_getElem? (i := 38) (by decide +kernel)
theorem gn_0_3 : Cond.not (Cond.eq (tmS 0) (tmS 3)) ∈ flatC gvn := List.mem_of_getElem? (i := 50) (by decide +kernel)
theorem gn_0_4 : Cond.not (Cond.eq (tmS 0) (tmS 4)) ∈ flatC gvn := List.mem_of_getElem? (i := 61) (by decide +kernel)
theorem gn_0_5 : Cond.not (Cond.eq (tmS 0) (tmS 5)) ∈ flatC gvn := List.mem_of_getElem? (i := 76) (by decide +kernel)
theorem gn_0_6 : Cond.not (Cond.eq (tmS 0) (tmS 6)) ∈ flatC gvn := List.mem_of_getElem? (i := 90) (by decide +kernel)
theorem gn_0_7 : Cond.not (Cond.eq (tmS 0) (tmS 7)) ∈ flatC gvn := List.mem_of_getElem? (i := 104) (by decide +kernel)
theorem gn_0_8 : Cond.not (Cond.eq (tmS 0) (tmS 8)) ∈ flatC gvn := List.mem_of_getElem? (i := 121) (by decide +kernel)
theorem gn_0_9 : Cond.not (Cond.eq (tmS 0) (tmS 9)) ∈ flatC gvn := List.mem_of_getElem? (i := 137) (by decide +kernel)
theorem gn_0_10 : Cond.not (Cond.eq (tmS 0) (tmS 10)) ∈ flatC gvn := List.mem_of_getElem? (i := 154) (by decide +kernel)
theorem gn_0_11 : Cond.not (Cond.eq (tmS 0) (tmS 11)) ∈ flatC gvn := List.mem_of_getElem? (i := 171) (by decide +kernel)
theorem gn_0_12 : Cond.not (Cond.eq (tmS 0) (tmS 12)) ∈ flatC gvn := List.mem_of_getElem? (i := 190) (by decide +kernel)
theorem gn_1_2 : Cond.not (Cond.eq (tmS 1) (tmS 2)) ∈ flatC gvn := List.mem_of_getElem? (i := 39) (by decide +kernel)
theorem gn_1_3 : Cond.not (Cond.eq (tmS 1) (tmS 3)) ∈ flatC gvn := List.mem_of_getElem? (i := 51) (by decide +kernel)
theorem gn_1_4 : Cond.not (Cond.eq (tmS 1) (tmS 4)) ∈ flatC gvn := List.mem_of_getElem? (i := 62) (by decide +kernel)
theorem gn_1_5 : Cond.not (Cond.eq (tmS 1) (tmS 5)) ∈ flatC gvn := List.mem_of_getElem? (i := 77) (by decide +kernel)
theorem gn_1_6 : Cond.not (Cond.eq (tmS 1) (tmS 6)) ∈ flatC gvn := List.mem_of_getElem? (i := 91) (by decide +kernel)
theorem gn_1_7 : Cond.not (Cond.eq (tmS 1) (tmS 7)) ∈ flatC gvn := List.mem_of_getElem? (i := 105) (by decide +kernel)
theorem gn_1_8 : Cond.not (Cond.eq (tmS 1) (tmS 8)) ∈ flatC gvn := List.mem_of_getElem? (i := 122) (by decide +kernel)
theorem gn_1_9 : Cond.not (Cond.eq (tmS 1) (tmS 9)) ∈ flatC gvn := List.mem_of_getElem? (i := 138) (by decide +kernel)
theorem gn_1_10 : Cond.not (Cond.eq (tmS 1) (tmS 10)) ∈ flatC gvn := List.mem_of_getElem? (i := 155) (by decide +kernel)
theorem gn_1_11 : Cond.not (Cond.eq (tmS 1) (tmS 11)) ∈ flatC gvn := List.mem_of_getElem? (i := 172) (by decide +kernel)
theorem gn_1_12 : Cond.not (Cond.eq (tmS 1) (tmS 12)) ∈ flatC gvn := List.mem_of_getElem? (i := 191) (by decide +kernel)
theorem gn_2_3 : Cond.not (Cond.eq (tmS 2) (tmS 3)) ∈ flatC gvn := List.mem_of_getElem? (i := 52) (by decide +kernel)
theorem gn_2_4 : Cond.not (Cond.eq (tmS 2) (tmS 4)) ∈ flatC gvn := List.mem_of_getElem? (i := 63) (by decide +kernel)
theorem gn_2_5 : Cond.not (Cond.eq (tmS 2) (tmS 5)) ∈ flatC gvn := List.mem_of_getElem? (i := 78) (by decide +kernel)
theorem gn_2_6 : Cond.not (Cond.eq (tmS 2) (tmS 6)) ∈ flatC gvn := List.mem_of_getElem? (i := 92) (by decide +kernel)
theorem gn_2_7 : Cond.not (Cond.eq (tmS 2) (tmS 7)) ∈ flatC gvn := List.mem_of_getElem? (i := 106) (by decide +kernel)
theorem gn_2_8 : Cond.not (Cond.eq (tmS 2) (tmS 8)) ∈ flatC gvn := List.mem_of_getElem? (i := 123) (by decide +kernel)
theorem gn_2_9 : Cond.not (Cond.eq (tmS 2) (tmS 9)) ∈ flatC gvn := List.mem_of_getElem? (i := 139) (by decide +kernel)
theorem gn_2_10 : Cond.not (Cond.eq (tmS 2) (tmS 10)) ∈ flatC gvn := List.mem_of_getElem? (i := 156) (by decide +kernel)
theorem gn_2_11 : Cond.not (Cond.eq (tmS 2) (tmS 11)) ∈ flatC gvn := List.mem_of_getElem? (i := 173) (by decide +kernel)
theorem gn_2_12 : Cond.not (Cond.eq (tmS 2) (tmS 12)) ∈ flatC gvn := List.mem_of_getElem? (i := 192) (by decide +kernel)
theorem gn_3_4 : Cond.not (Cond.eq (tmS 3) (tmS 4)) ∈ flatC gvn := List.mem_of_getElem? (i := 64) (by decide +kernel)
theorem gn_3_5 : Cond.not (Cond.eq (tmS 3) (tmS 5)) ∈ flatC gvn := List.mem_of_getElem? (i := 79) (by decide +kernel)
theorem gn_3_6 : Cond.not (Cond.eq (tmS 3) (tmS 6)) ∈ flatC gvn := List.mem_of_getElem? (i := 93) (by decide +kernel)
theorem gn_3_7 : Cond.not (Cond.eq (tmS 3) (tmS 7)) ∈ flatC gvn := List.mem_of_getElem? (i := 107) (by decide +kernel)
theorem gn_3_8 : Cond.not (Cond.eq (tmS 3) (tmS 8)) ∈ flatC gvn := List.mem_of_getElem? (i := 124) (by decide +kernel)
theorem gn_3_9 : Cond.not (Cond.eq (tmS 3) (tmS 9)) ∈ flatC gvn := List.mem_of_getElem? (i := 140) (by decide +kernel)
theorem gn_3_10 : Cond.not (Cond.eq (tmS 3) (tmS 10)) ∈ flatC gvn := List.mem_of_getElem? (i := 157) (by decide +kernel)
theorem gn_3_11 : Cond.not (Cond.eq (tmS 3) (tmS 11)) ∈ flatC gvn := List.mem_of_getElem? (i := 174) (by decide +kernel)
theorem gn_3_12 : Cond.not (Cond.eq (tmS 3) (tmS 12)) ∈ flatC gvn := List.mem_of_getElem? (i := 193) (by decide +kernel)
theorem gn_4_5 : Cond.not (Cond.eq (tmS 4) (tmS 5)) ∈ flatC gvn := List.mem_of_getElem? (i := 80) (by decide +kernel)
theorem gn_4_6 : Cond.not (Cond.eq (tmS 4) (tmS 6)) ∈ flatC gvn := List.mem_of_getElem? (i := 94) (by decide +kernel)
theorem gn_4_7 : Cond.not (Cond.eq (tmS 4) (tmS 7)) ∈ flatC gvn := List.mem_of_getElem? (i := 108) (by decide +kernel)
theorem gn_4_8 : Cond.not (Cond.eq (tmS 4) (tmS 8)) ∈ flatC gvn := List.mem_of_getElem? (i := 125) (by decide +kernel)
theorem gn_4_9 : Cond.not (Cond.eq (tmS 4) (tmS 9)) ∈ flatC gvn := List.mem_of_getElem? (i := 141) (by decide +kernel)
theorem gn_4_10 : Cond.not (Cond.eq (tmS 4) (tmS 10)) ∈ flatC gvn := List.mem_of_getElem? (i := 158) (by decide +kernel)
theorem gn_4_11 : Cond.not (Cond.eq (tmS 4) (tmS 11)) ∈ flatC gvn := List.mem_of_getElem? (i := 175) (by decide +kernel)
theorem gn_4_12 : Cond.not (Cond.eq (tmS 4) (tmS 12)) ∈ flatC gvn := List.mem_of_getElem? (i := 194) (by decide +kernel)
theorem gn_5_6 : Cond.not (Cond.eq (tmS 5) (tmS 6)) ∈ flatC gvn := List.mem_of_getElem? (i := 95) (by decide +kernel)
theorem gn_5_7 : Cond.not (Cond.eq (tmS 5) (tmS 7)) ∈ flatC gvn := List.mem_of_getElem? (i := 109) (by decide +kernel)
theorem gn_5_8 : Cond.not (Cond.eq (tmS 5) (tmS 8)) ∈ flatC gvn := List.mem_of_getElem? (i := 126) (by decide +kernel)
theorem gn_5_9 : Cond.not (Cond.eq (tmS 5) (tmS 9)) ∈ flatC gvn := List.mem_of_getElem? (i := 142) (by decide +kernel)
theorem gn_5_10 : Cond.not (Cond.eq (tmS 5) (tmS 10)) ∈ flatC gvn := List.mem_of_getElem? (i := 159) (by decide +kernel)
theorem gn_5_11 : Cond.not (Cond.eq (tmS 5) (tmS 11)) ∈ flatC gvn := List.mem_of_getElem? (i := 176) (by decide +kernel)
theorem gn_5_12 : Cond.not (Cond.eq (tmS 5) (tmS 12)) ∈ flatC gvn := List.mem_of_getElem? (i := 195) (by decide +kernel)
theorem gn_6_7 : Cond.not (Cond.eq (tmS 6) (tmS 7)) ∈ flatC gvn := List.mem_of_getElem? (i := 110) (by decide +kernel)
theorem gn_6_8 : Cond.not (Cond.eq (tmS 6) (tmS 8)) ∈ flatC gvn := List.mem_of_getElem? (i := 127) (by decide +kernel)
theorem gn_6_9 : Cond.not (Cond.eq (tmS 6) (tmS 9)) ∈ flatC gvn := List.mem_of_getElem? (i := 143) (by decide +kernel)
theorem gn_6_10 : Cond.not (Cond.eq (tmS 6) (tmS 10)) ∈ flatC gvn := List.mem_of_getElem? (i := 160) (by decide +kernel)
theorem gn_6_11 : Cond.not (Cond.eq (tmS 6) (tmS 11)) ∈ flatC gvn := List.mem_of_getElem? (i := 177) (by decide +kernel)
theorem gn_6_12 : Cond.not (Cond.eq (tmS 6) (tmS 12)) ∈ flatC gvn := List.mem_of_getElem? (i := 196) (by decide +kernel)
theorem gn_7_8 : Cond.not (Cond.eq (tmS 7) (tmS 8)) ∈ flatC gvn := List.mem_of_getElem? (i := 128) (by decide +kernel)
theorem gn_7_9 : Cond.not (Cond.eq (tmS 7) (tmS 9)) ∈ flatC gvn := List.mem_of_getElem? (i := 144) (by decide +kernel)
theorem gn_7_10 : Cond.not (Cond.eq (tmS 7) (tmS 10)) ∈ flatC gvn := List.mem_of_getElem? (i := 161) (by decide +kernel)
theorem gn_7_11 : Cond.not (Cond.eq (tmS 7) (tmS 11)) ∈ flatC gvn := List.mem_of_getElem? (i := 178) (by decide +kernel)
theorem gn_7_12 : Cond.not (Cond.eq (tmS 7) (tmS 12)) ∈ flatC gvn := List.mem_of_getElem? (i := 197) (by decide +kernel)
theorem gn_8_9 : Cond.not (Cond.eq (tmS 8) (tmS 9)) ∈ flatC gvn := List.mem_of_getElem? (i := 145) (by decide +kernel)
theorem gn_8_10 : Cond.not (Cond.eq (tmS 8) (tmS 10)) ∈ flatC gvn := List.mem_of_getElem? (i := 162) (by decide +kernel)
theorem gn_8_11 : Cond.not (Cond.eq (tmS 8) (tmS 11)) ∈ flatC gvn := List.mem_of_getElem? (i := 179) (by decide +kernel)
theorem gn_8_12 : Cond.not (Cond.eq (tmS 8) (tmS 12)) ∈ flatC gvn := List.mem_of_getElem? (i := 198) (by decide +kernel)
theorem gn_9_10 : Cond.not (Cond.eq (tmS 9) (tmS 10)) ∈ flatC gvn := List.mem_of_getElem? (i := 163) (by decide +kernel)
theorem gn_9_11 : Cond.not (Cond.eq (tmS 9) (tmS 11)) ∈ flatC gvn := List.mem_of_getElem? (i := 180) (by decide +kernel)
theorem gn_9_12 : Cond.not (Cond.eq (tmS 9) (tmS 12)) ∈ flatC gvn := List.mem_of_getElem? (i := 199) (by decide +kernel)
theorem gn_10_11 : Cond.not (Cond.eq (tmS 10) (tmS 11)) ∈ flatC gvn := List.mem_of_getElem? (i := 181) (by decide +kernel)
theorem gn_10_12 : Cond.not (Cond.eq (tmS 10) (tmS 12)) ∈ flatC gvn := List.mem_of_getElem? (i := 200) (by decide +kernel)
theorem gn_11_12 : Cond.not (Cond.eq (tmS 11) (tmS 12)) ∈ flatC gvn := List.mem_of_getElem? (i := 201) (by decide +kernel)
theorem gn_0 : ∀ j, j < 13 → 0 ≠ j → Cond.not (Cond.eq (tmS 0) (tmS j)) ∈ flatC gvn ∨ Cond.not (Cond.eq (tmS j) (tmS 0)) ∈ flatC gvn := by
  intro j hj hij
  match j, hj with
  | 0, _ => exact absurd rfl hij
  | 1, _ => exact Or.inl gn_0_1
  | 2, _ => exact Or.inl gn_0_2
  | 3, _ => exact Or.inl gn_0_3
  | 4, _ => exact Or.inl gn_0_4
  | 5, _ => exact Or.inl gn_0_5
  | 6, _ => exact Or.inl gn_0_6
  | 7, _ => exact Or.inl gn_0_7
  | 8, _ => exact Or.inl gn_0_8
  | 9, _ => exact Or.inl gn_0_9
  | 10, _ => exact Or.inl gn_0_10
  | 11, _ => exact Or.inl gn_0_11
  | 12, _ => exact Or.inl gn_0_12
  | j + 13, hj => exact absurd hj (by omega)
theorem gn_1 : ∀ j, j < 13 → 1 ≠ j → Cond.not (Cond.eq (tmS 1) (tmS j)) ∈ flatC gvn ∨ Cond.not (Cond.eq (tmS j) (tmS 1)) ∈ flatC gvn := by
  intro j hj hij
  match j, hj with
  | 0, _ => exact Or.inr gn_0_1
  | 1, _ => exact absurd rfl hij
  | 2, _ => exact Or.inl gn_1_2
  | 3, _ => exact Or.inl gn_1_3
  | 4, _ => exact Or.inl gn_1_4
  | 5, _ => exact Or.inl gn_1_5
  | 6, _ => exact Or.inl gn_1_6
  | 7, _ => exact Or.inl gn_1_7
  | 8, _ => exact Or.inl gn_1_8
  | 9, _ => exact Or.inl gn_1_9
  | 10, _ => exact Or.inl gn_1_10
  | 11, _ => exact Or.inl gn_1_11
  | 12, _ => exact Or.inl gn_1_12
  | j + 13, hj => exact absurd hj (by omega)
theorem gn_2 : ∀ j, j < 13 → 2 ≠ j → Cond.not (Cond.eq (tmS 2) (tmS j)) ∈ flatC gvn ∨ Cond.not (Cond.eq (tmS j) (tmS 2)) ∈ flatC gvn := by
  intro j hj hij
  match j, hj with
  | 0, _ => exact Or.inr gn_0_2
  | 1, _ => exact Or.inr gn_1_2
  | 2, _ => exact absurd rfl hij
  | 3, _ => exact Or.inl gn_2_3
  | 4, _ => exact Or.inl gn_2_4
  | 5, _ => exact Or.inl gn_2_5
  | 6, _ => exact Or.inl gn_2_6
  | 7, _ => exact Or.inl gn_2_7
  | 8, _ => exact Or.inl gn_2_8
  | 9, _ => exact Or.inl gn_2_9
  | 10, _ => exact Or.inl gn_2_10
  | 11, _ => exact Or.inl gn_2_11
  | 12, _ => exact Or.inl gn_2_12
  | j + 13, hj => exact absurd hj (by omega)
theorem gn_3 : ∀ j, j < 13 → 3 ≠ j → Cond.not (Cond.eq (tmS 3) (tmS j)) ∈ flatC gvn ∨ Cond.not (Cond.eq (tmS j) (tmS 3)) ∈ flatC gvn := by
  intro j hj hij
  match j, hj with
  | 0, _ => exact Or.inr gn_0_3
  | 1, _ => exact Or.inr gn_1_3
  | 2, _ => exact Or.inr gn_2_3
  | 3, _ => exact absurd rfl hij
  | 4, _ => exact Or.inl gn_3_4
  | 5, _ => exact Or.inl gn_3_5
  | 6, _ => exact Or.inl gn_3_6
  | 7, _ => exact Or.inl gn_3_7
  | 8, _ => exact Or.inl gn_3_8
  | 9, _ => exact Or.inl gn_3_9
  | 10, _ => exact Or.inl gn_3_10
  | 11, _ => exact Or.inl gn_3_11
  | 12, _ => exact Or.inl gn_3_12
  | j + 13, hj => exact absurd hj (by omega)
theorem gn_4 : ∀ j, j < 13 → 4 ≠ j → Cond.not (Cond.eq (tmS 4) (tmS j)) ∈ flatC gvn ∨ Cond.not (Cond.eq (tmS j) (tmS 4)) ∈ flatC gvn := by
  intro j hj hij
  match j, hj with
  | 0, _ => exact Or.inr gn_0_4
  | 1, _ => exact Or.inr gn_1_4
  | 2, _ => exact Or.inr gn_2_4
  | 3, _ => exact Or.inr gn_3_4
  | 4, _ => exact absurd rfl hij
  | 5, _ => exact Or.inl gn_4_5
  | 6, _ => exact Or.inl gn_4_6
  | 7, _ => exact Or.inl gn_4_7
  | 8, _ => exact Or.inl gn_4_8
  | 9, _ => exact Or.inl gn_4_9
  | 10, _ => exact Or.inl gn_4_10
  | 11, _ => exact Or.inl gn_4_11
  | 12, _ => exact Or.inl gn_4_12
  | j + 13, hj => exact absurd hj (by omega)
theorem gn_5 : ∀ j, j < 13 → 5 ≠ j → Cond.not (Cond.eq (tmS 5) (tmS j)) ∈ flatC gvn ∨ Cond.not (Cond.eq (tmS j) (tmS 5)) ∈ flatC gvn := by
  intro j hj hij
  match j, hj with
  | 0, _ => exact Or.inr gn_0_5
  | 1, _ => exact Or.inr gn_1_5
  | 2, _ => exact Or.inr gn_2_5
  | 3, _ => exact Or.inr gn_3_5
  | 4, _ => exact Or.inr gn_4_5
  | 5, _ => exact absurd rfl hij
  | 6, _ => exact Or.inl gn_5_6
  | 7, _ => exact Or.inl gn_5_7
  | 8, _ => exact Or.inl gn_5_8
  | 9, _ => exact Or.inl gn_5_9
  | 10, _ => exact Or.inl gn_5_10
  | 11, _ => exact Or.inl gn_5_11
  | 12, _ => exact Or.inl gn_5_12
  | j + 13, hj => exact absurd hj (by omega)
theorem gn_6 : ∀ j, j < 13 → 6 ≠ j → Cond.not (Cond.eq (tmS 6) (tmS j)) ∈ flatC gvn ∨ Cond.not (Cond.eq (tmS j) (tmS 6)) ∈ flatC gvn := by
  intro j hj hij
  match j, hj with
  | 0, _ => exact Or.inr gn_0_6
  | 1, _ => exact Or.inr gn_1_6
  | 2, _ => exact Or.inr gn_2_6
  | 3, _ => exact Or.inr gn_3_6
  | 4, _ => exact Or.inr gn_4_6
  | 5, _ => exact Or.inr gn_5_6
  | 6, _ => exact absurd rfl hij
  | 7, _ => exact Or.inl gn_6_7
  | 8, _ => exact Or.inl gn_6_8
  | 9, _ => exact Or.inl gn_6_9
  | 10, _ => exact Or.inl gn_6_10
  | 11, _ => exact Or.inl gn_6_11
  | 12, _ => exact Or.inl gn_6_12
  | j + 13, hj => exact absurd hj (by omega)
theorem gn_7 : ∀ j, j < 13 → 7 ≠ j → Cond.not (Cond.eq (tmS 7) (tmS j)) ∈ flatC gvn ∨ Cond.not (Cond.eq (tmS j) (tmS 7)) ∈ flatC gvn := by
  intro j hj hij
  match j, hj with
  | 0, _ => exact Or.inr gn_0_7
  | 1, _ => exact Or.inr gn_1_7
  | 2, _ => exact Or.inr gn_2_7
  | 3, _ => exact Or.inr gn_3_7
  | 4, _ => exact Or.inr gn_4_7
  | 5, _ => exact Or.inr gn_5_7
  | 6, _ => exact Or.inr gn_6_7
  | 7, _ => exact absurd rfl hij
  | 8, _ => exact Or.inl gn_7_8
  | 9, _ => exact Or.inl gn_7_9
  | 10, _ => exact Or.inl gn_7_10
  | 11, _ => exact Or.inl gn_7_11
  | 12, _ => exact Or.inl gn_7_12
  | j + 13, hj => exact absurd hj (by omega)
theorem gn_8 : ∀ j, j < 13 → 8 ≠ j → Cond.not (Cond.eq (tmS 8) (tmS j)) ∈ flatC gvn ∨ Cond.not (Cond.eq (tmS j) (tmS 8)) ∈ flatC gvn := by
  intro j hj hij
  match j, hj with
  | 0, _ => exact Or.inr gn_0_8
  | 1, _ => exact Or.inr gn_1_8
  | 2, _ => exact Or.inr gn_2_8
  | 3, _ => exact Or.inr gn_3_8
  | 4, _ => exact Or.inr gn_4_8
  | 5, _ => exact Or.inr gn_5_8
  | 6, _ => exact Or.inr gn_6_8
  | 7, _ => exact Or.inr gn_7_8
  | 8, _ => exact absurd rfl hij
  | 9, _ => exact Or.inl gn_8_9
  | 10, _ => exact Or.inl gn_8_10
  | 11, _ => exact Or.inl gn_8_11
  | 12, _ => exact Or.inl gn_8_12
  | j + 13, hj => exact absurd hj (by omega)
theorem gn_9 : ∀ j, j < 13 → 9 ≠ j → Cond.not (Cond.eq (tmS 9) (tmS j)) ∈ flatC gvn ∨ Cond.not (Cond.eq (tmS j) (tmS 9)) ∈ flatC gvn := by
  intro j hj hij
  match j, hj with
  | 0, _ => exact Or.inr gn_0_9
  | 1, _ => exact Or.inr gn_1_9
  | 2, _ => exact Or.inr gn_2_9
  | 3, _ => exact Or.inr gn_3_9
  | 4, _ => exact Or.inr gn_4_9
  | 5, _ => exact Or.inr gn_5_9
  | 6, _ => exact Or.inr gn_6_9
  | 7, _ => exact Or.inr gn_7_9
  | 8, _ => exact Or.inr gn_8_9
  | 9, _ => exact absurd rfl hij
  | 10, _ => exact Or.inl gn_9_10
  | 11, _ => exact Or.inl gn_9_11
  | 12, _ => exact Or.inl gn_9_12
  | j + 13, hj => exact absurd hj (by omega)
theorem gn_10 : ∀ j, j < 13 → 10 ≠ j → Cond.not (Cond.eq (tmS 10) (tmS j)) ∈ flatC gvn ∨ Cond.not (Cond.eq (tmS j) (tmS 10)) ∈ flatC gvn := by
  intro j hj hij
  match j, hj with
  | 0, _ => exact Or.inr gn_0_10
  | 1, _ => exact Or.inr gn_1_10
  | 2, _ => exact Or.inr gn_2_10
  | 3, _ => exact Or.inr gn_3_10
  | 4, _ => exact Or.inr gn_4_10
  | 5, _ => exact Or.inr gn_5_10
  | 6, _ => exact Or.inr gn_6_10
  | 7, _ => exact Or.inr gn_7_10
  | 8, _ => exact Or.inr gn_8_10
  | 9, _ => exact Or.inr gn_9_10
  | 10, _ => exact absurd rfl hij
  | 11, _ => exact Or.inl gn_10_11
  | 12, _ => exact Or.inl gn_10_12
  | j + 13, hj => exact absurd hj (by omega)
theorem gn_11 : ∀ j, j < 13 → 11 ≠ j → Cond.not (Cond.eq (tmS 11) (tmS j)) ∈ flatC gvn ∨ Cond.not (Cond.eq (tmS j) (tmS 11)) ∈ flatC gvn := by
  intro j hj hij
  match j, hj with
  | 0, _ => exact Or.inr gn_0_11
  | 1, _ => exact Or.inr gn_1_11
  | 2, _ => exact Or.inr gn_2_11
  | 3, _ => exact Or.inr gn_3_11
  | 4, _ => exact Or.inr gn_4_11
  | 5, _ => exact Or.inr gn_5_11
  | 6, _ => exact Or.inr gn_6_11
  | 7, _ => exact Or.inr gn_7_11
  | 8, _ => exact Or.inr gn_8_11
  | 9, _ => exact Or.inr gn_9_11
  | 10, _ => exact Or.inr gn_10_11
  | 11, _ => exact absurd rfl hij
  | 12, _ => exact Or.inl gn_11_12
  | j + 13, hj => exact absurd hj (by omega)
theorem gn_12 : ∀ j, j < 13 → 12 ≠ j → Cond.not (Cond.eq (tmS 12) (tmS j)) ∈ flatC gvn ∨ Cond.not (Cond.eq (tmS j) (tmS 12)) ∈ flatC gvn := by
  intro j hj hij
  match j, hj with
  | 0, _ => exact Or.inr gn_0_12
  | 1, _ => exact Or.inr gn_1_12
  | 2, _ => exact Or.inr gn_2_12
  | 3, _ => exact Or.inr gn_3_12
  | 4, _ => exact Or.inr gn_4_12
  | 5, _ => exact Or.inr gn_5_12
  | 6, _ => exact Or.inr gn_6_12
  | 7, _ => exact Or.inr gn_7_12
  | 8, _ => exact Or.inr gn_8_12
  | 9, _ => exact Or.inr gn_9_12
  | 10, _ => exact Or.inr gn_10_12
  | 11, _ => exact Or.inr gn_11_12
  | 12, _ => exact absurd rfl hij
  | j + 13, hj => exact absurd hj (by omega)
theorem gv_ne : ∀ i, i < 13 → ∀ j, j < 13 → i ≠ j → Cond.not (Cond.eq (tmS i) (tmS j)) ∈ flatC gvn ∨ Cond.not (Cond.eq (tmS j) (tmS i)) ∈ flatC gvn := by
  intro i hi
  match i, hi with
  | 0, _ => exact gn_0
  | 1, _ => exact gn_1
  | 2, _ => exact gn_2
  | 3, _ => exact gn_3
  | 4, _ => exact gn_4
  | 5, _ => exact gn_5
  | 6, _ => exact gn_6
  | 7, _ => exact gn_7
  | 8, _ => exact gn_8
  | 9, _ => exact gn_9
  | 10, _ => exact gn_10
  | 11, _ => exact gn_11
  | 12, _ => exact gn_12
  | i + 13, hi => exact absurd hi (by omega)
theorem gv_cs : Cond.eq (.static "java/lang/String" "COMPACT_STRINGS" "Z") (.int 1) ∈ flatC gvn := by decide +kernel
theorem gv_sf : Cond.isRef (.static "jdk/internal/util/Preconditions" "SIOOBE_FORMATTER" "Ljava/util/function/BiFunction;") ∈ flatC gvn := by decide +kernel
theorem lw_nest : ∀ q ∈ nestT, Cond.methodLinkNest q.1 q.2.1 q.2.2.1 q.2.2.2 ∈ lw_tbl := by
  intro q hq
  simp only [nestT, List.mem_cons, List.not_mem_nil, or_false] at hq
  rcases hq with rfl | rfl | rfl | rfl | rfl | rfl
  · exact List.mem_of_getElem? (i := 153) (by decide +kernel)
  · exact List.mem_of_getElem? (i := 168) (by decide +kernel)
  · exact List.mem_of_getElem? (i := 192) (by decide +kernel)
  · exact List.mem_of_getElem? (i := 390) (by decide +kernel)
  · exact List.mem_of_getElem? (i := 402) (by decide +kernel)
  · exact List.mem_of_getElem? (i := 595) (by decide +kernel)
theorem lw_str : ∀ (i : Nat) (q : Nat × String), strT[i]? = some q → Cond.stringRef RX3 q.1 q.2 ∈ lw_tbl ∧ tmS i = .string RX3 q.1 ∧ i < 13 := by
  intro i q hq
  have hi : i < 13 := (List.getElem?_eq_some_iff.mp hq).1
  match i, hi with
  | 0, _ => cases hq; exact ⟨List.mem_of_getElem? (i := 529) (by decide +kernel), rfl, by decide⟩
  | 1, _ => cases hq; exact ⟨List.mem_of_getElem? (i := 530) (by decide +kernel), rfl, by decide⟩
  | 2, _ => cases hq; exact ⟨List.mem_of_getElem? (i := 531) (by decide +kernel), rfl, by decide⟩
  | 3, _ => cases hq; exact ⟨List.mem_of_getElem? (i := 532) (by decide +kernel), rfl, by decide⟩
  | 4, _ => cases hq; exact ⟨List.mem_of_getElem? (i := 533) (by decide +kernel), rfl, by decide⟩
  | 5, _ => cases hq; exact ⟨List.mem_of_getElem? (i := 534) (by decide +kernel), rfl, by decide⟩
  | 6, _ => cases hq; exact ⟨List.mem_of_getElem? (i := 597) (by decide +kernel), rfl, by decide⟩
  | 7, _ => cases hq; exact ⟨List.mem_of_getElem? (i := 598) (by decide +kernel), rfl, by decide⟩
  | 8, _ => cases hq; exact ⟨List.mem_of_getElem? (i := 603) (by decide +kernel), rfl, by decide⟩
  | 9, _ => cases hq; exact ⟨List.mem_of_getElem? (i := 604) (by decide +kernel), rfl, by decide⟩
  | 10, _ => cases hq; exact ⟨List.mem_of_getElem? (i := 609) (by decide +kernel), rfl, by decide⟩
  | 11, _ => cases hq; exact ⟨List.mem_of_getElem? (i := 610) (by decide +kernel), rfl, by decide⟩
  | 12, _ => cases hq; exact ⟨List.mem_of_getElem? (i := 615) (by decide +kernel), rfl, by decide⟩
  | i + 13, hi => exact absurd hi (by omega)
theorem kx_start {s : State} {b : Nat} (hts : ∀ w ∈ lw_tbl, w.before #[Value.ref b] s = true) (hgv : gvn.before #[Value.ref b] s = true) : ∃ (D : va_G) (cI cJ : ClassId) (ad : Nat → Nat), KX D cI cJ ad (pA ad 0) s s.heap ∧ ad 3000 = b := by
  have hs := flat_of_before _ hgv
  have htG : ∀ w ∈ tbG, w.before #[Value.ref b] s = true := fun w hw => hts w (List.mem_filter.mp hw).1
  obtain ⟨c0, i0, hn0⟩ := u_known (C := RX0) (T := TX0) (N := 3) (n := 3) htG cl_X0.2.1 (htG _ (tbG_in (List.mem_of_getElem? (i := 191) (by decide +kernel)) (by decide +kernel)))
  obtain ⟨c1, i1, hn1⟩ := u_known (C := RX1) (T := TX1) (N := 13) (n := 13) htG cl_X1.2.1 (htG _ (tbG_in (List.mem_of_getElem? (i := 85) (by decide +kernel)) (by decide +kernel)))
  obtain ⟨c2, i2, hn2⟩ := u_known (C := RX2) (T := TX2) (N := 2) (n := 2) htG cl_X2.2.1 (htG _ (tbG_in (List.mem_of_getElem? (i := 152) (by decide +kernel)) (by decide +kernel)))
  obtain ⟨c3, i3, hn3⟩ := u_known (C := RX3) (T := TX3) (N := 5) (n := 5) htG cl_X3.2.1 (htG _ (tbG_in (List.mem_of_getElem? (i := 167) (by decide +kernel)) (by decide +kernel)))
  obtain ⟨c4, i4, hn4⟩ := u_known (C := RX4) (T := TX4) (N := 8) (n := 8) htG cl_X4.2.1 (htG _ (tbG_in (List.mem_of_getElem? (i := 77) (by decide +kernel)) (by decide +kernel)))
  obtain ⟨c5, i5, hn5⟩ := u_known (C := RX5) (T := TX5) (N := 20) (n := 20) htG cl_X5.2.1 (htG _ (tbG_in (List.mem_of_getElem? (i := 713) (by decide +kernel)) (by decide +kernel)))
  obtain ⟨cI, kI, compI, fI, gI, hI⟩ := Cond.arrayClass_spec (htG _ wA_I)
  obtain ⟨cJ, kJ, compJ, fJ, gJ, hJ⟩ := Cond.arrayClass_spec (htG _ wA_J)
  have hA0 : ∀ a : Nat, a < s.heap.size → ¬ (fun _ : Nat => False) a := fun _ _ h => h
  obtain ⟨adK, adV, hS, hev⟩ := vk_Sof (N := 13) (tm := tmS) (len := lenS) (byt := bytS) (A := fun _ => False) (by decide) (fun i hi => hs _ (gv_ex i hi)) (fun i hi => hs _ (gv_co i hi)) (fun i hi => hs _ (gv_ar i hi)) (fun i hi => hs _ (gv_le i hi)) (fun i hi j hj => hs _ (gv_el i hi j hj)) (fun i j hi hj hij => (gv_ne i hi j hj hij).imp (hs _) (hs _)) hA0
  have hZ1 : va_Z "java/lang/String" "COMPACT_STRINGS" "Z" (.int 1) (fun _ => False) s s.heap := va_Zof (hts _ (List.mem_of_getElem? (i := 548) (by decide +kernel))) (hts _ (List.mem_of_getElem? (i := 72) (by decide +kernel))) (va_eqi (hs _ gv_cs)) hA0
  have hZ2 := va_Zqof (hts _ (List.mem_of_getElem? (i := 564) (by decide +kernel))) (hts _ (List.mem_of_getElem? (i := 74) (by decide +kernel))) (hs _ gv_sf) hA0
  obtain ⟨t0, hZ3⟩ : ∃ t0 : Nat, va_Z "jdk/internal/util/Preconditions" "SIOOBE_FORMATTER" "Ljava/util/function/BiFunction;" .null (fun _ => False) s s.heap ∨ va_Z "jdk/internal/util/Preconditions" "SIOOBE_FORMATTER" "Ljava/util/function/BiFunction;" (.ref t0) (fun _ => False) s s.heap := by
    rcases hZ2 with h | ⟨t, h⟩
    · exact ⟨0, Or.inl h⟩
    · exact ⟨t, Or.inr h⟩
  have hpz : ∀ (ad : Nat → Nat) (q : Nat), pA ad 0 q → False := fun ad q h => by obtain ⟨k, hk, -⟩ := h; exact absurd hk (by omega)
  obtain ⟨ad, hadK, hadV, had0, had1⟩ : ∃ ad : Nat → Nat, (∀ i, i < 13 → ad (1000 + i) = adK i) ∧ (∀ i, i < 13 → ad (2000 + i) = adV i) ∧ ad 3000 = b ∧ ad 3001 = t0 := by
    refine ⟨fun i => if i < 2000 then adK (i - 1000) else if i < 3000 then adV (i - 2000) else if i = 3000 then b else t0, fun i hi => ?_, fun i hi => ?_, ?_, ?_⟩
    · show (if 1000 + i < 2000 then _ else _) = _
      rw [if_pos (by omega), show 1000 + i - 1000 = i by omega]
    · show (if 2000 + i < 2000 then _ else if 2000 + i < 3000 then _ else _) = _
      rw [if_neg (by omega), if_pos (by omega), show 2000 + i - 2000 = i by omega]
    · rfl
    · rfl
  refine ⟨(fun k => if k = 0 then c0 else if k = 1 then c1 else if k = 2 then c2 else if k = 3 then c3 else if k = 4 then c4 else c5, fun k => if k = 0 then i0 else if k = 1 then i1 else if k = 2 then i2 else if k = 3 then i3 else if k = 4 then i4 else i5), cI, cJ, ad, ⟨⟨?_, ?_⟩, ?_, ?_, ?_, ?_, ?_⟩, had0⟩
  · intro k q hq
    match k, hq with
    | 0, hq => cases hq; exact hn0
    | 1, hq => cases hq; exact hn1
    | 2, hq => cases hq; exact hn2
    | 3, hq => cases hq; exact hn3
    | 4, hq => cases hq; exact hn4
    | 5, hq => cases hq; exact hn5
    | k + 6, hq => simp [vwCl] at hq
  · intro k q hq
    match k, hq with
    | 0, hq => cases hq; exact ⟨fun n z => ⟨fun k h => (by cases h), kI, gI, compI, hI⟩, fI⟩
    | 1, hq => cases hq; exact ⟨fun n z => ⟨fun k h => (by cases h), kJ, gJ, compJ, hJ⟩, fJ⟩
    | k + 2, hq => simp at hq
  · intro q hq
    exact va_Nw.of rfl (hts _ (lw_nest q hq))
  · refine ⟨fun i hi => ?_, fun i j hi hj he => ?_⟩
    · have h := hS.1 i hi
      show va_O _ (ad (1000 + i)) _ _ _ ∧ va_OF _ _ _ _ (ad (1000 + i)) _ _ _ ∧ va_OF _ _ _ (.ref (ad (2000 + i))) (ad (1000 + i)) _ _ _ ∧ va_T _ (ad (2000 + i)) _ _ _ _ _
      rw [hadK i hi, hadV i hi]
      exact ⟨h.1.narrow (hpz ad), h.2.1.narrow (hpz ad), h.2.2.1.narrow (hpz ad), h.2.2.2.narrow (hpz ad)⟩
    · have he : ad (1000 + i) = ad (1000 + j) := he
      rw [hadK i hi, hadK j hj] at he
      exact hS.2 i j hi hj he
  · intro i q hq
    obtain ⟨h1, h2, h3⟩ := lw_str i q hq
    refine vk_R.of (hts _ h1) (A := #[Value.ref b]) ?_
    rw [hadK i h3, ← hev i h3, h2]
  · exact hZ1.narrow (hpz ad)
  · rw [had1]
    exact hZ3.imp (fun z => z.narrow (hpz ad)) (fun z => z.narrow (hpz ad))
/-! ===== the law's own rows ===== -/
def LawP (L : Nat) (xs : Nat → Int32) (X : VX) : Prop := match X with
  | (p, l, e, R, s, m, args, below, meth, c, D, cI, cJ, ad, N, Z, nL, kc, ks) => R = room_1 ∧ nL = 4 ∧ meth.sig.returnType = ret ∧ meth.locks = false ∧ (∃ b : Nat, args = #[Value.ref b] ∧ ad 3000 = b ∧ va_X b L xs s s.heap ∧ b < s.heap.size ∧ Z = lw_Z below #[Value.ref b] s) ∧ ∀ i, i < N → s.heap.size ≤ ad i
theorem LawPg (L : Nat) (xs : Nat → Int32) (X : VX) (ad1 : Nat → Nat) (dN dc ds : Nat) (ha : agr X ad1 dN) (h : LawP L xs X) : LawP L xs (gro X ad1 dN dc ds) := by
  obtain ⟨p, l, e, R, s, m, args, below, meth, c, D, cI, cJ, ad, N, Z, nL, kc, ks⟩ := X
  obtain ⟨h1, h2, h3, h4, ⟨b, h5, h6, h7, h8, h9⟩, h10⟩ := h
  obtain ⟨a1, a2, a3, a4⟩ := ha
  refine ⟨h1, h2, h3, h4, ⟨b, h5, (a2 3000 (by omega)).trans h6, h7, h8, h9⟩, fun i hi => ?_⟩
  rcases Nat.lt_or_ge i N with q | q
  · rw [a1 i q]; exact h10 i q
  · exact a3 i q hi
theorem LawP.fr {L : Nat} {xs : Nat → Int32} {X : VX} {mc ms kc0 ks0 n1 : Nat} (h : LawP L xs X) (q : QC X mc ms kc0 ks0 n1) {j : Nat} (h2 : j < n1) : frs X j := by
  obtain ⟨p, l, e, R, s, m, args, below, meth, c, D, cI, cJ, ad, N, Z, nL, kc, ks⟩ := X
  obtain ⟨-, -, -, -, -, h10⟩ := h
  obtain ⟨-, -, -, -, rfl⟩ := q
  exact h10 j h2
theorem LawP.nL {L : Nat} {xs : Nat → Int32} {X : VX} (h : LawP L xs X) : nLo X = 4 := by
  obtain ⟨p, l, e, R, s, m, args, below, meth, c, D, cI, cJ, ad, N, Z, nL, kc, ks⟩ := X
  exact h.2.1
theorem v_sld {X : VX} {cc : ByteArray} {own : String} {d pc : Nat} {lo : List (Option Value)} {st : List Value} {w : PW} {L : Nat} {xs : Nat → Int32} {i : Int32} (j : Nat) (g : VG X cc own d) (hp : LawP L xs X) (hd : decode cc pc = .ok (.iaload, 1)) (hi : i = nI j) (hj : j < L) (hL : L ≤ 3072) (k : V X (pc + 1) lo (.int (xs j) :: st) w) : V X pc lo (.int i :: .ref 3000 :: st) w := by
  obtain ⟨p, l, e, R, s, m, args, below, meth, c, D, cI, cJ, ad, N, Z, nL, kc, ks⟩ := X
  obtain ⟨hx, hb, hml, hown, hts, hK, hinj, hR, hC⟩ := g
  intro hN H locs ls hP hS hl
  obtain ⟨h1, h2, h3, h4, ⟨b, h5, h6, h7, h8, h9⟩, h10⟩ := hp
  have hbA : ¬ pA ad N b := by
    rintro ⟨q, hq, he⟩
    have := h10 q hq
    omega
  subst hi
  show W p l e R s m args below meth c H locs kc ks Z (F0 m pc ls (.int (nI j) :: .ref (ad 3000) :: st.map (cV ad)))
  rw [h6]
  refine va_sld hx hb h7 h8 hbA hS (vp_in_nI hj (by omega)) hd ?_
  rw [nI_clamp (by omega)]
  exact k hN H locs ls hP hS hl
theorem v_slen {X : VX} {cc : ByteArray} {own : String} {d pc : Nat} {lo : List (Option Value)} {st : List Value} {w : PW} {L : Nat} {xs : Nat → Int32} (g : VG X cc own d) (hp : LawP L xs X) (hd : decode cc pc = .ok (.arraylength, 1)) (k : V X (pc + 1) lo (.int (nI L) :: st) w) : V X pc lo (.ref 3000 :: st) w := by
  obtain ⟨p, l, e, R, s, m, args, below, meth, c, D, cI, cJ, ad, N, Z, nL, kc, ks⟩ := X
  obtain ⟨hx, hb, hml, hown, hts, hK, hinj, hR, hC⟩ := g
  intro hN H locs ls hP hS hl
  obtain ⟨h1, h2, h3, h4, ⟨b, h5, h6, h7, h8, h9⟩, h10⟩ := hp
  have hbA : ¬ pA ad N b := by
    rintro ⟨q, hq, he⟩
    have := h10 q hq
    omega
  show W p l e R s m args below meth c H locs kc ks Z (F0 m pc ls (.ref (ad 3000) :: st.map (cV ad)))
  rw [h6]
  exact va_slen hx hb h7 h8 hbA hS hd (k hN H locs ls hP hS hl)
theorem v_lawret {X : VX} {own : String} {d pc : Nat} {lo : List (Option Value)} {w : PW} {L mc ms n1 : Nat} {xs : Nat → Int32} (g : VG X code own d) (hp : LawP L xs X) (q : QC X mc ms 51 1394 n1) (hd : decode code pc = .ok (.ireturn, 1)) : V X pc lo [.int 1] w := by
  obtain ⟨p, l, e, R, s, m, args, below, meth, c, D, cI, cJ, ad, N, Z, nL, kc, ks⟩ := X
  obtain ⟨hx, hb, hml, hown, hts, hK, hinj, hR, hC⟩ := g
  intro hN H locs ls hP hS hl
  obtain ⟨rfl, h2, h3, h4, ⟨b, rfl, h6, h7, h8, rfl⟩, h10⟩ := hp
  obtain ⟨e1, e2, rfl, rfl, rfl⟩ := q
  refine va_forget (fun z hz => ?_) (lw_ret hx hb h3 h4 hd)
  obtain ⟨i, hi, he⟩ := hS.2.2 z hz
  rw [he]
  exact h10 i hi
/-! ===== both worlds ===== -/
def mX (r : Nat → Int32) (fo : (Nat → Int32)) (of : Int32) (tr : (Nat → Int32)) (b1 : (Nat → Int32)) (ta : (Nat → Int32)) (tm : Nat) (so : Int32) (be : Int32) (te : Int32) (wo : Int64) (va : Int32) (gd : Int32) (bi : (Nat → Int32)) (si : (Nat → Int32)) (sh : (Nat → Int64)) (le : (Nat → Int64)) (im : (Nat → Int32)) (bf : (Nat → Int32)) (kp : Int32) : PW := [.inr (5, [.ref 40, .ref 41, .int of, .ref 42, .ref 43, .ref 44, .int (nI tm), .int so, .int be, .int te, .long wo, .int va, .int gd, .ref 45, .ref 46, .ref 47, .ref 48, .ref 49, .ref 50, .int kp]), .inl (87, .inl r), .inl (7, .inl fo), .inl (87, .inl tr), .inl (87, .inl b1), .inl (120, .inl ta), .inl (4, .inl bi), .inl (4, .inl si), .inl (160, .inr (.inl sh)), .inl (40, .inr (.inl le)), .inl (87, .inl im), .inl (87, .inl bf)]
theorem xW_cl (S : St) (u0 : Int32) (T : St) (u1 : Int32) (K : St) (u2 : Int32) (tb : Nat → Int32) (tl : Nat) (ni : Int32) (ns : Int32) (ne : Int32) (nk : Int32) (nv : Int32) (wi : Nat → Int32) (si : Nat → Int32) (nu : Nat → Int64) (fn : Nat → Int32) (kp : Int32) : (xW S u0 T u1 K u2 tb tl ni ns ne nk nv wi si nu fn kp).map (rE (rho (rng 0 39))) = xW S u0 T u1 K u2 tb tl ni ns ne nk nv wi si nu fn kp := rfl
theorem mW_cl (r : Nat → Int32) (fo : (Nat → Int32)) (of : Int32) (tr : (Nat → Int32)) (b1 : (Nat → Int32)) (ta : (Nat → Int32)) (tm : Nat) (so : Int32) (be : Int32) (te : Int32) (wo : Int64) (va : Int32) (gd : Int32) (bi : (Nat → Int32)) (si : (Nat → Int32)) (sh : (Nat → Int64)) (le : (Nat → Int64)) (im : (Nat → Int32)) (bf : (Nat → Int32)) (kp : Int32) : (mW r fo of tr b1 ta tm so be te wo va gd bi si sh le im bf kp).map (rE (rho (rng 39 12))) = mX r fo of tr b1 ta tm so be te wo va gd bi si sh le im bf kp := rfl
theorem xW_len (S : St) (u0 : Int32) (T : St) (u1 : Int32) (K : St) (u2 : Int32) (tb : Nat → Int32) (tl : Nat) (ni : Int32) (ns : Int32) (ne : Int32) (nk : Int32) (nv : Int32) (wi : Nat → Int32) (si : Nat → Int32) (nu : Nat → Int64) (fn : Nat → Int32) (kp : Int32) : (xW S u0 T u1 K u2 tb tl ni ns ne nk nv wi si nu fn kp).length = 39 := rfl
theorem Runs.left {d : Nat} {y : MethodName} {cc : ByteArray} {mL : Nat} {ret : Option FieldType} {av : List Value} {x : PW} {Q : Option Value → PW → Prop} (h : Runs d y cc mL ret av x Q) (m : PW) (hx : x.length = 39) (hc : x.map (rE (rho (rng 0 39))) = x) (hav : av.map (rV (rho (rng 0 39))) = av) : Runs d y cc mL ret av (x ++ m) (fun r w' => ∃ r1 x1, Q r1 x1 ∧ x1.length = 39 ∧ r = r1.map (rV (rho (rng 0 39))) ∧ w' = x1.map (rE (rho (rng 0 39))) ++ m) := by
  refine (Runs.lift (w := x ++ m) (rng 0 39) h hav (by decide +kernel) (by decide) ?_).post ?_
  · unfold pickOk
    have h1 := rng_pick x [] m
    rw [hx] at h1
    have e : x.map (fun z => some (rE (rho (rng 0 39)) z)) = x.map some := by
      have h2 := congrArg (List.map some) hc
      rw [List.map_map] at h2
      exact h2
    rw [e]
    exact h1
  · rintro r w' ⟨r1, w1, hq, hl, rfl, rfl⟩
    refine ⟨r1, w1, hq, hl.trans hx, rfl, ?_⟩
    have h1 := rng_up x (w1.map (rE (rho (rng 0 39)))) [] m (by rw [List.length_map]; exact hl.symm)
    rw [hx] at h1
    exact h1
theorem Runs.right {d : Nat} {y : MethodName} {cc : ByteArray} {mL : Nat} {ret : Option FieldType} {av av' : List Value} {m m' : PW} {Q : Option Value → PW → Prop} (h : Runs d y cc mL ret av m Q) (x : PW) (hx : x.length = 39) (hm : m.length = 12) (hc : m.map (rE (rho (rng 39 12))) = m') (hav : av.map (rV (rho (rng 39 12))) = av') : Runs d y cc mL ret av' (x ++ m') (fun r w' => ∃ r1 m1, Q r1 m1 ∧ m1.length = 12 ∧ r = r1.map (rV (rho (rng 39 12))) ∧ w' = x ++ m1.map (rE (rho (rng 39 12)))) := by
  have hm' : m'.length = 12 := by rw [← hc, List.length_map]; exact hm
  refine (Runs.lift (w := x ++ m') (rng 39 12) h hav (by decide +kernel) (by decide) ?_).post ?_
  · unfold pickOk
    have h1 := rng_pick m' x []
    rw [hx, hm', List.append_nil] at h1
    have e : m.map (fun z => some (rE (rho (rng 39 12)) z)) = m'.map some := by
      rw [← hc, List.map_map]; rfl
    rw [e]
    exact h1
  · rintro r w' ⟨r1, w1, hq, hl, rfl, rfl⟩
    refine ⟨r1, w1, hq, hl.trans hm, rfl, ?_⟩
    have h1 := rng_up m' (w1.map (rE (rho (rng 39 12)))) x [] (by rw [List.length_map, hm']; exact (hl.trans hm).symm)
    rw [hx, hm', List.append_nil, List.append_nil] at h1
    exact h1
