/-! ===== the rows of V: an instruction each (written by wip/gen/mk_rows.py) ===== -/
def cK (v : Value) : Bool := match v with
  | .ref _ => false
  | _ => true
theorem cK_cV {ad : Nat → Nat} {v : Value} (h : cK v = true) : cV ad v = v := by cases v <;> first | rfl | simp [cK] at h
theorem cV_sum (ad : Nat → Nat) (st : List Value) : ((st.map (cV ad)).map fun v => v.category).sum = (st.map fun v => v.category).sum := by
  rw [List.map_map]; congr 1; exact List.map_congr_left fun v _ => cV_cat ad v
def CLok (ci : Nat) (C : String) (T : u_T) (N : Nat) (ty : Nat → FieldType) : Prop := vwCl[ci]? = some (C, T, N) ∧ (∀ w ∈ u_ws C T N, w ∈ tbG) ∧ (∀ k, k < N → parseFieldDescriptor (T k).2.2.1 = some (ty k)) ∧ ∀ a, a < N → ∀ b, b < N → a ≠ b → (T a).2.1 ≠ (T b).2.1
def FL (own : String) (idx ci j : Nat) : Prop := ∃ (C : String) (T : u_T) (N : Nat) (ty : Nat → FieldType), CLok ci C T N ty ∧ j < N ∧ (T j).1 = C ∧ Cond.fieldLink own idx C (T j).2.1 (T j).2.2.1 ∈ tbG
def FP (own : String) (idx ci j : Nat) (t : FieldType) : Prop := ∃ (C : String) (T : u_T) (N : Nat) (ty : Nat → FieldType), CLok ci C T N ty ∧ j < N ∧ (T j).1 = C ∧ Cond.fieldLink own idx C (T j).2.1 (T j).2.2.1 ∈ tbG ∧ (T j).2.2.2 = false ∧ parseFieldDescriptor (T j).2.2.1 = some t
theorem vD {cI cJ : ClassId} {ad : Nat → Nat} {N : Nat} {w : PW} (hinj : ∀ i j : Nat, i < N → j < N → ad i = ad j → i = j) (hN : w.length = N) : va_D (pA ad N) (cWf cI cJ ad 0 w) := by
  have key : ∀ (k : Nat) (q : Nat × va_E), (cWf cI cJ ad 0 w)[k]? = some q → k < N ∧ q.1 = ad k := by
    intro k q hk
    rw [cWf_get] at hk
    cases hw : pg w k with
    | none => rw [hw] at hk; cases hk
    | some x =>
      rw [hw] at hk
      cases hk
      exact ⟨by rw [← hN]; exact pg_lt hw, by rw [Nat.zero_add]⟩
  refine ⟨fun i j a b hi hj hab => ?_, fun k q hk => ⟨k, (key k q hk).1, (key k q hk).2⟩⟩
  obtain ⟨h1, h2⟩ := key i a hi
  obtain ⟨h3, h4⟩ := key j b hj
  exact hinj i j h1 h3 (by rw [← h2, ← h4, hab])
theorem v_w {X : VX} {pc : Nat} {lo : List (Option Value)} {st : List Value} {w : PW} (w2 : PW) (h : w = w2) (k : V X pc lo st w2) : V X pc lo st w := h ▸ k
theorem v_lo {X : VX} {pc : Nat} {lo : List (Option Value)} {st : List Value} {w : PW} (lo2 : List (Option Value)) (h : lsub lo2 lo) (k : V X pc lo2 st w) : V X pc lo st w := by
  obtain ⟨p, l, e, R, s, m, args, below, meth, c, D, cI, cJ, ad, N, Z, nL, kc, ks⟩ := X
  exact fun hN H locs ls hP hS hl => k hN H locs ls hP hS (cL_sub h hl)
theorem wm_ini : Cond.initialized "java/lang/Math" ∈ tbG := tbG_in (List.mem_of_getElem? (i := 70) (by decide +kernel)) (by decide +kernel)
theorem wm_max : Cond.static Lib.Math.max.name ∈ tbG ∧ Cond.code Lib.Math.max.name Lib.Math.max.code 2 (some .int) ∈ tbG := ⟨tbG_in (List.mem_of_getElem? (i := 329) (by decide +kernel)) (by decide +kernel), tbG_in (List.mem_of_getElem? (i := 330) (by decide +kernel)) (by decide +kernel)⟩
theorem wm_min : Cond.static Lib.Math.min.name ∈ tbG ∧ Cond.code Lib.Math.min.name Lib.Math.min.code 2 (some .int) ∈ tbG := ⟨tbG_in (List.mem_of_getElem? (i := 382) (by decide +kernel)) (by decide +kernel), tbG_in (List.mem_of_getElem? (i := 383) (by decide +kernel)) (by decide +kernel)⟩
theorem wm_abs : Cond.static Lib.Math.abs.name ∈ tbG ∧ Cond.code Lib.Math.abs.name Lib.Math.abs.code 1 (some .int) ∈ tbG := ⟨tbG_in (List.mem_of_getElem? (i := 408) (by decide +kernel)) (by decide +kernel), tbG_in (List.mem_of_getElem? (i := 409) (by decide +kernel)) (by decide +kernel)⟩
theorem v_iadd {X : VX} {cc : ByteArray} {own : String} {d pc : Nat} {lo : List (Option Value)} {st : List Value} {w : PW} {x y : Int32} (g : VG X cc own d) (hd : decode cc pc = .ok (.iadd, 1))  (k : V X (pc + 1) lo (.int (x + y) :: st) w) : V X pc lo (.int y :: .int x :: st) w := by
  obtain ⟨p, l, e, R, s, m, args, below, meth, c, D, cI, cJ, ad, N, Z, nL, kc, ks⟩ := X
  obtain ⟨hx, hb, hml, hown, hts, hK, hinj, hR, hC⟩ := g
  intro hN H locs ls hP hS hl
  exact lv_iadd hx hb hd (k hN H locs ls hP hS hl)
theorem v_isub {X : VX} {cc : ByteArray} {own : String} {d pc : Nat} {lo : List (Option Value)} {st : List Value} {w : PW} {x y : Int32} (g : VG X cc own d) (hd : decode cc pc = .ok (.isub, 1))  (k : V X (pc + 1) lo (.int (x - y) :: st) w) : V X pc lo (.int y :: .int x :: st) w := by
  obtain ⟨p, l, e, R, s, m, args, below, meth, c, D, cI, cJ, ad, N, Z, nL, kc, ks⟩ := X
  obtain ⟨hx, hb, hml, hown, hts, hK, hinj, hR, hC⟩ := g
  intro hN H locs ls hP hS hl
  exact lv_isub hx hb hd (k hN H locs ls hP hS hl)
theorem v_imul {X : VX} {cc : ByteArray} {own : String} {d pc : Nat} {lo : List (Option Value)} {st : List Value} {w : PW} {x y : Int32} (g : VG X cc own d) (hd : decode cc pc = .ok (.imul, 1))  (k : V X (pc + 1) lo (.int (x * y) :: st) w) : V X pc lo (.int y :: .int x :: st) w := by
  obtain ⟨p, l, e, R, s, m, args, below, meth, c, D, cI, cJ, ad, N, Z, nL, kc, ks⟩ := X
  obtain ⟨hx, hb, hml, hown, hts, hK, hinj, hR, hC⟩ := g
  intro hN H locs ls hP hS hl
  exact lv_imul hx hb hd (k hN H locs ls hP hS hl)
theorem v_iand {X : VX} {cc : ByteArray} {own : String} {d pc : Nat} {lo : List (Option Value)} {st : List Value} {w : PW} {x y : Int32} (g : VG X cc own d) (hd : decode cc pc = .ok (.iand, 1))  (k : V X (pc + 1) lo (.int (x &&& y) :: st) w) : V X pc lo (.int y :: .int x :: st) w := by
  obtain ⟨p, l, e, R, s, m, args, below, meth, c, D, cI, cJ, ad, N, Z, nL, kc, ks⟩ := X
  obtain ⟨hx, hb, hml, hown, hts, hK, hinj, hR, hC⟩ := g
  intro hN H locs ls hP hS hl
  exact lv_iand hx hb hd (k hN H locs ls hP hS hl)
theorem v_ior {X : VX} {cc : ByteArray} {own : String} {d pc : Nat} {lo : List (Option Value)} {st : List Value} {w : PW} {x y : Int32} (g : VG X cc own d) (hd : decode cc pc = .ok (.ior, 1))  (k : V X (pc + 1) lo (.int (x ||| y) :: st) w) : V X pc lo (.int y :: .int x :: st) w := by
  obtain ⟨p, l, e, R, s, m, args, below, meth, c, D, cI, cJ, ad, N, Z, nL, kc, ks⟩ := X
  obtain ⟨hx, hb, hml, hown, hts, hK, hinj, hR, hC⟩ := g
  intro hN H locs ls hP hS hl
  exact lv_ior hx hb hd (k hN H locs ls hP hS hl)
theorem v_ishl {X : VX} {cc : ByteArray} {own : String} {d pc : Nat} {lo : List (Option Value)} {st : List Value} {w : PW} {x y : Int32} (g : VG X cc own d) (hd : decode cc pc = .ok (.ishl, 1))  (k : V X (pc + 1) lo (.int (x <<< (y &&& 31)) :: st) w) : V X pc lo (.int y :: .int x :: st) w := by
  obtain ⟨p, l, e, R, s, m, args, below, meth, c, D, cI, cJ, ad, N, Z, nL, kc, ks⟩ := X
  obtain ⟨hx, hb, hml, hown, hts, hK, hinj, hR, hC⟩ := g
  intro hN H locs ls hP hS hl
  exact lv_ishl hx hb hd (k hN H locs ls hP hS hl)
theorem v_ishr {X : VX} {cc : ByteArray} {own : String} {d pc : Nat} {lo : List (Option Value)} {st : List Value} {w : PW} {x y : Int32} (g : VG X cc own d) (hd : decode cc pc = .ok (.ishr, 1))  (k : V X (pc + 1) lo (.int (x >>> (y &&& 31)) :: st) w) : V X pc lo (.int y :: .int x :: st) w := by
  obtain ⟨p, l, e, R, s, m, args, below, meth, c, D, cI, cJ, ad, N, Z, nL, kc, ks⟩ := X
  obtain ⟨hx, hb, hml, hown, hts, hK, hinj, hR, hC⟩ := g
  intro hN H locs ls hP hS hl
  exact lv_ishr hx hb hd (k hN H locs ls hP hS hl)
theorem v_idiv {X : VX} {cc : ByteArray} {own : String} {d pc : Nat} {lo : List (Option Value)} {st : List Value} {w : PW} {x y : Int32} (g : VG X cc own d) (hd : decode cc pc = .ok (.idiv, 1)) (hne : ¬ y = 0) (k : V X (pc + 1) lo (.int (x / y) :: st) w) : V X pc lo (.int y :: .int x :: st) w := by
  obtain ⟨p, l, e, R, s, m, args, below, meth, c, D, cI, cJ, ad, N, Z, nL, kc, ks⟩ := X
  obtain ⟨hx, hb, hml, hown, hts, hK, hinj, hR, hC⟩ := g
  intro hN H locs ls hP hS hl
  exact lv_idiv hx hb hd hne (k hN H locs ls hP hS hl)
theorem v_irem {X : VX} {cc : ByteArray} {own : String} {d pc : Nat} {lo : List (Option Value)} {st : List Value} {w : PW} {x y : Int32} (g : VG X cc own d) (hd : decode cc pc = .ok (.irem, 1)) (hne : ¬ y = 0) (k : V X (pc + 1) lo (.int (x - x / y * y) :: st) w) : V X pc lo (.int y :: .int x :: st) w := by
  obtain ⟨p, l, e, R, s, m, args, below, meth, c, D, cI, cJ, ad, N, Z, nL, kc, ks⟩ := X
  obtain ⟨hx, hb, hml, hown, hts, hK, hinj, hR, hC⟩ := g
  intro hN H locs ls hP hS hl
  exact lv_irem hx hb hd hne (k hN H locs ls hP hS hl)
theorem v_ineg {X : VX} {cc : ByteArray} {own : String} {d pc : Nat} {lo : List (Option Value)} {st : List Value} {w : PW} {x : Int32} (g : VG X cc own d) (hd : decode cc pc = .ok (.ineg, 1)) (k : V X (pc + 1) lo (.int (-x) :: st) w) : V X pc lo (.int x :: st) w := by
  obtain ⟨p, l, e, R, s, m, args, below, meth, c, D, cI, cJ, ad, N, Z, nL, kc, ks⟩ := X
  obtain ⟨hx, hb, hml, hown, hts, hK, hinj, hR, hC⟩ := g
  intro hN H locs ls hP hS hl
  exact lv_ineg hx hb hd (k hN H locs ls hP hS hl)
theorem v_ladd {X : VX} {cc : ByteArray} {own : String} {d pc : Nat} {lo : List (Option Value)} {st : List Value} {w : PW} {x y : Int64} (g : VG X cc own d) (hd : decode cc pc = .ok (.ladd, 1)) (k : V X (pc + 1) lo (.long (x + y) :: st) w) : V X pc lo (.long y :: .long x :: st) w := by
  obtain ⟨p, l, e, R, s, m, args, below, meth, c, D, cI, cJ, ad, N, Z, nL, kc, ks⟩ := X
  obtain ⟨hx, hb, hml, hown, hts, hK, hinj, hR, hC⟩ := g
  intro hN H locs ls hP hS hl
  exact lv_ladd hx hb hd (k hN H locs ls hP hS hl)
theorem v_lsub {X : VX} {cc : ByteArray} {own : String} {d pc : Nat} {lo : List (Option Value)} {st : List Value} {w : PW} {x y : Int64} (g : VG X cc own d) (hd : decode cc pc = .ok (.lsub, 1)) (k : V X (pc + 1) lo (.long (x - y) :: st) w) : V X pc lo (.long y :: .long x :: st) w := by
  obtain ⟨p, l, e, R, s, m, args, below, meth, c, D, cI, cJ, ad, N, Z, nL, kc, ks⟩ := X
  obtain ⟨hx, hb, hml, hown, hts, hK, hinj, hR, hC⟩ := g
  intro hN H locs ls hP hS hl
  exact lv_lsub hx hb hd (k hN H locs ls hP hS hl)
theorem v_lmul {X : VX} {cc : ByteArray} {own : String} {d pc : Nat} {lo : List (Option Value)} {st : List Value} {w : PW} {x y : Int64} (g : VG X cc own d) (hd : decode cc pc = .ok (.lmul, 1)) (k : V X (pc + 1) lo (.long (x * y) :: st) w) : V X pc lo (.long y :: .long x :: st) w := by
  obtain ⟨p, l, e, R, s, m, args, below, meth, c, D, cI, cJ, ad, N, Z, nL, kc, ks⟩ := X
  obtain ⟨hx, hb, hml, hown, hts, hK, hinj, hR, hC⟩ := g
  intro hN H locs ls hP hS hl
  exact lv_lmul hx hb hd (k hN H locs ls hP hS hl)
theorem v_land {X : VX} {cc : ByteArray} {own : String} {d pc : Nat} {lo : List (Option Value)} {st : List Value} {w : PW} {x y : Int64} (g : VG X cc own d) (hd : decode cc pc = .ok (.land, 1)) (k : V X (pc + 1) lo (.long (x &&& y) :: st) w) : V X pc lo (.long y :: .long x :: st) w := by
  obtain ⟨p, l, e, R, s, m, args, below, meth, c, D, cI, cJ, ad, N, Z, nL, kc, ks⟩ := X
  obtain ⟨hx, hb, hml, hown, hts, hK, hinj, hR, hC⟩ := g
  intro hN H locs ls hP hS hl
  exact lv_land hx hb hd (k hN H locs ls hP hS hl)
theorem v_lor {X : VX} {cc : ByteArray} {own : String} {d pc : Nat} {lo : List (Option Value)} {st : List Value} {w : PW} {x y : Int64} (g : VG X cc own d) (hd : decode cc pc = .ok (.lor, 1)) (k : V X (pc + 1) lo (.long (x ||| y) :: st) w) : V X pc lo (.long y :: .long x :: st) w := by
  obtain ⟨p, l, e, R, s, m, args, below, meth, c, D, cI, cJ, ad, N, Z, nL, kc, ks⟩ := X
  obtain ⟨hx, hb, hml, hown, hts, hK, hinj, hR, hC⟩ := g
  intro hN H locs ls hP hS hl
  exact lv_lor hx hb hd (k hN H locs ls hP hS hl)
theorem v_lshl {X : VX} {cc : ByteArray} {own : String} {d pc : Nat} {lo : List (Option Value)} {st : List Value} {w : PW} {x : Int64} {y : Int32} (g : VG X cc own d) (hd : decode cc pc = .ok (.lshl, 1)) (k : V X (pc + 1) lo (.long (x <<< (y.toInt64 &&& 63)) :: st) w) : V X pc lo (.int y :: .long x :: st) w := by
  obtain ⟨p, l, e, R, s, m, args, below, meth, c, D, cI, cJ, ad, N, Z, nL, kc, ks⟩ := X
  obtain ⟨hx, hb, hml, hown, hts, hK, hinj, hR, hC⟩ := g
  intro hN H locs ls hP hS hl
  exact lv_lshl hx hb hd rfl (k hN H locs ls hP hS hl)
theorem v_lshr {X : VX} {cc : ByteArray} {own : String} {d pc : Nat} {lo : List (Option Value)} {st : List Value} {w : PW} {x : Int64} {y : Int32} (g : VG X cc own d) (hd : decode cc pc = .ok (.lshr, 1)) (k : V X (pc + 1) lo (.long (x >>> (y.toInt64 &&& 63)) :: st) w) : V X pc lo (.int y :: .long x :: st) w := by
  obtain ⟨p, l, e, R, s, m, args, below, meth, c, D, cI, cJ, ad, N, Z, nL, kc, ks⟩ := X
  obtain ⟨hx, hb, hml, hown, hts, hK, hinj, hR, hC⟩ := g
  intro hN H locs ls hP hS hl
  exact lv_lshr hx hb hd rfl (k hN H locs ls hP hS hl)
theorem v_lcmp {X : VX} {cc : ByteArray} {own : String} {d pc : Nat} {lo : List (Option Value)} {st : List Value} {w : PW} {x y : Int64} (g : VG X cc own d) (hd : decode cc pc = .ok (.lcmp, 1)) (k : V X (pc + 1) lo (.int (lg_cmp x y) :: st) w) : V X pc lo (.long y :: .long x :: st) w := by
  obtain ⟨p, l, e, R, s, m, args, below, meth, c, D, cI, cJ, ad, N, Z, nL, kc, ks⟩ := X
  obtain ⟨hx, hb, hml, hown, hts, hK, hinj, hR, hC⟩ := g
  intro hN H locs ls hP hS hl
  exact W.lcmp hx hb hd (k hN H locs ls hP hS hl)
theorem v_i2l {X : VX} {cc : ByteArray} {own : String} {d pc : Nat} {lo : List (Option Value)} {st : List Value} {w : PW} {x : Int32} (g : VG X cc own d) (hd : decode cc pc = .ok (.i2l, 1)) (k : V X (pc + 1) lo (.long (x.toInt64) :: st) w) : V X pc lo (.int x :: st) w := by
  obtain ⟨p, l, e, R, s, m, args, below, meth, c, D, cI, cJ, ad, N, Z, nL, kc, ks⟩ := X
  obtain ⟨hx, hb, hml, hown, hts, hK, hinj, hR, hC⟩ := g
  intro hN H locs ls hP hS hl
  exact lv_i2l hx hb hd rfl (k hN H locs ls hP hS hl)
theorem v_i2b {X : VX} {cc : ByteArray} {own : String} {d pc : Nat} {lo : List (Option Value)} {st : List Value} {w : PW} {x : Int32} (g : VG X cc own d) (hd : decode cc pc = .ok (.i2b, 1)) (k : V X (pc + 1) lo (.int (x.toInt8.toInt32) :: st) w) : V X pc lo (.int x :: st) w := by
  obtain ⟨p, l, e, R, s, m, args, below, meth, c, D, cI, cJ, ad, N, Z, nL, kc, ks⟩ := X
  obtain ⟨hx, hb, hml, hown, hts, hK, hinj, hR, hC⟩ := g
  intro hN H locs ls hP hS hl
  exact lv_i2b hx hb hd rfl (k hN H locs ls hP hS hl)
theorem v_i2s {X : VX} {cc : ByteArray} {own : String} {d pc : Nat} {lo : List (Option Value)} {st : List Value} {w : PW} {x : Int32} (g : VG X cc own d) (hd : decode cc pc = .ok (.i2s, 1)) (k : V X (pc + 1) lo (.int (x.toInt16.toInt32) :: st) w) : V X pc lo (.int x :: st) w := by
  obtain ⟨p, l, e, R, s, m, args, below, meth, c, D, cI, cJ, ad, N, Z, nL, kc, ks⟩ := X
  obtain ⟨hx, hb, hml, hown, hts, hK, hinj, hR, hC⟩ := g
  intro hN H locs ls hP hS hl
  exact lv_i2s hx hb hd rfl (k hN H locs ls hP hS hl)
theorem v_i2c {X : VX} {cc : ByteArray} {own : String} {d pc : Nat} {lo : List (Option Value)} {st : List Value} {w : PW} {x : Int32} (g : VG X cc own d) (hd : decode cc pc = .ok (.i2c, 1)) (k : V X (pc + 1) lo (.int ((x.toUInt32 % 65536).toInt32) :: st) w) : V X pc lo (.int x :: st) w := by
  obtain ⟨p, l, e, R, s, m, args, below, meth, c, D, cI, cJ, ad, N, Z, nL, kc, ks⟩ := X
  obtain ⟨hx, hb, hml, hown, hts, hK, hinj, hR, hC⟩ := g
  intro hN H locs ls hP hS hl
  exact lv_i2c hx hb hd rfl (k hN H locs ls hP hS hl)
theorem v_l2i {X : VX} {cc : ByteArray} {own : String} {d pc : Nat} {lo : List (Option Value)} {st : List Value} {w : PW} {x : Int64} (g : VG X cc own d) (hd : decode cc pc = .ok (.l2i, 1)) (k : V X (pc + 1) lo (.int x.toInt32 :: st) w) : V X pc lo (.long x :: st) w := by
  obtain ⟨p, l, e, R, s, m, args, below, meth, c, D, cI, cJ, ad, N, Z, nL, kc, ks⟩ := X
  obtain ⟨hx, hb, hml, hown, hts, hK, hinj, hR, hC⟩ := g
  intro hN H locs ls hP hS hl
  exact lv_l2i hx hb hd rfl (k hN H locs ls hP hS hl)
theorem v_iconst {X : VX} {cc : ByteArray} {own : String} {d pc : Nat} {lo : List (Option Value)} {st : List Value} {w : PW} {n : Int} {v : Int32} (g : VG X cc own d) (hd : decode cc pc = .ok (.iconst n, 1)) (hv : Int32.ofInt n = v) (k : V X (pc + 1) lo (.int v :: st) w) : V X pc lo st w := by
  obtain ⟨p, l, e, R, s, m, args, below, meth, c, D, cI, cJ, ad, N, Z, nL, kc, ks⟩ := X
  obtain ⟨hx, hb, hml, hown, hts, hK, hinj, hR, hC⟩ := g
  intro hN H locs ls hP hS hl
  exact lv_iconst hx hb hd hv (k hN H locs ls hP hS hl)
theorem v_bipush {X : VX} {cc : ByteArray} {own : String} {d pc : Nat} {lo : List (Option Value)} {st : List Value} {w : PW} {n : Int} {v : Int32} (g : VG X cc own d) (hd : decode cc pc = .ok (.bipush n, 2)) (hv : (Int8.ofInt n).toInt32 = v) (k : V X (pc + 2) lo (.int v :: st) w) : V X pc lo st w := by
  obtain ⟨p, l, e, R, s, m, args, below, meth, c, D, cI, cJ, ad, N, Z, nL, kc, ks⟩ := X
  obtain ⟨hx, hb, hml, hown, hts, hK, hinj, hR, hC⟩ := g
  intro hN H locs ls hP hS hl
  exact lv_bipush hx hb hd hv (k hN H locs ls hP hS hl)
theorem v_sipush {X : VX} {cc : ByteArray} {own : String} {d pc : Nat} {lo : List (Option Value)} {st : List Value} {w : PW} {n : Int} {v : Int32} (g : VG X cc own d) (hd : decode cc pc = .ok (.sipush n, 3)) (hv : (Int16.ofInt n).toInt32 = v) (k : V X (pc + 3) lo (.int v :: st) w) : V X pc lo st w := by
  obtain ⟨p, l, e, R, s, m, args, below, meth, c, D, cI, cJ, ad, N, Z, nL, kc, ks⟩ := X
  obtain ⟨hx, hb, hml, hown, hts, hK, hinj, hR, hC⟩ := g
  intro hN H locs ls hP hS hl
  exact lv_sipush hx hb hd hv (k hN H locs ls hP hS hl)
theorem v_lconst {X : VX} {cc : ByteArray} {own : String} {d pc : Nat} {lo : List (Option Value)} {st : List Value} {w : PW} {n : Fin 2} {v : Int64} (g : VG X cc own d) (hd : decode cc pc = .ok (.lconst n, 1)) (hv : Int64.ofNat (n : Nat) = v) (k : V X (pc + 1) lo (.long v :: st) w) : V X pc lo st w := by
  obtain ⟨p, l, e, R, s, m, args, below, meth, c, D, cI, cJ, ad, N, Z, nL, kc, ks⟩ := X
  obtain ⟨hx, hb, hml, hown, hts, hK, hinj, hR, hC⟩ := g
  intro hN H locs ls hP hS hl
  exact lv_lconst hx hb hd hv (k hN H locs ls hP hS hl)
theorem v_ldc {X : VX} {cc : ByteArray} {own : String} {d pc : Nat} {lo : List (Option Value)} {st : List Value} {w : PW} {n : Nat} {v : Int32} (g : VG X cc own d) (hd : decode cc pc = .ok (.ldc n, 2)) (hv : Cond.constant own n v ∈ tbG) (k : V X (pc + 2) lo (.int v :: st) w) : V X pc lo st w := by
  obtain ⟨p, l, e, R, s, m, args, below, meth, c, D, cI, cJ, ad, N, Z, nL, kc, ks⟩ := X
  obtain ⟨hx, hb, hml, hown, hts, hK, hinj, hR, hC⟩ := g
  intro hN H locs ls hP hS hl
  exact lv_ldc hx hb hown (hts _ hv) hd (k hN H locs ls hP hS hl)
theorem v_ldcw {X : VX} {cc : ByteArray} {own : String} {d pc : Nat} {lo : List (Option Value)} {st : List Value} {w : PW} {n : Nat} {v : Int32} (g : VG X cc own d) (hd : decode cc pc = .ok (.ldc_w n, 3)) (hv : Cond.constant own n v ∈ tbG) (k : V X (pc + 3) lo (.int v :: st) w) : V X pc lo st w := by
  obtain ⟨p, l, e, R, s, m, args, below, meth, c, D, cI, cJ, ad, N, Z, nL, kc, ks⟩ := X
  obtain ⟨hx, hb, hml, hown, hts, hK, hinj, hR, hC⟩ := g
  intro hN H locs ls hP hS hl
  exact lv_ldcw hx hb hown (hts _ hv) hd (k hN H locs ls hP hS hl)
theorem v_ldc2 {X : VX} {cc : ByteArray} {own : String} {d pc : Nat} {lo : List (Option Value)} {st : List Value} {w : PW} {n : Nat} {v : Int64} (g : VG X cc own d) (hd : decode cc pc = .ok (.ldc2_w n, 3)) (hv : Cond.constantLong own n v ∈ tbG) (k : V X (pc + 3) lo (.long v :: st) w) : V X pc lo st w := by
  obtain ⟨p, l, e, R, s, m, args, below, meth, c, D, cI, cJ, ad, N, Z, nL, kc, ks⟩ := X
  obtain ⟨hx, hb, hml, hown, hts, hK, hinj, hR, hC⟩ := g
  intro hN H locs ls hP hS hl
  exact lv_ldc2 hx hb hown (hts _ hv) hd (k hN H locs ls hP hS hl)
theorem v_iload_n {X : VX} {cc : ByteArray} {own : String} {d pc : Nat} {lo : List (Option Value)} {st : List Value} {w : PW} {k0 : Fin 4} {x : Int32} (i : Nat) (g : VG X cc own d) (hd : decode cc pc = .ok (.iload_n k0, 1)) (hi : (k0 : Nat) = i) (hv : pg lo i = some (some (.int x))) (k : V X (pc + 1) lo (.int x :: st) w) : V X pc lo st w := by
  obtain ⟨p, l, e, R, s, m, args, below, meth, c, D, cI, cJ, ad, N, Z, nL, kc, ks⟩ := X
  obtain ⟨hx, hb, hml, hown, hts, hK, hinj, hR, hC⟩ := g
  intro hN H locs ls hP hS hl
  exact lv_iload_n hx hb hd hi (cL_at hl hv) (k hN H locs ls hP hS hl)
theorem v_iload {X : VX} {cc : ByteArray} {own : String} {d pc : Nat} {lo : List (Option Value)} {st : List Value} {w : PW} {i : Nat} {x : Int32} (g : VG X cc own d) (hd : decode cc pc = .ok (.iload i, 2)) (hv : pg lo i = some (some (.int x))) (k : V X (pc + 2) lo (.int x :: st) w) : V X pc lo st w := by
  obtain ⟨p, l, e, R, s, m, args, below, meth, c, D, cI, cJ, ad, N, Z, nL, kc, ks⟩ := X
  obtain ⟨hx, hb, hml, hown, hts, hK, hinj, hR, hC⟩ := g
  intro hN H locs ls hP hS hl
  exact lv_iload hx hb hd (cL_at hl hv) (k hN H locs ls hP hS hl)
theorem v_lload_n {X : VX} {cc : ByteArray} {own : String} {d pc : Nat} {lo : List (Option Value)} {st : List Value} {w : PW} {k0 : Fin 4} {x : Int64} (i : Nat) (g : VG X cc own d) (hd : decode cc pc = .ok (.lload_n k0, 1)) (hi : (k0 : Nat) = i) (hv : pg lo i = some (some (.long x))) (k : V X (pc + 1) lo (.long x :: st) w) : V X pc lo st w := by
  obtain ⟨p, l, e, R, s, m, args, below, meth, c, D, cI, cJ, ad, N, Z, nL, kc, ks⟩ := X
  obtain ⟨hx, hb, hml, hown, hts, hK, hinj, hR, hC⟩ := g
  intro hN H locs ls hP hS hl
  exact lv_lload_n hx hb hd hi (cL_at hl hv) (k hN H locs ls hP hS hl)
theorem v_lload {X : VX} {cc : ByteArray} {own : String} {d pc : Nat} {lo : List (Option Value)} {st : List Value} {w : PW} {i : Nat} {x : Int64} (g : VG X cc own d) (hd : decode cc pc = .ok (.lload i, 2)) (hv : pg lo i = some (some (.long x))) (k : V X (pc + 2) lo (.long x :: st) w) : V X pc lo st w := by
  obtain ⟨p, l, e, R, s, m, args, below, meth, c, D, cI, cJ, ad, N, Z, nL, kc, ks⟩ := X
  obtain ⟨hx, hb, hml, hown, hts, hK, hinj, hR, hC⟩ := g
  intro hN H locs ls hP hS hl
  exact lv_lload hx hb hd (cL_at hl hv) (k hN H locs ls hP hS hl)
theorem v_aload_n {X : VX} {cc : ByteArray} {own : String} {d pc : Nat} {lo : List (Option Value)} {st : List Value} {w : PW} {k0 : Fin 4} {x : Nat} (i : Nat) (g : VG X cc own d) (hd : decode cc pc = .ok (.aload_n k0, 1)) (hi : (k0 : Nat) = i) (hv : pg lo i = some (some (.ref x))) (k : V X (pc + 1) lo (.ref x :: st) w) : V X pc lo st w := by
  obtain ⟨p, l, e, R, s, m, args, below, meth, c, D, cI, cJ, ad, N, Z, nL, kc, ks⟩ := X
  obtain ⟨hx, hb, hml, hown, hts, hK, hinj, hR, hC⟩ := g
  intro hN H locs ls hP hS hl
  exact lv_aload_n hx hb hd hi (cL_at hl hv) (k hN H locs ls hP hS hl)
theorem v_aload {X : VX} {cc : ByteArray} {own : String} {d pc : Nat} {lo : List (Option Value)} {st : List Value} {w : PW} {i : Nat} {x : Nat} (g : VG X cc own d) (hd : decode cc pc = .ok (.aload i, 2)) (hv : pg lo i = some (some (.ref x))) (k : V X (pc + 2) lo (.ref x :: st) w) : V X pc lo st w := by
  obtain ⟨p, l, e, R, s, m, args, below, meth, c, D, cI, cJ, ad, N, Z, nL, kc, ks⟩ := X
  obtain ⟨hx, hb, hml, hown, hts, hK, hinj, hR, hC⟩ := g
  intro hN H locs ls hP hS hl
  exact lv_aload hx hb hd (cL_at hl hv) (k hN H locs ls hP hS hl)
theorem v_istore_n {X : VX} {cc : ByteArray} {own : String} {d pc : Nat} {lo : List (Option Value)} {st : List Value} {w : PW} {k0 : Fin 4} {x : Int32} (i : Nat) (lo2 : List (Option Value)) (g : VG X cc own d) (hd : decode cc pc = .ok (.istore_n k0, 1)) (hi : (k0 : Nat) = i) (hn : i < lo.length) (hL : lo.length = nLo X) (h2 : s1 lo i (.int x) = lo2) (k : V X (pc + 1) lo2 st w) : V X pc lo (.int x :: st) w := by
  obtain ⟨p, l, e, R, s, m, args, below, meth, c, D, cI, cJ, ad, N, Z, nL, kc, ks⟩ := X
  obtain ⟨hx, hb, hml, hown, hts, hK, hinj, hR, hC⟩ := g
  intro hN H locs ls hP hS hl
  subst h2
  exact lv_istore_n hx hb hd hi hl (by rw [hL] at hn; exact hn) rfl (fun ls2 hl2 => k hN H locs ls2 hP hS (cL_s1 (v := .int x) hl2))
theorem v_istore {X : VX} {cc : ByteArray} {own : String} {d pc : Nat} {lo : List (Option Value)} {st : List Value} {w : PW} {i : Nat} {x : Int32} (lo2 : List (Option Value)) (g : VG X cc own d) (hd : decode cc pc = .ok (.istore i, 2)) (hn : i < lo.length) (hL : lo.length = nLo X) (h2 : s1 lo i (.int x) = lo2) (k : V X (pc + 2) lo2 st w) : V X pc lo (.int x :: st) w := by
  obtain ⟨p, l, e, R, s, m, args, below, meth, c, D, cI, cJ, ad, N, Z, nL, kc, ks⟩ := X
  obtain ⟨hx, hb, hml, hown, hts, hK, hinj, hR, hC⟩ := g
  intro hN H locs ls hP hS hl
  subst h2
  exact lv_istore hx hb hd hl (by rw [hL] at hn; exact hn) rfl (fun ls2 hl2 => k hN H locs ls2 hP hS (cL_s1 (v := .int x) hl2))
theorem v_astore_n {X : VX} {cc : ByteArray} {own : String} {d pc : Nat} {lo : List (Option Value)} {st : List Value} {w : PW} {k0 : Fin 4} {x : Nat} (i : Nat) (lo2 : List (Option Value)) (g : VG X cc own d) (hd : decode cc pc = .ok (.astore_n k0, 1)) (hi : (k0 : Nat) = i) (hn : i < lo.length) (hL : lo.length = nLo X) (h2 : s1 lo i (.ref x) = lo2) (k : V X (pc + 1) lo2 st w) : V X pc lo (.ref x :: st) w := by
  obtain ⟨p, l, e, R, s, m, args, below, meth, c, D, cI, cJ, ad, N, Z, nL, kc, ks⟩ := X
  obtain ⟨hx, hb, hml, hown, hts, hK, hinj, hR, hC⟩ := g
  intro hN H locs ls hP hS hl
  subst h2
  exact lv_astore_n hx hb hd hi hl (by rw [hL] at hn; exact hn) rfl (fun ls2 hl2 => k hN H locs ls2 hP hS (cL_s1 (v := .ref x) hl2))
theorem v_astore {X : VX} {cc : ByteArray} {own : String} {d pc : Nat} {lo : List (Option Value)} {st : List Value} {w : PW} {i : Nat} {x : Nat} (lo2 : List (Option Value)) (g : VG X cc own d) (hd : decode cc pc = .ok (.astore i, 2)) (hn : i < lo.length) (hL : lo.length = nLo X) (h2 : s1 lo i (.ref x) = lo2) (k : V X (pc + 2) lo2 st w) : V X pc lo (.ref x :: st) w := by
  obtain ⟨p, l, e, R, s, m, args, below, meth, c, D, cI, cJ, ad, N, Z, nL, kc, ks⟩ := X
  obtain ⟨hx, hb, hml, hown, hts, hK, hinj, hR, hC⟩ := g
  intro hN H locs ls hP hS hl
  subst h2
  exact lv_astore hx hb hd hl (by rw [hL] at hn; exact hn) rfl (fun ls2 hl2 => k hN H locs ls2 hP hS (cL_s1 (v := .ref x) hl2))
theorem v_lstore {X : VX} {cc : ByteArray} {own : String} {d pc : Nat} {lo : List (Option Value)} {st : List Value} {w : PW} {i : Nat} {x : Int64} (lo2 : List (Option Value)) (g : VG X cc own d) (hd : decode cc pc = .ok (.lstore i, 2)) (hn : i + 1 < lo.length) (hL : lo.length = nLo X) (h2 : s2 lo i (.long x) = lo2) (k : V X (pc + 2) lo2 st w) : V X pc lo (.long x :: st) w := by
  obtain ⟨p, l, e, R, s, m, args, below, meth, c, D, cI, cJ, ad, N, Z, nL, kc, ks⟩ := X
  obtain ⟨hx, hb, hml, hown, hts, hK, hinj, hR, hC⟩ := g
  intro hN H locs ls hP hS hl
  subst h2
  exact lv_lstore hx hb hd hl (by rw [hL] at hn; exact hn) rfl (fun ls2 hl2 => k hN H locs ls2 hP hS (cL_s2 (v := .long x) hl2))
theorem v_iinc {X : VX} {cc : ByteArray} {own : String} {d pc : Nat} {lo : List (Option Value)} {st : List Value} {w : PW} {i : Nat} {n : Int} {x : Int32} (v : Int32) (lo2 : List (Option Value)) (g : VG X cc own d) (hd : decode cc pc = .ok (.iinc i n, 3)) (hv : pg lo i = some (some (.int x))) (he : x + Int32.ofInt n = v) (hL : lo.length = nLo X) (h2 : s1 lo i (.int v) = lo2) (k : V X (pc + 3) lo2 st w) : V X pc lo st w := by
  obtain ⟨p, l, e, R, s, m, args, below, meth, c, D, cI, cJ, ad, N, Z, nL, kc, ks⟩ := X
  obtain ⟨hx, hb, hml, hown, hts, hK, hinj, hR, hC⟩ := g
  intro hN H locs ls hP hS hl
  subst h2
  obtain ⟨k0, hk0⟩ := List.getElem?_of_mem ((cLf_mem ad lo 0 (i, .int x)).mpr ⟨i, .int x, hv, by rw [Nat.zero_add]; rfl⟩)
  exact lv_iinc hx hb hd hl hk0 he (by rw [← show lo.length = nL from hL]; exact pg_lt hv) rfl (fun ls2 hl2 => k hN H locs ls2 hP hS (cL_s1 (v := .int v) hl2))
theorem v_dup {X : VX} {cc : ByteArray} {own : String} {d pc : Nat} {lo : List (Option Value)} {st : List Value} {w : PW} {v : Value} (g : VG X cc own d) (hd : decode cc pc = .ok (.dup, 1)) (hc : v.category = 1) (k : V X (pc + 1) lo (v :: v :: st) w) : V X pc lo (v :: st) w := by
  obtain ⟨p, l, e, R, s, m, args, below, meth, c, D, cI, cJ, ad, N, Z, nL, kc, ks⟩ := X
  obtain ⟨hx, hb, hml, hown, hts, hK, hinj, hR, hC⟩ := g
  intro hN H locs ls hP hS hl
  exact lv_dup hx hb hd (by rw [cV_cat]; exact hc) (k hN H locs ls hP hS hl)
theorem v_dup2 {X : VX} {cc : ByteArray} {own : String} {d pc : Nat} {lo : List (Option Value)} {st : List Value} {w : PW} {v u : Value} (g : VG X cc own d) (hd : decode cc pc = .ok (.dup2, 1)) (hc : v.category = 1) (hc2 : u.category = 1) (k : V X (pc + 1) lo (v :: u :: v :: u :: st) w) : V X pc lo (v :: u :: st) w := by
  obtain ⟨p, l, e, R, s, m, args, below, meth, c, D, cI, cJ, ad, N, Z, nL, kc, ks⟩ := X
  obtain ⟨hx, hb, hml, hown, hts, hK, hinj, hR, hC⟩ := g
  intro hN H locs ls hP hS hl
  exact lv_dup2_11 hx hb hd (by rw [cV_cat]; exact hc) (by rw [cV_cat]; exact hc2) (k hN H locs ls hP hS hl)
theorem v_pop {X : VX} {cc : ByteArray} {own : String} {d pc : Nat} {lo : List (Option Value)} {st : List Value} {w : PW} {v : Value} (g : VG X cc own d) (hd : decode cc pc = .ok (.pop, 1)) (hc : v.category = 1) (k : V X (pc + 1) lo st w) : V X pc lo (v :: st) w := by
  obtain ⟨p, l, e, R, s, m, args, below, meth, c, D, cI, cJ, ad, N, Z, nL, kc, ks⟩ := X
  obtain ⟨hx, hb, hml, hown, hts, hK, hinj, hR, hC⟩ := g
  intro hN H locs ls hP hS hl
  exact lv_pop hx hb hd (by rw [cV_cat]; exact hc) (k hN H locs ls hP hS hl)
theorem v_goto {X : VX} {cc : ByteArray} {own : String} {d pc : Nat} {lo : List (Option Value)} {st : List Value} {w : PW} {off : Int} (tgt : Nat) (g : VG X cc own d) (hd : decode cc pc = .ok (.goto off, 3)) (ht : (pc : Int) + off = (tgt : Int)) (k : V X tgt lo st w) : V X pc lo st w := by
  obtain ⟨p, l, e, R, s, m, args, below, meth, c, D, cI, cJ, ad, N, Z, nL, kc, ks⟩ := X
  obtain ⟨hx, hb, hml, hown, hts, hK, hinj, hR, hC⟩ := g
  intro hN H locs ls hP hS hl
  exact lv_goto hx hb hd ht (k hN H locs ls hP hS hl)
theorem v_if_eq {X : VX} {cc : ByteArray} {own : String} {d pc : Nat} {lo : List (Option Value)} {st : List Value} {w : PW} {x : Int32} {off : Int} (tgt : Nat) (g : VG X cc own d) (hd : decode cc pc = .ok (.ifCond .eq off, 3)) (ht : (pc : Int) + off = (tgt : Int)) (kt : x = 0 → V X tgt lo st w) (kf : ¬ x = 0 → V X (pc + 3) lo st w) : V X pc lo (.int x :: st) w := by
  obtain ⟨p, l, e, R, s, m, args, below, meth, c, D, cI, cJ, ad, N, Z, nL, kc, ks⟩ := X
  obtain ⟨hx, hb, hml, hown, hts, hK, hinj, hR, hC⟩ := g
  intro hN H locs ls hP hS hl
  exact lv_if_eq hx hb hd ht (fun h => kt h hN H locs ls hP hS hl) (fun h => kf h hN H locs ls hP hS hl)
theorem v_icmp_eq {X : VX} {cc : ByteArray} {own : String} {d pc : Nat} {lo : List (Option Value)} {st : List Value} {w : PW} {x y : Int32} {off : Int} (tgt : Nat) (g : VG X cc own d) (hd : decode cc pc = .ok (.if_icmp .eq off, 3)) (ht : (pc : Int) + off = (tgt : Int)) (kt : x = y → V X tgt lo st w) (kf : ¬ x = y → V X (pc + 3) lo st w) : V X pc lo (.int y :: .int x :: st) w := by
  obtain ⟨p, l, e, R, s, m, args, below, meth, c, D, cI, cJ, ad, N, Z, nL, kc, ks⟩ := X
  obtain ⟨hx, hb, hml, hown, hts, hK, hinj, hR, hC⟩ := g
  intro hN H locs ls hP hS hl
  exact lv_icmp_eq hx hb hd ht (fun h => kt h hN H locs ls hP hS hl) (fun h => kf h hN H locs ls hP hS hl)
theorem v_if_ne {X : VX} {cc : ByteArray} {own : String} {d pc : Nat} {lo : List (Option Value)} {st : List Value} {w : PW} {x : Int32} {off : Int} (tgt : Nat) (g : VG X cc own d) (hd : decode cc pc = .ok (.ifCond .ne off, 3)) (ht : (pc : Int) + off = (tgt : Int)) (kt : ¬ x = 0 → V X tgt lo st w) (kf : x = 0 → V X (pc + 3) lo st w) : V X pc lo (.int x :: st) w := by
  obtain ⟨p, l, e, R, s, m, args, below, meth, c, D, cI, cJ, ad, N, Z, nL, kc, ks⟩ := X
  obtain ⟨hx, hb, hml, hown, hts, hK, hinj, hR, hC⟩ := g
  intro hN H locs ls hP hS hl
  exact lv_if_ne hx hb hd ht (fun h => kt h hN H locs ls hP hS hl) (fun h => kf h hN H locs ls hP hS hl)
theorem v_icmp_ne {X : VX} {cc : ByteArray} {own : String} {d pc : Nat} {lo : List (Option Value)} {st : List Value} {w : PW} {x y : Int32} {off : Int} (tgt : Nat) (g : VG X cc own d) (hd : decode cc pc = .ok (.if_icmp .ne off, 3)) (ht : (pc : Int) + off = (tgt : Int)) (kt : ¬ x = y → V X tgt lo st w) (kf : x = y → V X (pc + 3) lo st w) : V X pc lo (.int y :: .int x :: st) w := by
  obtain ⟨p, l, e, R, s, m, args, below, meth, c, D, cI, cJ, ad, N, Z, nL, kc, ks⟩ := X
  obtain ⟨hx, hb, hml, hown, hts, hK, hinj, hR, hC⟩ := g
  intro hN H locs ls hP hS hl
  exact lv_icmp_ne hx hb hd ht (fun h => kt h hN H locs ls hP hS hl) (fun h => kf h hN H locs ls hP hS hl)
theorem v_if_lt {X : VX} {cc : ByteArray} {own : String} {d pc : Nat} {lo : List (Option Value)} {st : List Value} {w : PW} {x : Int32} {off : Int} (tgt : Nat) (g : VG X cc own d) (hd : decode cc pc = .ok (.ifCond .lt off, 3)) (ht : (pc : Int) + off = (tgt : Int)) (kt : x < 0 → V X tgt lo st w) (kf : ¬ x < 0 → V X (pc + 3) lo st w) : V X pc lo (.int x :: st) w := by
  obtain ⟨p, l, e, R, s, m, args, below, meth, c, D, cI, cJ, ad, N, Z, nL, kc, ks⟩ := X
  obtain ⟨hx, hb, hml, hown, hts, hK, hinj, hR, hC⟩ := g
  intro hN H locs ls hP hS hl
  exact lv_if_lt hx hb hd ht (fun h => kt h hN H locs ls hP hS hl) (fun h => kf h hN H locs ls hP hS hl)
theorem v_icmp_lt {X : VX} {cc : ByteArray} {own : String} {d pc : Nat} {lo : List (Option Value)} {st : List Value} {w : PW} {x y : Int32} {off : Int} (tgt : Nat) (g : VG X cc own d) (hd : decode cc pc = .ok (.if_icmp .lt off, 3)) (ht : (pc : Int) + off = (tgt : Int)) (kt : x < y → V X tgt lo st w) (kf : ¬ x < y → V X (pc + 3) lo st w) : V X pc lo (.int y :: .int x :: st) w := by
  obtain ⟨p, l, e, R, s, m, args, below, meth, c, D, cI, cJ, ad, N, Z, nL, kc, ks⟩ := X
  obtain ⟨hx, hb, hml, hown, hts, hK, hinj, hR, hC⟩ := g
  intro hN H locs ls hP hS hl
  exact lv_icmp_lt hx hb hd ht (fun h => kt h hN H locs ls hP hS hl) (fun h => kf h hN H locs ls hP hS hl)
theorem v_if_ge {X : VX} {cc : ByteArray} {own : String} {d pc : Nat} {lo : List (Option Value)} {st : List Value} {w : PW} {x : Int32} {off : Int} (tgt : Nat) (g : VG X cc own d) (hd : decode cc pc = .ok (.ifCond .ge off, 3)) (ht : (pc : Int) + off = (tgt : Int)) (kt : 0 ≤ x → V X tgt lo st w) (kf : ¬ 0 ≤ x → V X (pc + 3) lo st w) : V X pc lo (.int x :: st) w := by
  obtain ⟨p, l, e, R, s, m, args, below, meth, c, D, cI, cJ, ad, N, Z, nL, kc, ks⟩ := X
  obtain ⟨hx, hb, hml, hown, hts, hK, hinj, hR, hC⟩ := g
  intro hN H locs ls hP hS hl
  exact lv_if_ge hx hb hd ht (fun h => kt h hN H locs ls hP hS hl) (fun h => kf h hN H locs ls hP hS hl)
theorem v_icmp_ge {X : VX} {cc : ByteArray} {own : String} {d pc : Nat} {lo : List (Option Value)} {st : List Value} {w : PW} {x y : Int32} {off : Int} (tgt : Nat) (g : VG X cc own d) (hd : decode cc pc = .ok (.if_icmp .ge off, 3)) (ht : (pc : Int) + off = (tgt : Int)) (kt : y ≤ x → V X tgt lo st w) (kf : ¬ y ≤ x → V X (pc + 3) lo st w) : V X pc lo (.int y :: .int x :: st) w := by
  obtain ⟨p, l, e, R, s, m, args, below, meth, c, D, cI, cJ, ad, N, Z, nL, kc, ks⟩ := X
  obtain ⟨hx, hb, hml, hown, hts, hK, hinj, hR, hC⟩ := g
  intro hN H locs ls hP hS hl
  exact lv_icmp_ge hx hb hd ht (fun h => kt h hN H locs ls hP hS hl) (fun h => kf h hN H locs ls hP hS hl)
theorem v_if_gt {X : VX} {cc : ByteArray} {own : String} {d pc : Nat} {lo : List (Option Value)} {st : List Value} {w : PW} {x : Int32} {off : Int} (tgt : Nat) (g : VG X cc own d) (hd : decode cc pc = .ok (.ifCond .gt off, 3)) (ht : (pc : Int) + off = (tgt : Int)) (kt : 0 < x → V X tgt lo st w) (kf : ¬ 0 < x → V X (pc + 3) lo st w) : V X pc lo (.int x :: st) w := by
  obtain ⟨p, l, e, R, s, m, args, below, meth, c, D, cI, cJ, ad, N, Z, nL, kc, ks⟩ := X
  obtain ⟨hx, hb, hml, hown, hts, hK, hinj, hR, hC⟩ := g
  intro hN H locs ls hP hS hl
  exact lv_if_gt hx hb hd ht (fun h => kt h hN H locs ls hP hS hl) (fun h => kf h hN H locs ls hP hS hl)
theorem v_icmp_gt {X : VX} {cc : ByteArray} {own : String} {d pc : Nat} {lo : List (Option Value)} {st : List Value} {w : PW} {x y : Int32} {off : Int} (tgt : Nat) (g : VG X cc own d) (hd : decode cc pc = .ok (.if_icmp .gt off, 3)) (ht : (pc : Int) + off = (tgt : Int)) (kt : y < x → V X tgt lo st w) (kf : ¬ y < x → V X (pc + 3) lo st w) : V X pc lo (.int y :: .int x :: st) w := by
  obtain ⟨p, l, e, R, s, m, args, below, meth, c, D, cI, cJ, ad, N, Z, nL, kc, ks⟩ := X
  obtain ⟨hx, hb, hml, hown, hts, hK, hinj, hR, hC⟩ := g
  intro hN H locs ls hP hS hl
  exact lv_icmp_gt hx hb hd ht (fun h => kt h hN H locs ls hP hS hl) (fun h => kf h hN H locs ls hP hS hl)
theorem v_if_le {X : VX} {cc : ByteArray} {own : String} {d pc : Nat} {lo : List (Option Value)} {st : List Value} {w : PW} {x : Int32} {off : Int} (tgt : Nat) (g : VG X cc own d) (hd : decode cc pc = .ok (.ifCond .le off, 3)) (ht : (pc : Int) + off = (tgt : Int)) (kt : x ≤ 0 → V X tgt lo st w) (kf : ¬ x ≤ 0 → V X (pc + 3) lo st w) : V X pc lo (.int x :: st) w := by
  obtain ⟨p, l, e, R, s, m, args, below, meth, c, D, cI, cJ, ad, N, Z, nL, kc, ks⟩ := X
  obtain ⟨hx, hb, hml, hown, hts, hK, hinj, hR, hC⟩ := g
  intro hN H locs ls hP hS hl
  exact lv_if_le hx hb hd ht (fun h => kt h hN H locs ls hP hS hl) (fun h => kf h hN H locs ls hP hS hl)
theorem v_icmp_le {X : VX} {cc : ByteArray} {own : String} {d pc : Nat} {lo : List (Option Value)} {st : List Value} {w : PW} {x y : Int32} {off : Int} (tgt : Nat) (g : VG X cc own d) (hd : decode cc pc = .ok (.if_icmp .le off, 3)) (ht : (pc : Int) + off = (tgt : Int)) (kt : x ≤ y → V X tgt lo st w) (kf : ¬ x ≤ y → V X (pc + 3) lo st w) : V X pc lo (.int y :: .int x :: st) w := by
  obtain ⟨p, l, e, R, s, m, args, below, meth, c, D, cI, cJ, ad, N, Z, nL, kc, ks⟩ := X
  obtain ⟨hx, hb, hml, hown, hts, hK, hinj, hR, hC⟩ := g
  intro hN H locs ls hP hS hl
  exact lv_icmp_le hx hb hd ht (fun h => kt h hN H locs ls hP hS hl) (fun h => kf h hN H locs ls hP hS hl)
theorem v_tin {X : VX} {cc : ByteArray} {own : String} {d pc : Nat} {lo : List (Option Value)} {st : List Value} {w : PW} {x : Int32} {dflt lw hi : Int} {offs : Array Int} {len : Nat} {off : Int} (z : Int) (tgt : Nat) (g : VG X cc own d) (hd : decode cc pc = .ok (.tableswitch dflt lw hi offs, len)) (hz : x.toInt = z) (h1 : lw ≤ z) (h2 : z ≤ hi) (ho : offs[(z - lw).toNat]? = some off) (ht : (pc : Int) + off = (tgt : Int)) (k : V X tgt lo st w) : V X pc lo (.int x :: st) w := by
  obtain ⟨p, l, e, R, s, m, args, below, meth, c, D, cI, cJ, ad, N, Z, nL, kc, ks⟩ := X
  obtain ⟨hx, hb, hml, hown, hts, hK, hinj, hR, hC⟩ := g
  intro hN H locs ls hP hS hl
  exact lv_tableIn hx hb hd (by omega) (by omega) (by rw [hz]; exact ho) ht (k hN H locs ls hP hS hl)
theorem v_tout {X : VX} {cc : ByteArray} {own : String} {d pc : Nat} {lo : List (Option Value)} {st : List Value} {w : PW} {x : Int32} {dflt lw hi : Int} {offs : Array Int} {len : Nat} (tgt : Nat) (g : VG X cc own d) (hd : decode cc pc = .ok (.tableswitch dflt lw hi offs, len)) (hz : x.toInt < lw ∨ hi < x.toInt) (ht : (pc : Int) + dflt = (tgt : Int)) (k : V X tgt lo st w) : V X pc lo (.int x :: st) w := by
  obtain ⟨p, l, e, R, s, m, args, below, meth, c, D, cI, cJ, ad, N, Z, nL, kc, ks⟩ := X
  obtain ⟨hx, hb, hml, hown, hts, hK, hinj, hR, hC⟩ := g
  intro hN H locs ls hP hS hl
  exact lv_tableOut hx hb hd hz ht (k hN H locs ls hP hS hl)
theorem v_lk {X : VX} {cc : ByteArray} {own : String} {d pc : Nat} {lo : List (Option Value)} {st : List Value} {w : PW} {x : Int32} {dflt : Int} {ps0 : Array (Int × Int)} {len : Nat} {off : Int} (tgt : Nat) (g : VG X cc own d) (hd : decode cc pc = .ok (.lookupswitch dflt ps0, len)) (hp : (ps0.toList.zip (ps0.toList.drop 1)).all (fun (a, next) => a.1 < next.1) = true) (ho : Op.lookupswitch.offset ps0.toList dflt x.toInt = off) (ht : (pc : Int) + off = (tgt : Int)) (k : V X tgt lo st w) : V X pc lo (.int x :: st) w := by
  obtain ⟨p, l, e, R, s, m, args, below, meth, c, D, cI, cJ, ad, N, Z, nL, kc, ks⟩ := X
  obtain ⟨hx, hb, hml, hown, hts, hK, hinj, hR, hC⟩ := g
  intro hN H locs ls hP hS hl
  exact lv_lookup hx hb hd hp ho ht (k hN H locs ls hP hS hl)
theorem v_iald {X : VX} {cc : ByteArray} {own : String} {d pc : Nat} {lo : List (Option Value)} {st : List Value} {w : PW} {n a : Nat} {f : Nat → Int32} {i : Int32} (g : VG X cc own d) (hd : decode cc pc = .ok (.iaload, 1)) (hw : pg w a = some (.inl (n, .inl f))) (hi : vp_in i n) (k : V X (pc + 1) lo (.int (f i.toNatClampNeg) :: st) w) : V X pc lo (.int i :: .ref a :: st) w := by
  obtain ⟨p, l, e, R, s, m, args, below, meth, c, D, cI, cJ, ad, N, Z, nL, kc, ks⟩ := X
  obtain ⟨hx, hb, hml, hown, hts, hK, hinj, hR, hC⟩ := g
  intro hN H locs ls hP hS hl
  exact va_iald hx hb hK.1 hP a 0 (cW_at hw) rfl hi hd (k hN H locs ls hP hS hl)
theorem v_lald {X : VX} {cc : ByteArray} {own : String} {d pc : Nat} {lo : List (Option Value)} {st : List Value} {w : PW} {n a : Nat} {f : Nat → Int64} {i : Int32} (g : VG X cc own d) (hd : decode cc pc = .ok (.laload, 1)) (hw : pg w a = some (.inl (n, .inr (.inl f)))) (hi : vp_in i n) (k : V X (pc + 1) lo (.long (f i.toNatClampNeg) :: st) w) : V X pc lo (.int i :: .ref a :: st) w := by
  obtain ⟨p, l, e, R, s, m, args, below, meth, c, D, cI, cJ, ad, N, Z, nL, kc, ks⟩ := X
  obtain ⟨hx, hb, hml, hown, hts, hK, hinj, hR, hC⟩ := g
  intro hN H locs ls hP hS hl
  exact va_lald hx hb hK.1 hP a 1 (cW_at hw) rfl hi hd (k hN H locs ls hP hS hl)
theorem v_iast {X : VX} {cc : ByteArray} {own : String} {d pc : Nat} {lo : List (Option Value)} {st : List Value} {w : PW} {n a : Nat} {f : Nat → Int32} {i x : Int32} (w2 : PW) (g : VG X cc own d) (hd : decode cc pc = .ok (.iastore, 1)) (hw : pg w a = some (.inl (n, .inl f))) (hi : vp_in i n) (h2 : ps w a (.inl (n, .inl (upd f i.toNatClampNeg x))) = w2) (k : V X (pc + 1) lo st w2) : V X pc lo (.int x :: .int i :: .ref a :: st) w := by
  obtain ⟨p, l, e, R, s, m, args, below, meth, c, D, cI, cJ, ad, N, Z, nL, kc, ks⟩ := X
  obtain ⟨hx, hb, hml, hown, hts, hK, hinj, hR, hC⟩ := g
  intro hN H locs ls hP hS hl
  subst h2
  refine va_iast hx hb hK.1 hP (vD hinj hN) hS a 0 (cW_at hw) rfl hi hd (fun H1 locs1 hP1 hD1 hS1 => k (by rw [ps_len]; exact hN) H1 locs1 ls ?_ hS1 hl)
  rw [cWf_set, Nat.zero_add]
  exact hP1
theorem v_last {X : VX} {cc : ByteArray} {own : String} {d pc : Nat} {lo : List (Option Value)} {st : List Value} {w : PW} {n a : Nat} {f : Nat → Int64} {i : Int32} {x : Int64} (w2 : PW) (g : VG X cc own d) (hd : decode cc pc = .ok (.lastore, 1)) (hw : pg w a = some (.inl (n, .inr (.inl f)))) (hi : vp_in i n) (h2 : ps w a (.inl (n, .inr (.inl (vp_updL f i.toNatClampNeg x)))) = w2) (k : V X (pc + 1) lo st w2) : V X pc lo (.long x :: .int i :: .ref a :: st) w := by
  obtain ⟨p, l, e, R, s, m, args, below, meth, c, D, cI, cJ, ad, N, Z, nL, kc, ks⟩ := X
  obtain ⟨hx, hb, hml, hown, hts, hK, hinj, hR, hC⟩ := g
  intro hN H locs ls hP hS hl
  subst h2
  refine va_last hx hb hK.1 hP (vD hinj hN) hS a 1 (cW_at hw) rfl hi hd (fun H1 locs1 hP1 hD1 hS1 => k (by rw [ps_len]; exact hN) H1 locs1 ls ?_ hS1 hl)
  rw [cWf_set, Nat.zero_add]
  exact hP1
theorem v_get {X : VX} {cc : ByteArray} {own : String} {d pc : Nat} {lo : List (Option Value)} {st : List Value} {w : PW} {idx ci j a : Nat} {fs : List Value} {v : Value} (g : VG X cc own d) (hd : decode cc pc = .ok (.getfield idx, 3)) (hF : FL own idx ci j) (hw : pg w a = some (.inr (ci, fs))) (hf : pg fs j = some v) (k : V X (pc + 3) lo (v :: st) w) : V X pc lo (.ref a :: st) w := by
  obtain ⟨p, l, e, R, s, m, args, below, meth, c, D, cI, cJ, ad, N, Z, nL, kc, ks⟩ := X
  obtain ⟨hx, hb, hml, hown, hts, hK, hinj, hR, hC⟩ := g
  intro hN H locs ls hP hS hl
  obtain ⟨C, T, N0, ty, ⟨c1, c2, c3, c4⟩, hj, hT, hlk⟩ := hF
  refine va_get (D := D) (ci := ci) (v := cV ad v) (C := C) (T := T) (N := N0) (ref := C) hx hb hts c2 hown hK.1 hP a (cW_at hw) c1 j hj (hts _ hlk) (by rw [hT]; exact fun _ h => h) ?_ hd (k hN H locs ls hP hS hl)
  rw [List.getElem?_map, ← pg_eq, hf]; rfl
theorem v_put {X : VX} {cc : ByteArray} {own : String} {d pc : Nat} {lo : List (Option Value)} {st : List Value} {w : PW} {idx ci j a : Nat} {fs : List Value} {v : Value} {ty : FieldType} (w2 : PW) (g : VG X cc own d) (hd : decode cc pc = .ok (.putfield idx, 3)) (hF : FP own idx ci j ty) (hw : pg w a = some (.inr (ci, fs))) (hf : j < fs.length) (hn : narrow ty v = v) (hfit : fits ty v = true) (hr : cK v = true) (h2 : ps w a (.inr (ci, ps fs j v)) = w2) (k : V X (pc + 3) lo st w2) : V X pc lo (v :: .ref a :: st) w := by
  obtain ⟨p, l, e, R, s, m, args, below, meth, c, D, cI, cJ, ad, N, Z, nL, kc, ks⟩ := X
  obtain ⟨hx, hb, hml, hown, hts, hK, hinj, hR, hC⟩ := g
  intro hN H locs ls hP hS hl
  subst h2
  obtain ⟨C, T, N0, ty0, ⟨c1, c2, c3, c4⟩, hj, hT, hlk, hfin, hty⟩ := hF
  have hvv : cV ad v = v := cK_cV hr
  refine va_put (D := D) (ci := ci) (v := cV ad v) (ty := ty) (C := C) (T := T) (N := N0) (ref := C) hx hb hts c2 ty0 c3 c4 hown hK.1 hP (vD hinj hN) hS a (cW_at hw) c1 j hj (hts _ hlk) (by rw [hT]; exact fun _ h => h) hfin hty (by rw [hvv]; exact hn) (by rw [hvv]; exact hfit) (by rw [List.length_map]; exact hf) hd (fun H1 locs1 hP1 hD1 hS1 => k (by rw [ps_len]; exact hN) H1 locs1 ls ?_ hS1 hl)
  rw [cWf_set, Nat.zero_add]
  show va_P D vwCl ((cWf cI cJ ad 0 w).set a (ad a, .inr (ci, (ps fs j v).map (cV ad)))) H1
  rw [ps_eq, List.map_set]
  exact hP1
theorem v_max {X : VX} {cc : ByteArray} {own : String} {d pc : Nat} {lo : List (Option Value)} {st : List Value} {w : PW} {x y : Int32} {idx : Nat} (g : VG X cc own d) (hd : decode cc pc = .ok (.invokestatic idx, 3)) (hM : Cond.methodLink own idx Lib.Math.max.name ∈ tbG) (h0 : 1 ≤ d) (hW : (st.map fun v => v.category).sum ≤ 8) (k : V X (pc + 3) lo (.int (if x < y then y else x) :: st) w) : V X pc lo (.int y :: .int x :: st) w := by
  obtain ⟨p, l, e, R, s, m, args, below, meth, c, D, cI, cJ, ad, N, Z, nL, kc, ks⟩ := X
  obtain ⟨hx, hb, hml, hown, hts, hK, hinj, hR, hC⟩ := g
  intro hN H locs ls hP hS hl
  have hR1 : 38 ≤ R.locals := by omega
  refine va_mmax hx hb (by rw [hml]; exact hl.1.symm) hown (hts _ hM) (hts _ wm_max.1) (hts _ wm_ini) (hts _ wm_max.2) (by omega) ?_ hC.1 hC.2 hd (k hN H locs ls hP hS hl)
  rw [cV_sum]; omega
theorem v_min {X : VX} {cc : ByteArray} {own : String} {d pc : Nat} {lo : List (Option Value)} {st : List Value} {w : PW} {x y : Int32} {idx : Nat} (g : VG X cc own d) (hd : decode cc pc = .ok (.invokestatic idx, 3)) (hM : Cond.methodLink own idx Lib.Math.min.name ∈ tbG) (h0 : 1 ≤ d) (hW : (st.map fun v => v.category).sum ≤ 8) (k : V X (pc + 3) lo (.int (if y < x then y else x) :: st) w) : V X pc lo (.int y :: .int x :: st) w := by
  obtain ⟨p, l, e, R, s, m, args, below, meth, c, D, cI, cJ, ad, N, Z, nL, kc, ks⟩ := X
  obtain ⟨hx, hb, hml, hown, hts, hK, hinj, hR, hC⟩ := g
  intro hN H locs ls hP hS hl
  have hR1 : 38 ≤ R.locals := by omega
  refine va_mmin hx hb (by rw [hml]; exact hl.1.symm) hown (hts _ hM) (hts _ wm_min.1) (hts _ wm_ini) (hts _ wm_min.2) (by omega) ?_ hC.1 hC.2 hd (k hN H locs ls hP hS hl)
  rw [cV_sum]; omega
theorem v_abs {X : VX} {cc : ByteArray} {own : String} {d pc : Nat} {lo : List (Option Value)} {st : List Value} {w : PW} {x : Int32} {idx : Nat} (g : VG X cc own d) (hd : decode cc pc = .ok (.invokestatic idx, 3)) (hM : Cond.methodLink own idx Lib.Math.abs.name ∈ tbG) (h0 : 1 ≤ d) (hW : (st.map fun v => v.category).sum ≤ 8) (k : V X (pc + 3) lo (.int (if 0 ≤ x then x else 0 - x) :: st) w) : V X pc lo (.int x :: st) w := by
  obtain ⟨p, l, e, R, s, m, args, below, meth, c, D, cI, cJ, ad, N, Z, nL, kc, ks⟩ := X
  obtain ⟨hx, hb, hml, hown, hts, hK, hinj, hR, hC⟩ := g
  intro hN H locs ls hP hS hl
  have hR1 : 38 ≤ R.locals := by omega
  refine va_mabs hx hb (by rw [hml]; exact hl.1.symm) hown (hts _ hM) (hts _ wm_abs.1) (hts _ wm_ini) (hts _ wm_abs.2) (by omega) ?_ hC.1 hC.2 hd (k hN H locs ls hP hS hl)
  rw [cV_sum]; omega
theorem v_iret {X : VX} {cc : ByteArray} {own : String} {d pc : Nat} {lo : List (Option Value)} {w : PW} {Q : Option Value → PW → Prop} {v : Int32} (g : VG X cc own d) (r : VR X (some .int) Q) (hd : decode cc pc = .ok (.ireturn, 1)) (hq : Q (some (.int v)) w) : V X pc lo [.int v] w := by
  obtain ⟨p, l, e, R, s, m, args, below, meth, c, D, cI, cJ, ad, N, Z, nL, kc, ks⟩ := X
  obtain ⟨hx, hb, hml, hown, hts, hK, hinj, hR, hC⟩ := g
  obtain ⟨hr, hlocks, rfl⟩ := r
  intro hN H locs ls hP hS hl
  exact W.iret (v := v) hx hb hr (fun t ht hW => ⟨⟨some (.int v), w, rfl, hq, hN, by rw [ht]; exact hP⟩, hS.F ht⟩) hS.2.2 hd hlocks
theorem v_zret {X : VX} {cc : ByteArray} {own : String} {d pc : Nat} {lo : List (Option Value)} {w : PW} {Q : Option Value → PW → Prop} {v : Int32} {ty : FieldType} (g : VG X cc own d) (r : VR X (some ty) Q) (hd : decode cc pc = .ok (.ireturn, 1)) (hn : narrow ty (.int v) = .int v) (hq : Q (some (.int v)) w) : V X pc lo [.int v] w := by
  obtain ⟨p, l, e, R, s, m, args, below, meth, c, D, cI, cJ, ad, N, Z, nL, kc, ks⟩ := X
  obtain ⟨hx, hb, hml, hown, hts, hK, hinj, hR, hC⟩ := g
  obtain ⟨hr, hlocks, rfl⟩ := r
  intro hN H locs ls hP hS hl
  exact W.zret (v := v) hx hb hr hn (fun t ht hW => ⟨⟨some (.int v), w, rfl, hq, hN, by rw [ht]; exact hP⟩, hS.F ht⟩) hS.2.2 hd hlocks
theorem v_lret {X : VX} {cc : ByteArray} {own : String} {d pc : Nat} {lo : List (Option Value)} {w : PW} {Q : Option Value → PW → Prop} {v : Int64} (g : VG X cc own d) (r : VR X (some .long) Q) (hd : decode cc pc = .ok (.lreturn, 1)) (hq : Q (some (.long v)) w) : V X pc lo [.long v] w := by
  obtain ⟨p, l, e, R, s, m, args, below, meth, c, D, cI, cJ, ad, N, Z, nL, kc, ks⟩ := X
  obtain ⟨hx, hb, hml, hown, hts, hK, hinj, hR, hC⟩ := g
  obtain ⟨hr, hlocks, rfl⟩ := r
  intro hN H locs ls hP hS hl
  exact W.lret (v := v) hx hb hr (fun t ht hW => ⟨⟨some (.long v), w, rfl, hq, hN, by rw [ht]; exact hP⟩, hS.F ht⟩) hS.2.2 hd hlocks
theorem v_vret {X : VX} {cc : ByteArray} {own : String} {d pc : Nat} {lo : List (Option Value)} {w : PW} {Q : Option Value → PW → Prop}  (g : VG X cc own d) (r : VR X none Q) (hd : decode cc pc = .ok (.return_, 1)) (hq : Q none w) : V X pc lo [] w := by
  obtain ⟨p, l, e, R, s, m, args, below, meth, c, D, cI, cJ, ad, N, Z, nL, kc, ks⟩ := X
  obtain ⟨hx, hb, hml, hown, hts, hK, hinj, hR, hC⟩ := g
  obtain ⟨hr, hlocks, rfl⟩ := r
  intro hN H locs ls hP hS hl
  exact W.vret hx hb hr (fun t ht hW => ⟨⟨none, w, rfl, hq, hN, by rw [ht]; exact hP⟩, hS.F ht⟩) hS.2.2 hd hlocks
theorem v_aret {X : VX} {cc : ByteArray} {own : String} {d pc : Nat} {lo : List (Option Value)} {w : PW} {Q : Option Value → PW → Prop} {a : Nat} {rt : FieldType} (g : VG X cc own d) (r : VR X (some rt) Q) (hd : decode cc pc = .ok (.areturn, 1)) (hrt : (∃ n, rt = .object n) ∨ ∃ t, rt = .array t) (hq : Q (some (.ref a)) w) : V X pc lo [.ref a] w := by
  obtain ⟨p, l, e, R, s, m, args, below, meth, c, D, cI, cJ, ad, N, Z, nL, kc, ks⟩ := X
  obtain ⟨hx, hb, hml, hown, hts, hK, hinj, hR, hC⟩ := g
  obtain ⟨hr, hlocks, rfl⟩ := r
  intro hN H locs ls hP hS hl
  exact W.aret (v := .ref (ad a)) hx hb hr hrt (Or.inr ⟨_, rfl⟩) (fun t ht hW => ⟨⟨some (.ref a), w, rfl, hq, hN, by rw [ht]; exact hP⟩, hS.F ht⟩) hS.2.2 hd hlocks
