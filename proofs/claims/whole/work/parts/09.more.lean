/-! ===== more rows ===== -/
theorem v_top {X : VX} {pc : Nat} {lo : List (Option Value)} {st : List Value} {w : PW} {x : Int32} (k : ∀ y : Int32, y = x → V X pc lo (.int y :: st) w) : V X pc lo (.int x :: st) w := k x rfl
def mask : List Bool → List (Option Value) → List (Option Value)
  | true :: b, o :: l => o :: mask b l
  | false :: b, _ :: l => none :: mask b l
  | _, _ => []
theorem mask_sub : ∀ (b : List Bool) (l : List (Option Value)), lsub (mask b l) l
  | [], l => by cases l <;> trivial
  | true :: b, [] => trivial
  | false :: b, [] => trivial
  | true :: b, none :: l => mask_sub b l
  | true :: b, some v :: l => ⟨rfl, mask_sub b l⟩
  | false :: b, o :: l => mask_sub b l
theorem v_fg {X : VX} {pc : Nat} {lo : List (Option Value)} {st : List Value} {w : PW} (b : List Bool) (k : V X pc (mask b lo) st w) : V X pc lo st w := v_lo _ (mask_sub b lo) k
/-- a truth as a number -/
def bI (P : Prop) [Decidable P] : Int32 := if P then 1 else 0
theorem bI_1 {P : Prop} [Decidable P] (h : P) : bI P = 1 := if_pos h
theorem bI_0 {P : Prop} [Decidable P] (h : ¬ P) : bI P = 0 := if_neg h
theorem bI_eq0 {P : Prop} [Decidable P] : bI P = 0 ↔ ¬ P := by
  by_cases h : P
  · rw [bI_1 h]; exact ⟨fun z => absurd z (by decide), fun z => absurd h z⟩
  · rw [bI_0 h]; exact ⟨fun _ => h, fun _ => rfl⟩
theorem bI_ne0 {P : Prop} [Decidable P] : ¬ bI P = 0 ↔ P := by rw [bI_eq0]; exact Decidable.not_not
theorem bI_cong {P Q : Prop} [Decidable P] [Decidable Q] (h : P ↔ Q) : bI P = bI Q := by
  by_cases hp : P
  · rw [bI_1 hp, bI_1 (h.mp hp)]
  · rw [bI_0 hp, bI_0 (fun z => hp (h.mpr z))]
theorem v_ifb_eq {X : VX} {cc : ByteArray} {own : String} {d pc : Nat} {lo : List (Option Value)} {st : List Value} {w : PW} {P : Prop} [Decidable P] {off : Int} (tgt : Nat) (g : VG X cc own d) (hd : decode cc pc = .ok (.ifCond .eq off, 3)) (ht : (pc : Int) + off = (tgt : Int)) (kt : ¬ P → V X tgt lo st w) (kf : P → V X (pc + 3) lo st w) : V X pc lo (.int (bI P) :: st) w :=
  v_if_eq tgt g hd ht (fun h => kt (bI_eq0.mp h)) (fun h => kf (bI_ne0.mp h))
theorem v_ifb_ne {X : VX} {cc : ByteArray} {own : String} {d pc : Nat} {lo : List (Option Value)} {st : List Value} {w : PW} {P : Prop} [Decidable P] {off : Int} (tgt : Nat) (g : VG X cc own d) (hd : decode cc pc = .ok (.ifCond .ne off, 3)) (ht : (pc : Int) + off = (tgt : Int)) (kt : P → V X tgt lo st w) (kf : ¬ P → V X (pc + 3) lo st w) : V X pc lo (.int (bI P) :: st) w :=
  v_if_ne tgt g hd ht (fun h => kt (bI_ne0.mp h)) (fun h => kf (bI_eq0.mp h))
theorem v_ialdN {X : VX} {cc : ByteArray} {own : String} {d pc : Nat} {lo : List (Option Value)} {st : List Value} {w : PW} {n a : Nat} {f : Nat → Int32} {i : Int32} (j : Nat) (g : VG X cc own d) (hd : decode cc pc = .ok (.iaload, 1)) (hw : pg w a = some (.inl (n, .inl f))) (hi : i = nI j) (hj : j < n) (hn : n < 1000) (k : V X (pc + 1) lo (.int (f j) :: st) w) : V X pc lo (.int i :: .ref a :: st) w := by
  subst hi
  refine v_iald g hd hw (vp_in_nI hj (by omega)) ?_
  rw [nI_clamp (by omega)]
  exact k
theorem v_laldN {X : VX} {cc : ByteArray} {own : String} {d pc : Nat} {lo : List (Option Value)} {st : List Value} {w : PW} {n a : Nat} {f : Nat → Int64} {i : Int32} (j : Nat) (g : VG X cc own d) (hd : decode cc pc = .ok (.laload, 1)) (hw : pg w a = some (.inl (n, .inr (.inl f)))) (hi : i = nI j) (hj : j < n) (hn : n < 1000) (k : V X (pc + 1) lo (.long (f j) :: st) w) : V X pc lo (.int i :: .ref a :: st) w := by
  subst hi
  refine v_lald g hd hw (vp_in_nI hj (by omega)) ?_
  rw [nI_clamp (by omega)]
  exact k
theorem v_iastN {X : VX} {cc : ByteArray} {own : String} {d pc : Nat} {lo : List (Option Value)} {st : List Value} {w : PW} {n a : Nat} {f : Nat → Int32} {i x : Int32} (j : Nat) (w2 : PW) (g : VG X cc own d) (hd : decode cc pc = .ok (.iastore, 1)) (hw : pg w a = some (.inl (n, .inl f))) (hi : i = nI j) (hj : j < n) (hn : n < 1000) (h2 : ps w a (.inl (n, .inl (upd f j x))) = w2) (k : V X (pc + 1) lo st w2) : V X pc lo (.int x :: .int i :: .ref a :: st) w := by
  subst hi
  exact v_iast w2 g hd hw (vp_in_nI hj (by omega)) (by rw [nI_clamp (by omega)]; exact h2) k
theorem v_lastN {X : VX} {cc : ByteArray} {own : String} {d pc : Nat} {lo : List (Option Value)} {st : List Value} {w : PW} {n a : Nat} {f : Nat → Int64} {i : Int32} {x : Int64} (j : Nat) (w2 : PW) (g : VG X cc own d) (hd : decode cc pc = .ok (.lastore, 1)) (hw : pg w a = some (.inl (n, .inr (.inl f)))) (hi : i = nI j) (hj : j < n) (hn : n < 1000) (h2 : ps w a (.inl (n, .inr (.inl (vp_updL f j x)))) = w2) (k : V X (pc + 1) lo st w2) : V X pc lo (.long x :: .int i :: .ref a :: st) w := by
  subst hi
  exact v_last w2 g hd hw (vp_in_nI hj (by omega)) (by rw [nI_clamp (by omega)]; exact h2) k
theorem v_iincN {X : VX} {cc : ByteArray} {own : String} {d pc : Nat} {lo : List (Option Value)} {st : List Value} {w : PW} {i j : Nat} (g : VG X cc own d) (hd : decode cc pc = .ok (.iinc i 1, 3)) (hv : pg lo i = some (some (.int (nI j)))) (hL : lo.length = nLo X) (k : V X (pc + 3) (s1 lo i (.int (nI (j + 1)))) st w) : V X pc lo st w :=
  v_iinc (nI (j + 1)) _ g hd hv (by rw [nI_succ]; rfl) hL rfl k
theorem v_iincD {X : VX} {cc : ByteArray} {own : String} {d pc : Nat} {lo : List (Option Value)} {st : List Value} {w : PW} {i j : Nat} (g : VG X cc own d) (hd : decode cc pc = .ok (.iinc i (-1), 3)) (hv : pg lo i = some (some (.int (nI (j + 1))))) (hL : lo.length = nLo X) (k : V X (pc + 3) (s1 lo i (.int (nI j))) st w) : V X pc lo st w :=
  v_iinc (nI j) _ g hd hv (pk_m1 j) hL rfl k
/-- worlds whose cells are the same -/
def eqE : PE → PE → Prop
  | .inl (n, .inl f), .inl (m, .inl h) => n = m ∧ ∀ j, j < n → f j = h j
  | .inl (n, .inr (.inl f)), .inl (m, .inr (.inl h)) => n = m ∧ ∀ j, j < n → f j = h j
  | x, y => x = y
theorem eqE_cell {cI cJ : ClassId} {ad : Nat → Nat} {x y : PE} (h : eqE x y) {D : va_G} {q : Nat} {H : Heap} (hx : va_at D vwCl (q, cE cI cJ ad x) H) : va_at D vwCl (q, cE cI cJ ad y) H := by
  match x, y, h with
  | .inl (n, .inl f), .inl (m, .inl g), h =>
    obtain ⟨rfl, h⟩ := h
    have e : vp_cell cI (n, .inl f) = vp_cell cI (n, .inl g) := by
      rw [vp_cell_i, vp_cell_i]
      unfold arrV
      congr 1
      apply Array.ext
      · simp
      · intro i h1 h2
        simp at h1
        simp [h i h1]
    show H[q]? = some (vp_cell cI (n, .inl g))
    rw [← e]
    exact hx
  | .inl (n, .inr (.inl f)), .inl (m, .inr (.inl g)), h =>
    obtain ⟨rfl, h⟩ := h
    have e : vp_cell cJ (n, .inr (.inl f)) = vp_cell cJ (n, .inr (.inl g)) := by
      rw [vp_cell_l, vp_cell_l]
      unfold arrV
      congr 1
      apply Array.ext
      · simp
      · intro i h1 h2
        simp at h1
        simp [h i h1]
    show H[q]? = some (vp_cell cJ (n, .inr (.inl g)))
    rw [← e]
    exact hx
  | .inl (n, .inl f), .inl (m, .inr g), h => cases h
  | .inl (n, .inr (.inl f)), .inl (m, .inl g), h => cases h
  | .inl (n, .inr (.inl f)), .inl (m, .inr (.inr g)), h => cases h
  | .inl (n, .inr (.inr f)), y, h => simp only [eqE] at h; subst h; exact hx
  | .inl (n, .inl f), .inr y, h => cases h
  | .inl (n, .inr (.inl f)), .inr y, h => cases h
  | .inr o, y, h => simp only [eqE] at h; subst h; exact hx
theorem eqE_refl (x : PE) : eqE x x := by
  match x with
  | .inl (n, .inl f) => exact ⟨rfl, fun _ _ => rfl⟩
  | .inl (n, .inr (.inl f)) => exact ⟨rfl, fun _ _ => rfl⟩
  | .inl (n, .inr (.inr f)) => exact rfl
  | .inr o => exact rfl
/-- one cell said otherwise -/
theorem v_eqc {X : VX} {pc : Nat} {lo : List (Option Value)} {st : List Value} {w : PW} (a : Nat) (y : PE) {x : PE} (w2 : PW) (hx : pg w a = some x) (he : eqE x y) (h2 : ps w a y = w2) (k : V X pc lo st w2) : V X pc lo st w := by
  subst h2
  obtain ⟨p, l, e, R, s, m, args, below, meth, c, D, cI, cJ, ad, N, Z, nL, kc, ks⟩ := X
  intro hN H locs ls hP hS hl
  refine k (by rw [ps_len]; exact hN) H locs ls ?_ hS hl
  intro i q hi
  rw [cWf_get] at hi
  by_cases hia : i = a
  · subst hia
    rw [pg_ps_eq _ (pg_lt hx)] at hi
    cases hi
    have := hP i _ (cW_at hx)
    rw [Nat.zero_add]
    exact eqE_cell he this
  · rw [pg_ps_ne _ hia] at hi
    exact hP i q (by rw [cWf_get]; exact hi)
