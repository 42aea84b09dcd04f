/-! ===== THE REFERENCE: its cells, its row ===== -/
def mW (r : Nat → Int32) (fo : (Nat → Int32)) (of : Int32) (tr : (Nat → Int32)) (b1 : (Nat → Int32)) (ta : (Nat → Int32)) (tm : Nat) (so : Int32) (be : Int32) (te : Int32) (wo : Int64) (va : Int32) (gd : Int32) (bi : (Nat → Int32)) (si : (Nat → Int32)) (sh : (Nat → Int64)) (le : (Nat → Int64)) (im : (Nat → Int32)) (bf : (Nat → Int32)) (kp : Int32) : PW := [.inr (5, [.ref 1, .ref 2, .int of, .ref 3, .ref 4, .ref 5, .int (nI tm), .int so, .int be, .int te, .long wo, .int va, .int gd, .ref 6, .ref 7, .ref 8, .ref 9, .ref 10, .ref 11, .int kp]), .inl (87, .inl r), .inl (7, .inl fo), .inl (87, .inl tr), .inl (87, .inl b1), .inl (120, .inl ta), .inl (4, .inl bi), .inl (4, .inl si), .inl (160, .inr (.inl sh)), .inl (40, .inr (.inl le)), .inl (87, .inl im), .inl (87, .inl bf)]
def sel3 {α : Type} (k : Nat) (a b c : α) : α := if k = 0 then a else if k = 1 then b else c
def sel6 {α : Type} (k : Nat) (a b c d e f : α) : α := if k = 0 then a else if k = 1 then b else if k = 2 then c else if k = 3 then d else if k = 4 then e else f
/-- the row in which a street lies -/
def rowOf (s : St) : Nat → Int32 := fun j => if j < 3 then sel3 j (sMi s) (sDr s) (nI (sN s)) else if j < 39 then sel3 ((j - 3) % 3) (sLa s ((j - 3) / 3)) (sBo s ((j - 3) / 3)) (sRe s ((j - 3) / 3)) else sel6 ((j - 39) % 6) (sKi s ((j - 39) / 6)) (sAt s ((j - 39) / 6)) (sFa s ((j - 39) / 6)) (sCo s ((j - 39) / 6)) (sTi s ((j - 39) / 6)) (sGo s ((j - 39) / 6))
theorem row_l (s : St) {j : Nat} (h : j < 3) : rowOf s j = sel3 j (sMi s) (sDr s) (nI (sN s)) := if_pos h
theorem row_h (s : St) {h k : Nat} (hh : h < 12) (hk : k < 3) : rowOf s (3 + 3 * h + k) = sel3 k (sLa s h) (sBo s h) (sRe s h) := by
  unfold rowOf
  rw [if_neg (by omega), if_pos (by omega), show (3 + 3 * h + k - 3) % 3 = k by omega, show (3 + 3 * h + k - 3) / 3 = h by omega]
theorem row_p (s : St) (i : Nat) {k : Nat} (hk : k < 6) : rowOf s (39 + 6 * i + k) = sel6 k (sKi s i) (sAt s i) (sFa s i) (sCo s i) (sTi s i) (sGo s i) := by
  unfold rowOf
  rw [if_neg (by omega), if_neg (by omega), show (39 + 6 * i + k - 39) % 6 = k by omega, show (39 + 6 * i + k - 39) / 6 = i by omega]
theorem row_ext {f g : Nat → Int32} (h1 : ∀ j, j < 3 → f j = g j) (h2 : ∀ a b, a < 12 → b < 3 → f (3 + 3 * a + b) = g (3 + 3 * a + b)) (h3 : ∀ i b, b < 6 → f (39 + 6 * i + b) = g (39 + 6 * i + b)) : f = g := by
  funext j
  rcases Nat.lt_or_ge j 3 with h | h
  · exact h1 j h
  · rcases Nat.lt_or_ge j 39 with q | q
    · have := h2 ((j - 3) / 3) ((j - 3) % 3) (by omega) (by omega)
      rwa [show 3 + 3 * ((j - 3) / 3) + (j - 3) % 3 = j by omega] at this
    · have := h3 ((j - 39) / 6) ((j - 39) % 6) (by omega)
      rwa [show 39 + 6 * ((j - 39) / 6) + (j - 39) % 6 = j by omega] at this
theorem upd_ne {f : Nat → Int32} {k j : Nat} {x : Int32} (h : j ≠ k) : upd f k x j = f j := if_neg h
theorem upd_eq {f : Nat → Int32} {k : Nat} {x : Int32} : upd f k x k = x := if_pos rfl

theorem row_La (s : St) {h : Nat} (hh : h < 12) : rowOf s (3 + 3 * h + 0) = sLa s h := by rw [row_h s hh (by omega)]; rfl
theorem rup_La (s : St) {h : Nat} (hh : h < 12) (v : Int32) : upd (rowOf s) (3 + 3 * h + 0) v = rowOf (pLa s (upd (sLa s) h v)) := by
  refine row_ext (fun j hj => ?_) (fun a b ha hb => ?_) (fun i b hb => ?_)
  · rw [upd_ne (by omega), row_l _ hj, row_l _ hj]; rfl
  · rw [row_h _ ha hb]
    by_cases e : a = h ∧ b = 0
    · obtain ⟨rfl, rfl⟩ := e
      rw [upd_eq]
      exact (upd_eq (f := sLa s)).symm
    · rw [upd_ne (by omega), row_h _ ha hb]
      by_cases eb : b = 0
      · subst eb
        exact (upd_ne (f := sLa s) (by omega)).symm
      · rcases (show b = 0 ∨ b = 1 ∨ b = 2 by omega) with rfl | rfl | rfl <;> first | rfl | exact absurd rfl eb
  · rw [upd_ne (by omega), row_p _ _ hb, row_p _ _ hb]; rfl
theorem row_Bo (s : St) {h : Nat} (hh : h < 12) : rowOf s (3 + 3 * h + 1) = sBo s h := by rw [row_h s hh (by omega)]; rfl
theorem rup_Bo (s : St) {h : Nat} (hh : h < 12) (v : Int32) : upd (rowOf s) (3 + 3 * h + 1) v = rowOf (pBo s (upd (sBo s) h v)) := by
  refine row_ext (fun j hj => ?_) (fun a b ha hb => ?_) (fun i b hb => ?_)
  · rw [upd_ne (by omega), row_l _ hj, row_l _ hj]; rfl
  · rw [row_h _ ha hb]
    by_cases e : a = h ∧ b = 1
    · obtain ⟨rfl, rfl⟩ := e
      rw [upd_eq]
      exact (upd_eq (f := sBo s)).symm
    · rw [upd_ne (by omega), row_h _ ha hb]
      by_cases eb : b = 1
      · subst eb
        exact (upd_ne (f := sBo s) (by omega)).symm
      · rcases (show b = 0 ∨ b = 1 ∨ b = 2 by omega) with rfl | rfl | rfl <;> first | rfl | exact absurd rfl eb
  · rw [upd_ne (by omega), row_p _ _ hb, row_p _ _ hb]; rfl
theorem row_Re (s : St) {h : Nat} (hh : h < 12) : rowOf s (3 + 3 * h + 2) = sRe s h := by rw [row_h s hh (by omega)]; rfl
theorem rup_Re (s : St) {h : Nat} (hh : h < 12) (v : Int32) : upd (rowOf s) (3 + 3 * h + 2) v = rowOf (pRe s (upd (sRe s) h v)) := by
  refine row_ext (fun j hj => ?_) (fun a b ha hb => ?_) (fun i b hb => ?_)
  · rw [upd_ne (by omega), row_l _ hj, row_l _ hj]; rfl
  · rw [row_h _ ha hb]
    by_cases e : a = h ∧ b = 2
    · obtain ⟨rfl, rfl⟩ := e
      rw [upd_eq]
      exact (upd_eq (f := sRe s)).symm
    · rw [upd_ne (by omega), row_h _ ha hb]
      by_cases eb : b = 2
      · subst eb
        exact (upd_ne (f := sRe s) (by omega)).symm
      · rcases (show b = 0 ∨ b = 1 ∨ b = 2 by omega) with rfl | rfl | rfl <;> first | rfl | exact absurd rfl eb
  · rw [upd_ne (by omega), row_p _ _ hb, row_p _ _ hb]; rfl
theorem row_Ki (s : St) (i : Nat) : rowOf s (39 + 6 * i + 0) = sKi s i := by rw [row_p s i (by omega)]; rfl
theorem rup_Ki (s : St) (i : Nat) (v : Int32) : upd (rowOf s) (39 + 6 * i + 0) v = rowOf (pKi s (upd (sKi s) i v)) := by
  refine row_ext (fun j hj => ?_) (fun a b ha hb => ?_) (fun j b hb => ?_)
  · rw [upd_ne (by omega), row_l _ hj, row_l _ hj]; rfl
  · rw [upd_ne (by omega), row_h _ ha hb, row_h _ ha hb]; rfl
  · rw [row_p _ _ hb]
    by_cases e : j = i ∧ b = 0
    · obtain ⟨rfl, rfl⟩ := e
      rw [upd_eq]
      exact (upd_eq (f := sKi s)).symm
    · rw [upd_ne (by omega), row_p _ _ hb]
      by_cases eb : b = 0
      · subst eb
        exact (upd_ne (f := sKi s) (by omega)).symm
      · rcases (show b = 0 ∨ b = 1 ∨ b = 2 ∨ b = 3 ∨ b = 4 ∨ b = 5 by omega) with rfl | rfl | rfl | rfl | rfl | rfl <;> first | rfl | exact absurd rfl eb
theorem row_At (s : St) (i : Nat) : rowOf s (39 + 6 * i + 1) = sAt s i := by rw [row_p s i (by omega)]; rfl
theorem rup_At (s : St) (i : Nat) (v : Int32) : upd (rowOf s) (39 + 6 * i + 1) v = rowOf (pAt s (upd (sAt s) i v)) := by
  refine row_ext (fun j hj => ?_) (fun a b ha hb => ?_) (fun j b hb => ?_)
  · rw [upd_ne (by omega), row_l _ hj, row_l _ hj]; rfl
  · rw [upd_ne (by omega), row_h _ ha hb, row_h _ ha hb]; rfl
  · rw [row_p _ _ hb]
    by_cases e : j = i ∧ b = 1
    · obtain ⟨rfl, rfl⟩ := e
      rw [upd_eq]
      exact (upd_eq (f := sAt s)).symm
    · rw [upd_ne (by omega), row_p _ _ hb]
      by_cases eb : b = 1
      · subst eb
        exact (upd_ne (f := sAt s) (by omega)).symm
      · rcases (show b = 0 ∨ b = 1 ∨ b = 2 ∨ b = 3 ∨ b = 4 ∨ b = 5 by omega) with rfl | rfl | rfl | rfl | rfl | rfl <;> first | rfl | exact absurd rfl eb
theorem row_Fa (s : St) (i : Nat) : rowOf s (39 + 6 * i + 2) = sFa s i := by rw [row_p s i (by omega)]; rfl
theorem rup_Fa (s : St) (i : Nat) (v : Int32) : upd (rowOf s) (39 + 6 * i + 2) v = rowOf (pFa s (upd (sFa s) i v)) := by
  refine row_ext (fun j hj => ?_) (fun a b ha hb => ?_) (fun j b hb => ?_)
  · rw [upd_ne (by omega), row_l _ hj, row_l _ hj]; rfl
  · rw [upd_ne (by omega), row_h _ ha hb, row_h _ ha hb]; rfl
  · rw [row_p _ _ hb]
    by_cases e : j = i ∧ b = 2
    · obtain ⟨rfl, rfl⟩ := e
      rw [upd_eq]
      exact (upd_eq (f := sFa s)).symm
    · rw [upd_ne (by omega), row_p _ _ hb]
      by_cases eb : b = 2
      · subst eb
        exact (upd_ne (f := sFa s) (by omega)).symm
      · rcases (show b = 0 ∨ b = 1 ∨ b = 2 ∨ b = 3 ∨ b = 4 ∨ b = 5 by omega) with rfl | rfl | rfl | rfl | rfl | rfl <;> first | rfl | exact absurd rfl eb
theorem row_Co (s : St) (i : Nat) : rowOf s (39 + 6 * i + 3) = sCo s i := by rw [row_p s i (by omega)]; rfl
theorem rup_Co (s : St) (i : Nat) (v : Int32) : upd (rowOf s) (39 + 6 * i + 3) v = rowOf (pCo s (upd (sCo s) i v)) := by
  refine row_ext (fun j hj => ?_) (fun a b ha hb => ?_) (fun j b hb => ?_)
  · rw [upd_ne (by omega), row_l _ hj, row_l _ hj]; rfl
  · rw [upd_ne (by omega), row_h _ ha hb, row_h _ ha hb]; rfl
  · rw [row_p _ _ hb]
    by_cases e : j = i ∧ b = 3
    · obtain ⟨rfl, rfl⟩ := e
      rw [upd_eq]
      exact (upd_eq (f := sCo s)).symm
    · rw [upd_ne (by omega), row_p _ _ hb]
      by_cases eb : b = 3
      · subst eb
        exact (upd_ne (f := sCo s) (by omega)).symm
      · rcases (show b = 0 ∨ b = 1 ∨ b = 2 ∨ b = 3 ∨ b = 4 ∨ b = 5 by omega) with rfl | rfl | rfl | rfl | rfl | rfl <;> first | rfl | exact absurd rfl eb
theorem row_Ti (s : St) (i : Nat) : rowOf s (39 + 6 * i + 4) = sTi s i := by rw [row_p s i (by omega)]; rfl
theorem rup_Ti (s : St) (i : Nat) (v : Int32) : upd (rowOf s) (39 + 6 * i + 4) v = rowOf (pTi s (upd (sTi s) i v)) := by
  refine row_ext (fun j hj => ?_) (fun a b ha hb => ?_) (fun j b hb => ?_)
  · rw [upd_ne (by omega), row_l _ hj, row_l _ hj]; rfl
  · rw [upd_ne (by omega), row_h _ ha hb, row_h _ ha hb]; rfl
  · rw [row_p _ _ hb]
    by_cases e : j = i ∧ b = 4
    · obtain ⟨rfl, rfl⟩ := e
      rw [upd_eq]
      exact (upd_eq (f := sTi s)).symm
    · rw [upd_ne (by omega), row_p _ _ hb]
      by_cases eb : b = 4
      · subst eb
        exact (upd_ne (f := sTi s) (by omega)).symm
      · rcases (show b = 0 ∨ b = 1 ∨ b = 2 ∨ b = 3 ∨ b = 4 ∨ b = 5 by omega) with rfl | rfl | rfl | rfl | rfl | rfl <;> first | rfl | exact absurd rfl eb
theorem row_Go (s : St) (i : Nat) : rowOf s (39 + 6 * i + 5) = sGo s i := by rw [row_p s i (by omega)]; rfl
theorem rup_Go (s : St) (i : Nat) (v : Int32) : upd (rowOf s) (39 + 6 * i + 5) v = rowOf (pGo s (upd (sGo s) i v)) := by
  refine row_ext (fun j hj => ?_) (fun a b ha hb => ?_) (fun j b hb => ?_)
  · rw [upd_ne (by omega), row_l _ hj, row_l _ hj]; rfl
  · rw [upd_ne (by omega), row_h _ ha hb, row_h _ ha hb]; rfl
  · rw [row_p _ _ hb]
    by_cases e : j = i ∧ b = 5
    · obtain ⟨rfl, rfl⟩ := e
      rw [upd_eq]
      exact (upd_eq (f := sGo s)).symm
    · rw [upd_ne (by omega), row_p _ _ hb]
      by_cases eb : b = 5
      · subst eb
        exact (upd_ne (f := sGo s) (by omega)).symm
      · rcases (show b = 0 ∨ b = 1 ∨ b = 2 ∨ b = 3 ∨ b = 4 ∨ b = 5 by omega) with rfl | rfl | rfl | rfl | rfl | rfl <;> first | rfl | exact absurd rfl eb
theorem row_Mi (s : St) : rowOf s 0 = sMi s := rfl
theorem rup_Mi (s : St) (v : Int32) : upd (rowOf s) 0 (v) = rowOf (pMi s v) := by
  refine row_ext (fun j hj => ?_) (fun a b ha hb => ?_) (fun j b hb => ?_)
  · rw [row_l _ hj]
    by_cases e : j = 0
    · subst e
      rw [upd_eq]; rfl
    · rw [upd_ne e, row_l _ hj]
      rcases (show j = 0 ∨ j = 1 ∨ j = 2 by omega) with rfl | rfl | rfl <;> first | rfl | exact absurd rfl e
  · rw [upd_ne (by omega), row_h _ ha hb, row_h _ ha hb]; rfl
  · rw [upd_ne (by omega), row_p _ _ hb, row_p _ _ hb]; rfl
theorem row_Dr (s : St) : rowOf s 1 = sDr s := rfl
theorem rup_Dr (s : St) (v : Int32) : upd (rowOf s) 1 (v) = rowOf (pDr s v) := by
  refine row_ext (fun j hj => ?_) (fun a b ha hb => ?_) (fun j b hb => ?_)
  · rw [row_l _ hj]
    by_cases e : j = 1
    · subst e
      rw [upd_eq]; rfl
    · rw [upd_ne e, row_l _ hj]
      rcases (show j = 0 ∨ j = 1 ∨ j = 2 by omega) with rfl | rfl | rfl <;> first | rfl | exact absurd rfl e
  · rw [upd_ne (by omega), row_h _ ha hb, row_h _ ha hb]; rfl
  · rw [upd_ne (by omega), row_p _ _ hb, row_p _ _ hb]; rfl
theorem row_N (s : St) : rowOf s 2 = nI (sN s) := rfl
theorem rup_N (s : St) (v : Nat) : upd (rowOf s) 2 (nI v) = rowOf (pN s v) := by
  refine row_ext (fun j hj => ?_) (fun a b ha hb => ?_) (fun j b hb => ?_)
  · rw [row_l _ hj]
    by_cases e : j = 2
    · subst e
      rw [upd_eq]; rfl
    · rw [upd_ne e, row_l _ hj]
      rcases (show j = 0 ∨ j = 1 ∨ j = 2 by omega) with rfl | rfl | rfl <;> first | rfl | exact absurd rfl e
  · rw [upd_ne (by omega), row_h _ ha hb, row_h _ ha hb]; rfl
  · rw [upd_ne (by omega), row_p _ _ hb, row_p _ _ hb]; rfl
