/-! ===== THE VIEW: a world by places, a frame by lists; refs are places (from 1000 on: String constants, from 2000 on: their bytes, 3000: the law's script) ===== -/
abbrev PE : Type := vp_A ⊕ (Nat × List Value)
abbrev PW : Type := List PE
def pg {α : Type} : List α → Nat → Option α
  | [], _ => none
  | a :: _, 0 => some a
  | _ :: l, n + 1 => pg l n
def ps {α : Type} : List α → Nat → α → List α
  | [], _, _ => []
  | _ :: l, 0, b => b :: l
  | a :: l, n + 1, b => a :: ps l n b
theorem pg_eq {α : Type} : ∀ (l : List α) (i : Nat), pg l i = l[i]?
  | [], i => by simp [pg]
  | a :: l, 0 => by simp [pg]
  | a :: l, n + 1 => by rw [pg, pg_eq l n, List.getElem?_cons_succ]
theorem ps_eq {α : Type} : ∀ (l : List α) (i : Nat) (b : α), ps l i b = l.set i b
  | [], i, b => by simp [ps]
  | a :: l, 0, b => by simp [ps]
  | a :: l, n + 1, b => by rw [ps, ps_eq l n b, List.set_cons_succ]
def cV (ad : Nat → Nat) (v : Value) : Value := match v with
  | .ref k => .ref (ad k)
  | v => v
def cA (cI cJ : ClassId) (a : vp_A) : ClassId := match a.2 with
  | .inr (.inl _) => cJ
  | _ => cI
def cE (cI cJ : ClassId) (ad : Nat → Nat) (x : PE) : va_E := match x with
  | .inl a => .inl (cA cI cJ a, a)
  | .inr o => .inr (o.1, o.2.map (cV ad))
def cWf (cI cJ : ClassId) (ad : Nat → Nat) : Nat → PW → va_W
  | _, [] => []
  | k, x :: w => (ad k, cE cI cJ ad x) :: cWf cI cJ ad (k + 1) w
theorem cWf_get (cI cJ : ClassId) (ad : Nat → Nat) : ∀ (w : PW) (k i : Nat), (cWf cI cJ ad k w)[i]? = (pg w i).map (fun x => (ad (k + i), cE cI cJ ad x))
  | [], k, i => by simp [cWf, pg]
  | x :: w, k, 0 => by simp [cWf, pg]
  | x :: w, k, i + 1 => by
    rw [cWf, List.getElem?_cons_succ, cWf_get cI cJ ad w (k + 1) i, pg, show k + 1 + i = k + (i + 1) by omega]
theorem cWf_set (cI cJ : ClassId) (ad : Nat → Nat) (x : PE) : ∀ (w : PW) (k i : Nat), cWf cI cJ ad k (ps w i x) = (cWf cI cJ ad k w).set i (ad (k + i), cE cI cJ ad x)
  | [], k, i => by simp [cWf, ps]
  | y :: w, k, 0 => by simp [cWf, ps]
  | y :: w, k, i + 1 => by
    rw [ps, cWf, cWf, List.set_cons_succ, cWf_set cI cJ ad x w (k + 1) i, show k + 1 + i = k + (i + 1) by omega]
theorem cW_at {cI cJ : ClassId} {ad : Nat → Nat} {w : PW} {i : Nat} {x : PE} (h : pg w i = some x) : (cWf cI cJ ad 0 w)[i]? = some (ad i, cE cI cJ ad x) := by
  rw [cWf_get, h]; simp
theorem ps_len {α : Type} (w : List α) (i : Nat) (x : α) : (ps w i x).length = w.length := by rw [ps_eq, List.length_set]
theorem pg_lt {α : Type} {l : List α} {i : Nat} {a : α} (h : pg l i = some a) : i < l.length := by
  rw [pg_eq] at h; exact (List.getElem?_eq_some_iff.mp h).1
theorem pg_some {α : Type} {l : List α} {i : Nat} (h : i < l.length) : ∃ a, pg l i = some a := ⟨l[i], by rw [pg_eq]; exact List.getElem?_eq_getElem h⟩
/-- the locals -/
def cLf (ad : Nat → Nat) : Nat → List (Option Value) → List (Nat × Value)
  | _, [] => []
  | k, none :: l => cLf ad (k + 1) l
  | k, some v :: l => (k, cV ad v) :: cLf ad (k + 1) l
theorem cLf_mem (ad : Nat → Nat) : ∀ (l : List (Option Value)) (k : Nat) (q : Nat × Value), q ∈ cLf ad k l ↔ ∃ (j : Nat) (v : Value), pg l j = some (some v) ∧ q = (k + j, cV ad v)
  | [], k, q => by simp [cLf, pg]
  | none :: l, k, q => by
    rw [cLf, cLf_mem ad l (k + 1) q]
    constructor
    · rintro ⟨j, v, h1, h2⟩
      exact ⟨j + 1, v, h1, by rw [h2]; congr 1; omega⟩
    · rintro ⟨j, v, h1, h2⟩
      cases j with
      | zero => simp [pg] at h1
      | succ j => exact ⟨j, v, h1, by rw [h2]; congr 1; omega⟩
  | some u :: l, k, q => by
    rw [cLf, List.mem_cons, cLf_mem ad l (k + 1) q]
    constructor
    · rintro (h | ⟨j, v, h1, h2⟩)
      · exact ⟨0, u, rfl, h⟩
      · exact ⟨j + 1, v, h1, by rw [h2]; congr 1; omega⟩
    · rintro ⟨j, v, h1, h2⟩
      cases j with
      | zero =>
        simp only [pg, Option.some.injEq] at h1
        subst h1
        exact Or.inl h2
      | succ j => exact Or.inr ⟨j, v, h1, by rw [h2]; congr 1; omega⟩
def kill2 (o : Option Value) : Option Value := match o with
  | some (.long _) => none
  | some (.double _) => none
  | o => o
def s1 : List (Option Value) → Nat → Value → List (Option Value)
  | [], _, _ => []
  | _ :: l, 0, v => some v :: l
  | o :: l, 1, v => kill2 o :: s1 l 0 v
  | o :: l, n + 2, v => o :: s1 l (n + 1) v
def tl0 : List (Option Value) → List (Option Value)
  | [] => []
  | _ :: l => none :: l
def s2 : List (Option Value) → Nat → Value → List (Option Value)
  | [], _, _ => []
  | _ :: l, 0, v => some v :: tl0 l
  | o :: l, 1, v => kill2 o :: s2 l 0 v
  | o :: l, n + 2, v => o :: s2 l (n + 1) v
theorem kill2_some {o : Option Value} {v : Value} (h : kill2 o = some v) : o = some v ∧ ¬ v.category = 2 := by
  cases o with
  | none => simp [kill2] at h
  | some u => cases u <;> simp_all [kill2, Value.category] <;> (subst h; simp [Value.category])
theorem s1_get : ∀ (l : List (Option Value)) (i : Nat) (v : Value) (j : Nat) (u : Value), pg (s1 l i v) j = some (some u) → (j = i ∧ u = v) ∨ (j ≠ i ∧ pg l j = some (some u) ∧ ¬ (j + 1 = i ∧ u.category = 2))
  | [], i, v, j, u, h => by simp [s1, pg] at h
  | o :: l, 0, v, j, u, h => by
    cases j with
    | zero => simp only [s1, pg, Option.some.injEq] at h; exact Or.inl ⟨rfl, h.symm⟩
    | succ j => exact Or.inr ⟨by omega, h, by omega⟩
  | o :: l, 1, v, j, u, h => by
    cases j with
    | zero =>
      simp only [s1, pg, Option.some.injEq] at h
      obtain ⟨h1, h2⟩ := kill2_some h
      exact Or.inr ⟨by omega, by rw [pg, h1], fun q => h2 q.2⟩
    | succ j =>
      rcases s1_get l 0 v j u h with ⟨h1, h2⟩ | ⟨h1, h2, h3⟩
      · exact Or.inl ⟨by omega, h2⟩
      · exact Or.inr ⟨by omega, h2, fun q => h3 ⟨by omega, q.2⟩⟩
  | o :: l, n + 2, v, j, u, h => by
    cases j with
    | zero => exact Or.inr ⟨by omega, h, by omega⟩
    | succ j =>
      rcases s1_get l (n + 1) v j u h with ⟨h1, h2⟩ | ⟨h1, h2, h3⟩
      · exact Or.inl ⟨by omega, h2⟩
      · exact Or.inr ⟨by omega, h2, fun q => h3 ⟨by omega, q.2⟩⟩
theorem s2_get : ∀ (l : List (Option Value)) (i : Nat) (v : Value) (j : Nat) (u : Value), pg (s2 l i v) j = some (some u) → (j = i ∧ u = v) ∨ (j ≠ i ∧ j ≠ i + 1 ∧ pg l j = some (some u) ∧ ¬ (j + 1 = i ∧ u.category = 2))
  | [], i, v, j, u, h => by simp [s2, pg] at h
  | o :: l, 0, v, j, u, h => by
    cases j with
    | zero => simp only [s2, pg, Option.some.injEq] at h; exact Or.inl ⟨rfl, h.symm⟩
    | succ j =>
      cases l with
      | nil => simp [s2, tl0, pg] at h
      | cons o2 l =>
        cases j with
        | zero => simp [s2, tl0, pg] at h
        | succ j => exact Or.inr ⟨by omega, by omega, h, by omega⟩
  | o :: l, 1, v, j, u, h => by
    cases j with
    | zero =>
      simp only [s2, pg, Option.some.injEq] at h
      obtain ⟨h1, h2⟩ := kill2_some h
      exact Or.inr ⟨by omega, by omega, by rw [pg, h1], fun q => h2 q.2⟩
    | succ j =>
      rcases s2_get l 0 v j u h with ⟨h1, h2⟩ | ⟨h1, h1', h2, h3⟩
      · exact Or.inl ⟨by omega, h2⟩
      · exact Or.inr ⟨by omega, by omega, h2, fun q => h3 ⟨by omega, q.2⟩⟩
  | o :: l, n + 2, v, j, u, h => by
    cases j with
    | zero => exact Or.inr ⟨by omega, by omega, h, by omega⟩
    | succ j =>
      rcases s2_get l (n + 1) v j u h with ⟨h1, h2⟩ | ⟨h1, h1', h2, h3⟩
      · exact Or.inl ⟨by omega, h2⟩
      · exact Or.inr ⟨by omega, by omega, h2, fun q => h3 ⟨by omega, q.2⟩⟩
theorem cV_cat (ad : Nat → Nat) (v : Value) : (cV ad v).category = v.category := by cases v <;> rfl
theorem cL_at {ad : Nat → Nat} {ls : Array Slot} {nL : Nat} {lo : List (Option Value)} (h : lv_has ls nL (cLf ad 0 lo)) {i : Nat} {v : Value} (hi : pg lo i = some (some v)) : ls[i]? = some (.val (cV ad v)) := h.2.2 (i, cV ad v) ((cLf_mem ad lo 0 (i, cV ad v)).mpr ⟨i, v, hi, by simp⟩)
theorem cL_s1 {ad : Nat → Nat} {ls : Array Slot} {nL : Nat} {lo : List (Option Value)} {i : Nat} {v : Value} (h : lv_has ls nL ((i, cV ad v) :: (cLf ad 0 lo).filter (fun q => !(q.1 == i) && !(q.1 + 1 == i && q.2.category == 2)))) : lv_has ls nL (cLf ad 0 (s1 lo i v)) := by
  refine ⟨h.1, h.2.1, fun q hq => ?_⟩
  obtain ⟨j, u, h1, rfl⟩ := (cLf_mem ad _ 0 q).mp hq
  refine h.2.2 _ ?_
  rcases s1_get lo i v j u h1 with ⟨rfl, rfl⟩ | ⟨h2, h3, h4⟩
  · simp
  · refine List.mem_cons_of_mem _ (List.mem_filter.mpr ⟨(cLf_mem ad lo 0 _).mpr ⟨j, u, h3, rfl⟩, ?_⟩)
    simp only [Nat.zero_add, cV_cat, Bool.and_eq_true, Bool.not_eq_true', beq_eq_false_iff_ne, Bool.and_eq_false_imp, beq_iff_eq]
    exact ⟨h2, fun q1 q2 => h4 ⟨q1, q2⟩⟩
theorem cL_s2 {ad : Nat → Nat} {ls : Array Slot} {nL : Nat} {lo : List (Option Value)} {i : Nat} {v : Value} (h : lv_has ls nL ((i, cV ad v) :: (cLf ad 0 lo).filter (fun q => !(q.1 == i) && (!(q.1 == i + 1) && !(q.1 + 1 == i && q.2.category == 2))))) : lv_has ls nL (cLf ad 0 (s2 lo i v)) := by
  refine ⟨h.1, h.2.1, fun q hq => ?_⟩
  obtain ⟨j, u, h1, rfl⟩ := (cLf_mem ad _ 0 q).mp hq
  refine h.2.2 _ ?_
  rcases s2_get lo i v j u h1 with ⟨rfl, rfl⟩ | ⟨h2, h2', h3, h4⟩
  · simp
  · refine List.mem_cons_of_mem _ (List.mem_filter.mpr ⟨(cLf_mem ad lo 0 _).mpr ⟨j, u, h3, rfl⟩, ?_⟩)
    simp only [Nat.zero_add, cV_cat, Bool.and_eq_true, Bool.not_eq_true', beq_eq_false_iff_ne, Bool.and_eq_false_imp, beq_iff_eq]
    exact ⟨h2, h2', fun q1 q2 => h4 ⟨q1, q2⟩⟩
/-- fewer locals -/
def lsub : List (Option Value) → List (Option Value) → Prop
  | [], _ => True
  | none :: l, [] => lsub l []
  | none :: l, _ :: r => lsub l r
  | some _ :: _, [] => False
  | some v :: l, o :: r => o = some v ∧ lsub l r
theorem lsub_get : ∀ (l r : List (Option Value)), lsub l r → ∀ (i : Nat) (v : Value), pg l i = some (some v) → pg r i = some (some v)
  | [], r, _, i, v, h => by simp [pg] at h
  | none :: l, [], hs, 0, v, h => by simp [pg] at h
  | none :: l, [], hs, i + 1, v, h => by
    have := lsub_get l [] hs i v h
    simp [pg] at this
  | none :: l, o :: r, hs, 0, v, h => by simp [pg] at h
  | none :: l, o :: r, hs, i + 1, v, h => lsub_get l r hs i v h
  | some u :: l, [], hs, i, v, h => hs.elim
  | some u :: l, o :: r, hs, 0, v, h => by
    simp only [pg, Option.some.injEq] at h ⊢
    rw [hs.1, h]
  | some u :: l, o :: r, hs, i + 1, v, h => lsub_get l r hs.2 i v h
theorem cL_sub {ad : Nat → Nat} {ls : Array Slot} {nL : Nat} {l r : List (Option Value)} (hs : lsub l r) (h : lv_has ls nL (cLf ad 0 r)) : lv_has ls nL (cLf ad 0 l) := by
  refine ⟨h.1, h.2.1, fun q hq => ?_⟩
  obtain ⟨j, u, h1, rfl⟩ := (cLf_mem ad _ 0 q).mp hq
  exact h.2.2 _ ((cLf_mem ad r 0 _).mpr ⟨j, u, lsub_get l r hs j u h1, rfl⟩)
/-- the locals with which a method begins -/
def eL : Nat → List Value → List (Option Value)
  | n, [] => List.replicate n none
  | n, .long x :: l => some (.long x) :: none :: eL (n - 2) l
  | n, .double x :: l => some (.double x) :: none :: eL (n - 2) l
  | n, v :: l => some v :: eL (n - 1) l
theorem eL_get (ad : Nat → Nat) : ∀ (l : List Value) (n k : Nat) (j : Nat) (u : Value), pg (eL n l) j = some (some u) → (k + j, cV ad u) ∈ lv_args k (l.map (cV ad))
  | [], n, k, j, u, h => by
    rw [eL, pg_eq, List.getElem?_replicate] at h
    split at h <;> simp at h
  | v :: l, n, k, j, u, h => by
    by_cases hc : v.category = 2
    · have e : eL n (v :: l) = some v :: none :: eL (n - 2) l := by cases v <;> first | rfl | simp [Value.category] at hc
      rw [e] at h
      rw [List.map_cons, lv_args, cV_cat, if_pos hc]
      cases j with
      | zero =>
        simp only [pg, Option.some.injEq] at h
        subst h
        exact List.mem_cons_self
      | succ j =>
        cases j with
        | zero => simp [pg] at h
        | succ j =>
          have := eL_get ad l (n - 2) (k + 2) j u h
          rw [show k + (j + 1 + 1) = k + 2 + j by omega]
          exact List.mem_cons_of_mem _ this
    · have e : eL n (v :: l) = some v :: eL (n - 1) l := by cases v <;> first | rfl | simp [Value.category] at hc
      rw [e] at h
      rw [List.map_cons, lv_args, cV_cat, if_neg hc]
      cases j with
      | zero =>
        simp only [pg, Option.some.injEq] at h
        subst h
        exact List.mem_cons_self
      | succ j =>
        have := eL_get ad l (n - 1) (k + 1) j u h
        rw [show k + (j + 1) = k + 1 + j by omega]
        exact List.mem_cons_of_mem _ this
