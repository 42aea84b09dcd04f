/-! ===== WHAT IS MADE: the world grows ===== -/
theorem kw_O {E : String} {t : Nat} {A B : Nat → Prop} {U : State} {H : Heap} (h : va_O E t A U H) (hAB : ∀ q, q < H.size → B q → A q) : va_O E t B U H := by
  obtain ⟨cell, h1, h2, h3, h4⟩ := h
  exact ⟨cell, h1, h2, h3, fun z => h4 (hAB _ (Array.getElem?_eq_some_iff.mp h1).1 z)⟩
theorem kw_OF {o n dd : String} {v : Value} {t : Nat} {A B : Nat → Prop} {U : State} {H : Heap} (h : va_OF o n dd v t A U H) (hAB : ∀ q, q < H.size → B q → A q) : va_OF o n dd v t B U H := by
  obtain ⟨cf, k, i, f, cell, h1, h2, h3, h4, h5, h6⟩ := h
  exact ⟨cf, k, i, f, cell, h1, h2, h3, h4, h5, fun z => h6 (hAB _ (Array.getElem?_eq_some_iff.mp h3).1 z)⟩
theorem kw_T {ty : FieldType} {t N : Nat} {f : Nat → Value} {A B : Nat → Prop} {U : State} {H : Heap} (h : va_T ty t N f A U H) (hAB : ∀ q, q < H.size → B q → A q) : va_T ty t N f B U H := by
  obtain ⟨cell, h1, h2, h3, h4, h5, h6, h7⟩ := h
  exact ⟨cell, h1, h2, h3, h4, h5, h6, fun z => h7 (hAB _ (Array.getElem?_eq_some_iff.mp h1).1 z)⟩
theorem kw_Z {C n dd : String} {v : Value} {A B : Nat → Prop} {U : State} {H : Heap} (h : va_Z C n dd v A U H) (hAB : ∀ q, q < H.size → B q → A q) : va_Z C n dd v B U H := by
  obtain ⟨cf, kf, fi, f, a, cell, h1, h2, h3, h4, h5, h6, h7, h8⟩ := h
  exact ⟨cf, kf, fi, f, a, cell, h1, h2, h3, h4, h5, h6, h7, fun z => h8 (hAB _ (Array.getElem?_eq_some_iff.mp h5).1 z)⟩
theorem KX.wider {D : va_G} {cI cJ : ClassId} {ad : Nat → Nat} {A B : Nat → Prop} {U : State} {H : Heap} (h : KX D cI cJ ad A U H) (hAB : ∀ q, q < H.size → B q → A q) : KX D cI cJ ad B U H :=
  ⟨h.1, h.2.1, ⟨fun i hi => ⟨kw_O (h.2.2.1.1 i hi).1 hAB, kw_OF (h.2.2.1.1 i hi).2.1 hAB, kw_OF (h.2.2.1.1 i hi).2.2.1 hAB, kw_T (h.2.2.1.1 i hi).2.2.2 hAB⟩, h.2.2.1.2⟩, h.2.2.2.1, kw_Z h.2.2.2.2.1 hAB, h.2.2.2.2.2.imp (fun z => kw_Z z hAB) (fun z => kw_Z z hAB)⟩
def agr (X : VX) (ad' : Nat → Nat) (dN : Nat) : Prop := match X with
  | (p, l, e, R, s, m, args, below, meth, c, D, cI, cJ, ad, N, Z, nL, kc, ks) => (∀ i, i < N → ad' i = ad i) ∧ (∀ i, 1000 ≤ i → ad' i = ad i) ∧ (∀ i, N ≤ i → i < N + dN → s.heap.size ≤ ad' i) ∧ ∀ i j, i < N + dN → j < N + dN → ad' i = ad' j → i = j
def gro (X : VX) (ad' : Nat → Nat) (dN dc ds : Nat) : VX := match X with
  | (p, l, e, R, s, m, args, below, meth, c, D, cI, cJ, ad, N, Z, nL, kc, ks) => (p, l, e, R, s, m, args, below, meth, c, D, cI, cJ, ad', N + dN, Z, nL, kc + dc, ks + ds)
/-- the room and what is used of it, how many cells there are -/
def QC (X : VX) (mc ms kc0 ks0 n0 : Nat) : Prop := match X with
  | (p, l, e, R, s, m, args, below, meth, c, D, cI, cJ, ad, N, Z, nL, kc, ks) => R.cells = mc ∧ R.slots = ms ∧ kc = kc0 ∧ ks = ks0 ∧ N = n0
theorem QC.gro {X : VX} {mc ms kc0 ks0 n0 : Nat} (h : QC X mc ms kc0 ks0 n0) (ad' : Nat → Nat) (dN dc ds : Nat) : QC (gro X ad' dN dc ds) mc ms (kc0 + dc) (ks0 + ds) (n0 + dN) := by
  obtain ⟨p, l, e, R, s, m, args, below, meth, c, D, cI, cJ, ad, N, Z, nL, kc, ks⟩ := X
  obtain ⟨h1, h2, rfl, rfl, rfl⟩ := h
  exact ⟨h1, h2, rfl, rfl, rfl⟩
theorem nLo_gro {X : VX} {ad' : Nat → Nat} {dN dc ds n : Nat} (h : nLo X = n) : nLo (gro X ad' dN dc ds) = n := by
  obtain ⟨p, l, e, R, s, m, args, below, meth, c, D, cI, cJ, ad, N, Z, nL, kc, ks⟩ := X
  exact h
theorem VG.gro {X : VX} {cc : ByteArray} {own : String} {d mc ms kc0 ks0 n0 : Nat} (g : VG X cc own d) (q : QC X mc ms kc0 ks0 n0) {ad' : Nat → Nat} {dN dc ds : Nat} (ha : agr X ad' dN) (h1 : kc0 + dc ≤ mc) (h2 : ks0 + ds ≤ ms) : VG (gro X ad' dN dc ds) cc own d := by
  obtain ⟨p, l, e, R, s, m, args, below, meth, c, D, cI, cJ, ad, N, Z, nL, kc, ks⟩ := X
  obtain ⟨hx, hb, hml, hown, hts, hK, hinj, hR, hC⟩ := g
  obtain ⟨e1, e2, rfl, rfl, rfl⟩ := q
  obtain ⟨a1, a2, a3, a4⟩ := ha
  refine ⟨hx, hb, hml, hown, hts, ?_, a4, hR, by omega, by omega⟩
  refine (KX.ren a2 hK).wider (fun z hz hB => ?_)
  obtain ⟨k, hk, rfl⟩ := hB
  rcases Nat.lt_or_ge k N with q | q
  · exact ⟨k, q, a1 k q⟩
  · exact absurd (a3 k q hk) (Nat.not_le.mpr hz)
def clV (N : Nat) (v : Value) : Bool := match v with
  | .ref k => decide (k < N) || decide (1000 ≤ k)
  | _ => true
def clE (N : Nat) (x : PE) : Bool := match x with
  | .inl _ => true
  | .inr o => o.2.all (clV N)
def clO (N : Nat) (o : Option Value) : Bool := match o with
  | some v => clV N v
  | none => true
theorem cV_agr {ad ad' : Nat → Nat} {N : Nat} (h1 : ∀ i, i < N → ad' i = ad i) (h2 : ∀ i, 1000 ≤ i → ad' i = ad i) {v : Value} (h : clV N v = true) : cV ad' v = cV ad v := by
  cases v with
  | ref k =>
    unfold clV at h
    rw [Bool.or_eq_true, decide_eq_true_iff, decide_eq_true_iff] at h
    show Value.ref (ad' k) = Value.ref (ad k)
    rcases h with h | h
    · rw [h1 k h]
    · rw [h2 k h]
  | _ => rfl
theorem mV_agr {ad ad' : Nat → Nat} {N : Nat} (h1 : ∀ i, i < N → ad' i = ad i) (h2 : ∀ i, 1000 ≤ i → ad' i = ad i) {vs : List Value} (h : vs.all (clV N) = true) : vs.map (cV ad') = vs.map (cV ad) := List.map_congr_left fun v hv => cV_agr h1 h2 (List.all_eq_true.mp h v hv)
theorem cE_agr {cI cJ : ClassId} {ad ad' : Nat → Nat} {N : Nat} (h1 : ∀ i, i < N → ad' i = ad i) (h2 : ∀ i, 1000 ≤ i → ad' i = ad i) {x : PE} (h : clE N x = true) : cE cI cJ ad' x = cE cI cJ ad x := by
  cases x with
  | inl a => rfl
  | inr o =>
    show Sum.inr (o.1, o.2.map (cV ad')) = Sum.inr (o.1, o.2.map (cV ad))
    rw [mV_agr h1 h2 h]
theorem cWf_agr {cI cJ : ClassId} {ad ad' : Nat → Nat} {N : Nat} (h1 : ∀ i, i < N → ad' i = ad i) (h2 : ∀ i, 1000 ≤ i → ad' i = ad i) : ∀ (w : PW) (k : Nat), k + w.length ≤ N → w.all (clE N) = true → cWf cI cJ ad' k w = cWf cI cJ ad k w
  | [], k, _, _ => rfl
  | x :: w, k, hk, hc => by
    rw [List.all_cons, Bool.and_eq_true] at hc
    rw [List.length_cons] at hk
    rw [cWf, cWf, h1 k (by omega), cE_agr h1 h2 hc.1, cWf_agr h1 h2 w (k + 1) (by omega) hc.2]
theorem cLf_agr {ad ad' : Nat → Nat} {N : Nat} (h1 : ∀ i, i < N → ad' i = ad i) (h2 : ∀ i, 1000 ≤ i → ad' i = ad i) : ∀ (lo : List (Option Value)) (k : Nat), lo.all (clO N) = true → cLf ad' k lo = cLf ad k lo
  | [], k, _ => rfl
  | none :: l, k, hc => by
    rw [List.all_cons, Bool.and_eq_true] at hc
    rw [cLf, cLf, cLf_agr h1 h2 l (k + 1) hc.2]
  | some v :: l, k, hc => by
    rw [List.all_cons, Bool.and_eq_true] at hc
    rw [cLf, cLf, cV_agr h1 h2 hc.1, cLf_agr h1 h2 l (k + 1) hc.2]
theorem cWf_app (cI cJ : ClassId) (ad : Nat → Nat) : ∀ (w w' : PW) (k : Nat), cWf cI cJ ad k (w ++ w') = cWf cI cJ ad k w ++ cWf cI cJ ad (k + w.length) w'
  | [], w', k => by rw [List.nil_append, cWf, List.nil_append, List.length_nil, Nat.add_zero]
  | x :: w, w', k => by rw [List.cons_append, cWf, cWf, List.cons_append, cWf_app cI cJ ad w w' (k + 1), List.length_cons, show k + 1 + w.length = k + (w.length + 1) by omega]
theorem cWf_len (cI cJ : ClassId) (ad : Nat → Nat) : ∀ (w : PW) (k : Nat), (cWf cI cJ ad k w).length = w.length
  | [], k => rfl
  | x :: w, k => by rw [cWf, List.length_cons, List.length_cons, cWf_len cI cJ ad w (k + 1)]
def adP (ad : Nat → Nat) (N q : Nat) : Nat → Nat := fun i => if i = N then q else ad i
theorem v_one {X : VX} {pc : Nat} {lo : List (Option Value)} {st : List Value} {w : PW} {x : PE} {mc ms kc0 ks0 n0 dc ds : Nat} (q : QC X mc ms kc0 ks0 n0) (hw0 : w.length = n0) (hlt : n0 < 1000) (hlo : lo.all (clO n0) = true) (hst : st.all (clV n0) = true) (hcw : w.all (clE n0) = true) (hcx : clE n0 x = true)
    (k : ∀ ad', agr X ad' 1 → V (gro X ad' 1 dc ds) pc lo (.ref n0 :: st) (w ++ [x])) : match X with
  | (p, l, e, R, s, m, args, below, meth, c, D, cI, cJ, ad, N, Z, nL, kc, ks) => ∀ (H H1 : Heap) (locs : List Loc) (ls : Array Slot) (a : Nat), (∀ i j : Nat, i < N → j < N → ad i = ad j → i = j) → va_S (pA ad N) s.heap H locs → lv_has ls nL (cLf ad 0 lo) → va_P D vwCl (cWf cI cJ ad 0 w ++ [(a, cE cI cJ ad x)]) H1 → va_D (fun z => pA ad N z ∨ s.heap.size ≤ z) (cWf cI cJ ad 0 w ++ [(a, cE cI cJ ad x)]) → va_S (fun z => pA ad N z ∨ s.heap.size ≤ z) s.heap H1 locs → W p l e R s m args below meth c H1 locs (kc + dc) (ks + ds) Z (F0 m pc ls (.ref a :: st.map (cV ad))) := by
  obtain ⟨p, l, e, R, s, m, args, below, meth, c, D, cI, cJ, ad, N, Z, nL, kc, ks⟩ := X
  obtain ⟨e1, e2, rfl, rfl, rfl⟩ := q
  intro H H1 locs ls a hinj hS hl hP1 hD1 hS1
  subst hw0
  have hlen := cWf_len cI cJ ad w 0
  have hnew : (cWf cI cJ ad 0 w ++ [(a, cE cI cJ ad x)])[w.length]? = some (a, cE cI cJ ad x) := by
    rw [List.getElem?_append_right (by omega), hlen, Nat.sub_self]; rfl
  have hold : ∀ k, k < w.length → ∃ y, (cWf cI cJ ad 0 w ++ [(a, cE cI cJ ad x)])[k]? = some (ad k, y) := by
    intro k hk
    obtain ⟨y, hy⟩ := pg_some (l := w) (i := k) hk
    refine ⟨cE cI cJ ad y, ?_⟩
    rw [List.getElem?_append_left (by omega), cWf_get, hy, Nat.zero_add]; rfl
  have hne : ∀ k, k < w.length → ad k ≠ a := by
    intro k hk he
    obtain ⟨y, hy⟩ := hold k hk
    exact absurd (hD1.1 k w.length _ _ hy hnew he) (by omega)
  have hfresh : s.heap.size ≤ a := by
    rcases hD1.2 _ _ hnew with ⟨k, hk, he⟩ | h
    · exact absurd he.symm (hne k hk)
    · exact h
  have b1 : ∀ i, i < w.length → adP ad w.length a i = ad i := fun i hi => if_neg (by omega)
  have b2 : ∀ i, 1000 ≤ i → adP ad w.length a i = ad i := fun i hi => if_neg (by omega)
  have b0 : adP ad w.length a w.length = a := if_pos rfl
  have key := k (adP ad w.length a) ⟨b1, b2, fun i h1 h2 => by rw [show i = w.length by omega, b0]; exact hfresh, fun i j hi hj he => by
    rcases Nat.lt_or_ge i w.length with p1 | p1
    · rcases Nat.lt_or_ge j w.length with p2 | p2
      · rw [b1 i p1, b1 j p2] at he; exact hinj i j p1 p2 he
      · rw [b1 i p1, show j = w.length by omega, b0] at he; exact absurd he (hne i p1)
    · rcases Nat.lt_or_ge j w.length with p2 | p2
      · rw [show i = w.length by omega, b0, b1 j p2] at he; exact absurd he.symm (hne j p2)
      · omega⟩ (by rw [List.length_append]; rfl) H1 locs ls (by
        rw [cWf_app, cWf_agr b1 b2 w 0 (by omega) hcw]
        show va_P D vwCl (cWf cI cJ ad 0 w ++ [(adP ad w.length a (0 + w.length), cE cI cJ (adP ad w.length a) x)]) H1
        rw [Nat.zero_add, b0, cE_agr b1 b2 hcx]
        exact hP1) ⟨hS1.1, fun z h1 h2 => hS1.2.1 z h1 (fun h => h.elim (fun ⟨i, hi, he⟩ => h2 ⟨i, by omega, by rw [b1 i hi]; exact he⟩) (fun h => absurd h (Nat.not_le.mpr h1))), fun z hz => by
          obtain ⟨i, hi, he⟩ := hS.2.2 z hz
          exact ⟨i, by omega, by rw [b1 i hi]; exact he⟩⟩ (by rw [cLf_agr b1 b2 lo 0 hlo]; exact hl)
  have e3 : (Value.ref w.length :: st).map (cV (adP ad w.length a)) = .ref a :: st.map (cV ad) := by
    rw [List.map_cons, mV_agr b1 b2 hst]
    show Value.ref (adP ad w.length a w.length) :: _ = _
    rw [b0]
  rw [e3] at key
  exact key
theorem wA_I : Cond.arrayClass .int ∈ tbG := tbG_in (List.mem_of_getElem? (i := 150) (by decide +kernel)) (by decide +kernel)
theorem wA_J : Cond.arrayClass .long ∈ tbG := tbG_in (List.mem_of_getElem? (i := 208) (by decide +kernel)) (by decide +kernel)
theorem v_newI {X : VX} {cc : ByteArray} {own : String} {d pc : Nat} {lo : List (Option Value)} {st : List Value} {w : PW} {n : Int32} (K : Nat) {mc ms kc0 ks0 n0 : Nat} (g : VG X cc own d) (q : QC X mc ms kc0 ks0 n0) (hd : decode cc pc = .ok (.newarray .int, 2)) (hn : n = nI K) (hK0 : K < 1000) (hw0 : w.length = n0) (hlt : n0 < 1000) (hr1 : kc0 + 1 ≤ mc) (hr2 : ks0 + K ≤ ms) (hlo : lo.all (clO n0) = true) (hst : st.all (clV n0) = true) (hcw : w.all (clE n0) = true)
    (k : ∀ ad', agr X ad' 1 → V (gro X ad' 1 1 K) (pc + 2) lo (.ref n0 :: st) (w ++ [.inl (K, .inl (fun _ => 0))])) : V X pc lo (.int n :: st) w := by
  have key := v_one (x := .inl (K, .inl (fun _ => 0))) q hw0 hlt hlo hst hcw rfl k
  obtain ⟨p, l, e, R, s, m, args, below, meth, c, D, cI, cJ, ad, N, Z, nL, kc, ks⟩ := X
  obtain ⟨hx, hb, hml, hown, hts, hK, hinj, hR, hC⟩ := g
  intro hN H locs ls hP hS hl
  obtain ⟨e1, e2, rfl, rfl, rfl⟩ := q
  have hS2 : va_S (fun z => pA ad N z ∨ s.heap.size ≤ z) s.heap H locs := ⟨hS.1, fun z h1 h2 => hS.2.1 z h1 (fun h => h2 (Or.inl h)), fun z hz => Or.inl (hS.2.2 z hz)⟩
  have hD2 : va_D (fun z => pA ad N z ∨ s.heap.size ≤ z) (cWf cI cJ ad 0 w) := ⟨(vD hinj hN).1, fun k z hk => Or.inl ((vD hinj hN).2 k z hk)⟩
  have hn1 : ¬ n < 0 := by rw [hn]; exact nI_pos (by omega)
  have hn2 : n.toNatClampNeg = K := by rw [hn]; exact nI_clamp (by omega)
  have hbb : K * componentBytes .int ≤ 536870912 := Nat.le_trans (Nat.mul_le_mul (Nat.le_of_lt hK0) (show componentBytes .int ≤ 8 by decide)) (by decide)
  refine va_newa (atype := .int) (ty := .int) (N' := K) (a0 := (K, .inl (fun _ => 0))) hx hb (hts _ wA_I) rfl hK.1 hP hD2 hS2 (fun z h => Or.inr h) (fun cA => rfl) hn1 hn2 hbb (by omega) (by omega) hd (fun a cA H1 hK1 hP1 hD1 hS1 => ?_)
  have hc : cA = cI := by
    have r1 := (hK1.2 2 (cA, .int) rfl).2
    have r2 := (hK.1.2 0 _ rfl).2
    exact Option.some.inj (r1.symm.trans r2)
  subst hc
  exact key H H1 locs ls a hinj hS hl hP1 hD1 hS1
theorem v_newJ {X : VX} {cc : ByteArray} {own : String} {d pc : Nat} {lo : List (Option Value)} {st : List Value} {w : PW} {n : Int32} (K : Nat) {mc ms kc0 ks0 n0 : Nat} (g : VG X cc own d) (q : QC X mc ms kc0 ks0 n0) (hd : decode cc pc = .ok (.newarray .long, 2)) (hn : n = nI K) (hK0 : K < 1000) (hw0 : w.length = n0) (hlt : n0 < 1000) (hr1 : kc0 + 1 ≤ mc) (hr2 : ks0 + K ≤ ms) (hlo : lo.all (clO n0) = true) (hst : st.all (clV n0) = true) (hcw : w.all (clE n0) = true)
    (k : ∀ ad', agr X ad' 1 → V (gro X ad' 1 1 K) (pc + 2) lo (.ref n0 :: st) (w ++ [.inl (K, .inr (.inl (fun _ => 0)))])) : V X pc lo (.int n :: st) w := by
  have key := v_one (x := .inl (K, .inr (.inl (fun _ => 0)))) q hw0 hlt hlo hst hcw rfl k
  obtain ⟨p, l, e, R, s, m, args, below, meth, c, D, cI, cJ, ad, N, Z, nL, kc, ks⟩ := X
  obtain ⟨hx, hb, hml, hown, hts, hK, hinj, hR, hC⟩ := g
  intro hN H locs ls hP hS hl
  obtain ⟨e1, e2, rfl, rfl, rfl⟩ := q
  have hS2 : va_S (fun z => pA ad N z ∨ s.heap.size ≤ z) s.heap H locs := ⟨hS.1, fun z h1 h2 => hS.2.1 z h1 (fun h => h2 (Or.inl h)), fun z hz => Or.inl (hS.2.2 z hz)⟩
  have hD2 : va_D (fun z => pA ad N z ∨ s.heap.size ≤ z) (cWf cI cJ ad 0 w) := ⟨(vD hinj hN).1, fun k z hk => Or.inl ((vD hinj hN).2 k z hk)⟩
  have hn1 : ¬ n < 0 := by rw [hn]; exact nI_pos (by omega)
  have hn2 : n.toNatClampNeg = K := by rw [hn]; exact nI_clamp (by omega)
  have hbb : K * componentBytes .long ≤ 536870912 := Nat.le_trans (Nat.mul_le_mul (Nat.le_of_lt hK0) (show componentBytes .long ≤ 8 by decide)) (by decide)
  refine va_newa (atype := .long) (ty := .long) (N' := K) (a0 := (K, .inr (.inl (fun _ => 0)))) hx hb (hts _ wA_J) rfl hK.1 hP hD2 hS2 (fun z h => Or.inr h) (fun cA => rfl) hn1 hn2 hbb (by omega) (by omega) hd (fun a cA H1 hK1 hP1 hD1 hS1 => ?_)
  have hc : cA = cJ := by
    have r1 := (hK1.2 2 (cA, .long) rfl).2
    have r2 := (hK.1.2 1 _ rfl).2
    exact Option.some.inj (r1.symm.trans r2)
  subst hc
  exact key H H1 locs ls a hinj hS hl hP1 hD1 hS1
def NW (own : String) (idx ci n : Nat) (fs : List Value) : Prop := ∃ (C : String) (T : u_T) (ty : Nat → FieldType), CLok ci C T n ty ∧ Cond.classLink own idx C ∈ tbG ∧ Cond.instantiable C n ∈ tbG ∧ Cond.initialized C ∈ tbG ∧ (∀ j, j < n → defaultValue (ty j) = vp_V fs j) ∧ fs.all cK = true
theorem fsK {ad : Nat → Nat} {fs : List Value} (h : fs.all cK = true) : fs.map (cV ad) = fs := (List.map_congr_left fun v hv => cK_cV (List.all_eq_true.mp h v hv)).trans (List.map_id _)
theorem v_newO {X : VX} {cc : ByteArray} {own : String} {d pc : Nat} {lo : List (Option Value)} {st : List Value} {w : PW} {idx ci n : Nat} (fs : List Value) {mc ms kc0 ks0 n0 : Nat} (g : VG X cc own d) (q : QC X mc ms kc0 ks0 n0) (hd : decode cc pc = .ok (.new idx, 3)) (hF : NW own idx ci n fs) (hw0 : w.length = n0) (hlt : n0 < 1000) (hr1 : kc0 + 1 ≤ mc) (hr2 : ks0 + n ≤ ms) (hlo : lo.all (clO n0) = true) (hst : st.all (clV n0) = true) (hcw : w.all (clE n0) = true) (hcx : clE n0 (.inr (ci, fs)) = true)
    (k : ∀ ad', agr X ad' 1 → V (gro X ad' 1 1 n) (pc + 3) lo (.ref n0 :: st) (w ++ [.inr (ci, fs)])) : V X pc lo st w := by
  have key := v_one (x := .inr (ci, fs)) q hw0 hlt hlo hst hcw hcx k
  obtain ⟨p, l, e, R, s, m, args, below, meth, c, D, cI, cJ, ad, N, Z, nL, kc, ks⟩ := X
  obtain ⟨hx, hb, hml, hown, hts, hK, hinj, hR, hC⟩ := g
  intro hN H locs ls hP hS hl
  obtain ⟨e1, e2, rfl, rfl, rfl⟩ := q
  obtain ⟨C, T, ty, ⟨c1, c2, c3, c4⟩, f1, f2, f3, f4, f5⟩ := hF
  have hS2 : va_S (fun z => pA ad N z ∨ s.heap.size ≤ z) s.heap H locs := ⟨hS.1, fun z h1 h2 => hS.2.1 z h1 (fun h => h2 (Or.inl h)), fun z hz => Or.inl (hS.2.2 z hz)⟩
  have hD2 : va_D (fun z => pA ad N z ∨ s.heap.size ≤ z) (cWf cI cJ ad 0 w) := ⟨(vD hinj hN).1, fun k z hk => Or.inl ((vD hinj hN).2 k z hk)⟩
  refine va_new (ci := ci) (fs := fs) (C := C) (T := T) (N := n) hx hb hts c2 ty c3 hown (hts _ f1) (hts _ f2) (hts _ f3) hK.1 hP hD2 hS2 (fun z h => Or.inr h) c1 f4 (by omega) (by omega) hd (fun a H1 hP1 hD1 hS1 => ?_)
  have e9 : cE cI cJ ad (.inr (ci, fs)) = .inr (ci, fs) := by show Sum.inr (ci, fs.map (cV ad)) = _; rw [fsK f5]
  rw [← e9] at hP1 hD1
  exact key H H1 locs ls a hinj hS hl hP1 hD1 hS1
theorem v_oinit {X : VX} {cc : ByteArray} {own : String} {d pc : Nat} {lo : List (Option Value)} {st : List Value} {w : PW} {idx a : Nat} (g : VG X cc own d) (hd : decode cc pc = .ok (.invokespecial idx, 3)) (h1 : Cond.methodLink own idx Lib.objectInit ∈ tbG) (h2 : Cond.instanceMethod Lib.objectInit ∈ tbG) (h3 : Cond.code Lib.objectInit ⟨#[0xb1]⟩ 1 none ∈ tbG) (hd0 : 1 ≤ d) (hW : (st.map fun v => v.category).sum ≤ 8) (k : V X (pc + 3) lo st w) : V X pc lo (.ref a :: st) w := by
  obtain ⟨p, l, e, R, s, m, args, below, meth, c, D, cI, cJ, ad, N, Z, nL, kc, ks⟩ := X
  obtain ⟨hx, hb, hml, hown, hts, hK, hinj, hR, hC⟩ := g
  intro hN H locs ls hP hS hl
  exact W.objInit hx hb hown (hts _ h1) (hts _ h2) (hts _ h3) rfl (by rw [hml]; exact hl.1) rfl hd (by omega) (by rw [cV_sum]; show 2 * 0 + _ + 12 ≤ _; omega) (k hN H locs ls hP hS hl)
def FQ (own : String) (idx ci j : Nat) (t : FieldType) : Prop := ∃ (C : String) (T : u_T) (N : Nat) (ty : Nat → FieldType), CLok ci C T N ty ∧ j < N ∧ (T j).1 = C ∧ C = own ∧ Cond.fieldLink own idx C (T j).2.1 (T j).2.2.1 ∈ tbG ∧ (T j).2.2.2 = true ∧ parseFieldDescriptor (T j).2.2.1 = some t
def isIn (X : VX) : Prop := match X with
  | (p, l, e, R, s, m, args, below, meth, c, D, cI, cJ, ad, N, Z, nL, kc, ks) => meth.name = "<init>"
theorem isIn.gro {X : VX} (h : isIn X) (ad' : Nat → Nat) (dN dc ds : Nat) : isIn (gro X ad' dN dc ds) := by
  obtain ⟨p, l, e, R, s, m, args, below, meth, c, D, cI, cJ, ad, N, Z, nL, kc, ks⟩ := X
  exact h
theorem v_putF {X : VX} {cc : ByteArray} {own : String} {d pc : Nat} {lo : List (Option Value)} {st : List Value} {w : PW} {idx ci j a b : Nat} {fs : List Value} {ty : FieldType} (w2 : PW) (g : VG X cc own d) (hi : isIn X) (hd : decode cc pc = .ok (.putfield idx, 3)) (hF : FQ own idx ci j ty) (hw : pg w a = some (.inr (ci, fs))) (hf : j < fs.length) (hn : ∀ z, narrow ty (.ref z) = .ref z) (hfit : ∀ z, fits ty (.ref z) = true) (h2 : ps w a (.inr (ci, ps fs j (.ref b))) = w2) (k : V X (pc + 3) lo st w2) : V X pc lo (.ref b :: .ref a :: st) w := by
  obtain ⟨p, l, e, R, s, m, args, below, meth, c, D, cI, cJ, ad, N, Z, nL, kc, ks⟩ := X
  obtain ⟨hx, hb, hml, hown, hts, hK, hinj, hR, hC⟩ := g
  intro hN H locs ls hP hS hl
  subst h2
  obtain ⟨C, T, N0, ty0, ⟨c1, c2, c3, c4⟩, hj, hT, hCo, hlk, hfin, hty⟩ := hF
  refine va_putF (D := D) (ci := ci) (v := .ref (ad b)) (ty := ty) (C := C) (T := T) (N := N0) (ref := C) hx hb hts c2 ty0 c3 c4 hown hK.1 hP (vD hinj hN) hS a (cW_at hw) c1 j hj (hts _ hlk) (by rw [hT]; exact fun _ h => h) hfin hi (hT.trans hCo) hty (hn _) (hfit _) (by rw [List.length_map]; exact hf) hd (fun H1 locs1 hP1 hD1 hS1 => k (by rw [ps_len]; exact hN) H1 locs1 ls ?_ hS1 hl)
  rw [cWf_set, Nat.zero_add]
  show va_P D vwCl ((cWf cI cJ ad 0 w).set a (ad a, .inr (ci, (ps fs j (.ref b)).map (cV ad)))) H1
  rw [ps_eq, List.map_set]
  exact hP1
/-! ===== contracts of constructors ===== -/
def PcN (D : va_G) (cI cJ : ClassId) (ad : Nat → Nat) (sz : Nat) (w : PW) : Array Value → State → Prop := fun v U => U.heap.size = sz ∧ PcV D cI cJ ad [.ref 0] w v U
def QcN (D : va_G) (cI cJ : ClassId) (ad : Nat → Nat) (n0 : Nat) (w1 : PW) : Array Value → State → Outcome → State → Prop := fun _ st o t =>
  o = .returned none ∧ (∃ ad' : Nat → Nat, (∀ i, i < n0 → ad' i = ad i) ∧ (∀ i, 1000 ≤ i → ad' i = ad i) ∧ (∀ i, n0 ≤ i → i < w1.length → st.heap.size ≤ ad' i) ∧ (∀ i j : Nat, i < w1.length → j < w1.length → ad' i = ad' j → i = j) ∧ va_P D vwCl (cWf cI cJ ad' 0 w1) t.heap) ∧ va_F (pA ad n0) st t
def rmN (d mc ms : Nat) : Room := { frames := d, cells := mc, slots := ms, locals := 38 * d }
def RunN (d mc ms : Nat) (y : MethodName) (cc : ByteArray) (mL : Nat) (w w1 : PW) : Prop :=
  ∀ (l : Launch) (D : va_G) (cI cJ : ClassId) (ad : Nat → Nat) (sz : Nat), Met l y (Cond.code y cc mL none :: tbG) (rmN d mc ms) (PcN D cI cJ ad sz w) (QcN D cI cJ ad w.length w1) mc ms (fun q => pA ad w.length q ∨ sz ≤ q)
/-- what a constructor's end is to be -/
def VN (X : VX) (n0 mc ms : Nat) (w1 : PW) : Prop := match X with
  | (p, l, e, R, s, m, args, below, meth, c, D, cI, cJ, ad, N, Z, nL, kc, ks) => meth.sig.returnType = none ∧ meth.locks = false ∧ ∃ ad0 : Nat → Nat, Z = MQ below (QcN D cI cJ ad0 n0 w1) args s mc ms (fun q => pA ad0 n0 q ∨ s.heap.size ≤ q) ∧ n0 ≤ N ∧ (∀ i, i < n0 → ad i = ad0 i) ∧ (∀ i, 1000 ≤ i → ad i = ad0 i) ∧ ∀ i, n0 ≤ i → i < N → s.heap.size ≤ ad i
theorem VN.gro {X : VX} {n0 mc ms : Nat} {w1 : PW} (h : VN X n0 mc ms w1) {ad' : Nat → Nat} {dN : Nat} (dc ds : Nat) (ha : agr X ad' dN) : VN (gro X ad' dN dc ds) n0 mc ms w1 := by
  obtain ⟨p, l, e, R, s, m, args, below, meth, c, D, cI, cJ, ad, N, Z, nL, kc, ks⟩ := X
  obtain ⟨h1, h2, ad0, h3, h4, h5, h6, h7⟩ := h
  obtain ⟨a1, a2, a3, a4⟩ := ha
  refine ⟨h1, h2, ad0, h3, by omega, fun i hi => (a1 i (by omega)).trans (h5 i hi), fun i hi => (a2 i hi).trans (h6 i hi), fun i p1 p2 => ?_⟩
  rcases Nat.lt_or_ge i N with q | q
  · rw [a1 i q]; exact h7 i p1 q
  · exact a3 i q p2
theorem v_nret {X : VX} {cc : ByteArray} {own : String} {d pc : Nat} {lo : List (Option Value)} {w : PW} {n0 mc ms n1 : Nat} (g : VG X cc own d) (q : QC X mc ms mc ms n1) (r : VN X n0 mc ms w) (hd : decode cc pc = .ok (.return_, 1)) : V X pc lo [] w := by
  obtain ⟨p, l, e, R, s, m, args, below, meth, c, D, cI, cJ, ad, N, Z, nL, kc, ks⟩ := X
  obtain ⟨hx, hb, hml, hown, hts, hK, hinj, hR, hC⟩ := g
  intro hN H locs ls hP hS hl
  obtain ⟨e1, e2, rfl, rfl, rfl⟩ := q
  obtain ⟨h1, h2, ad0, rfl, h4, h5, h6, h7⟩ := r
  have hF2 : ∀ t : State, t.heap = H → va_F (pA ad0 n0) s t := by
    intro t ht
    have hF := hS.F ht
    refine ⟨hF.1, fun z p1 p2 => hF.2 z p1 ?_⟩
    rintro ⟨k, hk, rfl⟩
    rcases Nat.lt_or_ge k n0 with u | u
    · exact p2 ⟨k, u, h5 k u⟩
    · exact absurd (h7 k u hk) (Nat.not_le.mpr p1)
  have hL2 : ∀ z ∈ locs, (fun q => pA ad0 n0 q ∨ s.heap.size ≤ q) z.base := by
    intro z hz
    obtain ⟨k, hk, he⟩ := hS.2.2 z hz
    rcases Nat.lt_or_ge k n0 with u | u
    · exact Or.inl ⟨k, u, by rw [he, h5 k u]⟩
    · exact Or.inr (by rw [he]; exact h7 k u hk)
  exact W.vret hx hb h1 (fun t ht hW => ⟨rfl, ⟨ad, h5, h6, fun i p1 p2 => h7 i p1 (by omega), fun i j p1 p2 => hinj i j (by omega) (by omega), by rw [ht]; exact hP⟩, hF2 t ht⟩) hL2 hd h2
theorem RunN.of {d mc ms : Nat} {y : MethodName} {cc : ByteArray} {mL : Nat} {w w1 : PW} {lo : List (Option Value)} (hy : plainName y.cls = true) (hy2 : y.name = "<init>") (hlen : 1 ≤ mL) (hlo : eL mL [.ref 0] = lo)
    (body : ∀ X : VX, VG X cc y.cls d → QC X mc ms 0 0 w.length → VN X w.length mc ms w1 → isIn X → nLo X = mL → V X 0 lo [] w) : RunN d mc ms y cc mL w w1 := by
  intro l D cI cJ ad sz
  refine Met.ofW (cc := cc) (maxL := mL) (ret := none) hy rfl ?_
  intro p e s m args below meth c s₁ B hml hv
  obtain ⟨rfl, rfl, hK, hP, hinj⟩ := hv
  have hts := atoms_spec (ws := Cond.code y cc mL none :: tbG) B.pre
  have hown : s.vm.findClass y.cls = some m.cls := findClass_of_methodNamed B.named
  have hin : meth.name = "<init>" := by rw [← hy2]; exact (name_of_methodNamed B.named B.method).1
  have hl := lv_entry ([Value.ref (ad 0)]) (n := mL) (by exact hlen)
  have hl2 : lv_has ((lg_sl ([Value.ref (ad 0)]) ++ List.replicate (mL - (lg_sl ([Value.ref (ad 0)])).length) Slot.unset).toArray) mL (cLf ad 0 lo) := by
    refine ⟨hl.1, hl.2.1, fun q hq => ?_⟩
    obtain ⟨j, u, h1, rfl⟩ := (cLf_mem ad _ 0 q).mp hq
    rw [← hlo] at h1
    exact hl.2.2 _ (eL_get ad [.ref 0] mL 0 j u h1)
  have K := body (p, l, e, (headSpec (Cond.code y cc mL none :: tbG) (rmN d mc ms)).room, s, m, #[Value.ref (ad 0)], below, meth, c, D, cI, cJ, ad, w.length, MQ below (QcN D cI cJ ad w.length w1) #[Value.ref (ad 0)] s mc ms (fun q => pA ad w.length q ∨ s.heap.size ≤ q), mL, 0, 0)
    ⟨B.exec, B.bytes, hml, hown, fun x hx => hts x (List.mem_cons_of_mem _ hx), hK, hinj, ⟨Nat.le_refl _, Nat.le_refl _⟩, ⟨Nat.zero_le _, Nat.zero_le _⟩⟩ ⟨rfl, rfl, rfl, rfl, rfl⟩ ⟨B.returns, B.notSynchronized, ad, rfl, Nat.le_refl _, fun _ _ => rfl, fun _ _ => rfl, fun i h1 h2 => absurd h2 (by omega)⟩ hin rfl rfl s.heap [] _ hP va_S.rf hl2
  show W p l e _ s m #[Value.ref (ad 0)] below meth c s.heap [] 0 0 _ (entryFrame m ([Value.ref (ad 0)] : List Value).toArray mL)
  rw [lg_entry_eq]
  exact K
