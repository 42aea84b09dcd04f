/-! ===== a constructor's call ===== -/
def shf (j n : Nat) : Nat → Nat := fun i => if i = 0 then j else if i < 1000 then n + i - 1 else i
def mrg (w : PW) (j : Nat) (w1 : PW) : PW := match w1 with
  | [] => w
  | x :: r => ps w j (rE (shf j w.length) x) ++ r.map (rE (shf j w.length))
def frs (X : VX) (j : Nat) : Prop := match X with
  | (p, l, e, R, s, m, args, below, meth, c, D, cI, cJ, ad, N, Z, nL, kc, ks) => s.heap.size ≤ ad j
theorem VN.fr {X : VX} {n0 mc ms kc0 ks0 n1 a b : Nat} {w1 : PW} (h : VN X n0 mc ms w1) (q : QC X a b kc0 ks0 n1) {j : Nat} (h1 : n0 ≤ j) (h2 : j < n1) : frs X j := by
  obtain ⟨p, l, e, R, s, m, args, below, meth, c, D, cI, cJ, ad, N, Z, nL, kc, ks⟩ := X
  obtain ⟨-, -, ad0, -, -, -, -, h7⟩ := h
  obtain ⟨-, -, -, -, rfl⟩ := q
  exact h7 j h1 h2
theorem v_coreN {p : Program} {l : Launch} {e : Env} {R : Room} {s : State} {m : MethodId} {args : Array Value} {below : List Frame} {meth : Method} {c : Code} {H : Heap} {locs : List Loc} {kc ks mc1 ms1 pc : Nat} {Z : State → Prop} {D : va_G} {cI cJ : ClassId} {ad : Nat → Nat} {ls : Array Slot} {st0 rest : List Value} {a : Array Value} {w w1 : PW} {j nL : Nat} {lo : List (Option Value)}
    (hr : va_Run p l e R s m args below meth c H locs kc ks mc1 ms1 (F0 m pc ls st0) (rest.map (cV ad)) (QcN D cI cJ (fun i => ad (rho [j] i)) 1 w1 a) (fun q => pA (fun i => ad (rho [j] i)) 1 q ∨ H.size ≤ q)) (hS : va_S (pA ad w.length) s.heap H locs) (hP : va_P D vwCl (cWf cI cJ ad 0 w) H) (hinj : ∀ i k : Nat, i < w.length → k < w.length → ad i = ad k → i = k) (hl : lv_has ls nL (cLf ad 0 lo))
    (hj : j < w.length) (hfr : s.heap.size ≤ ad j) (hw1 : 1 ≤ w1.length) (hlt : w.length + w1.length ≤ 1000) (hlo : lo.all (clO w.length) = true) (hst : rest.all (clV w.length) = true) (hcw : w.all (clE w.length) = true) (hc1 : w1.all (clE w1.length) = true)
    (k : ∀ ad', (∀ i, i < w.length → ad' i = ad i) ∧ (∀ i, 1000 ≤ i → ad' i = ad i) ∧ (∀ i, w.length ≤ i → i < w.length + (w1.length - 1) → s.heap.size ≤ ad' i) ∧ (∀ i k, i < w.length + (w1.length - 1) → k < w.length + (w1.length - 1) → ad' i = ad' k → i = k) → ∀ (H1 : Heap) (ls1 : Array Slot), va_P D vwCl (cWf cI cJ ad' 0 (mrg w j w1)) H1 → va_S (pA ad' (w.length + (w1.length - 1))) s.heap H1 locs → lv_has ls1 nL (cLf ad' 0 lo) → W p l e R s m args below meth c H1 locs (kc + mc1) (ks + ms1) Z (F0 m (pc + 3) ls1 (rest.map (cV ad')))) : W p l e R s m args below meth c H locs kc ks Z (F0 m pc ls st0) := by
  intro T0 hT X
  obtain ⟨v, st₀, t, T', L, h0, X', hL, e1, e2, ⟨hv, ⟨ad1, r1, r2, r3, r4, hP1⟩, hz, hk⟩, st⟩ := hr T0 hT X
  cases hv
  rw [h0] at hz hk r3
  have r1 : ad1 0 = ad j := r1 0 (by omega)
  have r2 : ∀ i, 1000 ≤ i → ad1 i = ad i := fun i hi => (r2 i hi).trans (by show ad (rho [j] i) = ad i; rw [rho, if_neg (by omega)])
  have hpa : ∀ q, pA (fun i => ad (rho [j] i)) 1 q → q = ad j := by
    rintro q ⟨i, hi, rfl⟩
    have : i = 0 := by omega
    subst this
    rfl
  have hold : ∀ i, i < w.length → ad i < H.size := by
    intro i hi
    obtain ⟨x, hx⟩ := pg_some (l := w) (i := i) hi
    exact (hP i _ (cW_at hx)).lt
  have b1 : ∀ i, i < w.length → (fun i => if i < w.length then ad i else if i < 1000 then ad1 (i + 1 - w.length) else ad i) i = ad i := fun i hi => if_pos hi
  have b2 : ∀ i, 1000 ≤ i → (fun i => if i < w.length then ad i else if i < 1000 then ad1 (i + 1 - w.length) else ad i) i = ad i := fun i hi => (if_neg (by omega)).trans (if_neg (by omega))
  have b3 : ∀ i, w.length ≤ i → i < 1000 → (fun i => if i < w.length then ad i else if i < 1000 then ad1 (i + 1 - w.length) else ad i) i = ad1 (i + 1 - w.length) := fun i h1 h2 => (if_neg (by omega)).trans (if_pos h2)
  generalize (fun i => if i < w.length then ad i else if i < 1000 then ad1 (i + 1 - w.length) else ad i) = ad' at b1 b2 b3
  have f1 : ∀ i, i < w1.length → ad' (shf j w.length i) = ad1 i := by
    intro i hi
    unfold shf
    split
    · next h => rw [b1 j hj, h, r1]
    · next h => rw [if_pos (by omega), b3 _ (by omega) (by omega), show w.length + i - 1 + 1 - w.length = i by omega]
  have f2 : ∀ i, 1000 ≤ i → ad' (shf j w.length i) = ad1 i := by
    intro i hi
    unfold shf
    rw [if_neg (by omega), if_neg (by omega), b2 i hi, r2 i hi]
  have cx : ∀ x : PE, clE w1.length x = true → cE cI cJ ad' (rE (shf j w.length) x) = cE cI cJ ad1 x := by
    intro x hx
    rw [← cE_rE]
    exact cE_agr f1 f2 hx
  have hlen : (mrg w j w1).length = w.length + (w1.length - 1) := by
    cases w1 with
    | nil => simp at hw1
    | cons x r =>
      show (ps w j (rE (shf j w.length) x) ++ r.map (rE (shf j w.length))).length = _
      rw [List.length_append, ps_len, List.length_map, List.length_cons]
      omega
  have hnew : ∀ i, w.length ≤ i → i < w.length + (w1.length - 1) → H.size ≤ ad' i := fun i h1 h2 => by rw [b3 i h1 (by omega)]; exact r3 _ (by omega) (by omega)
  have X2 := Stand.forget (locs := locs) (extra := L) X' (fun y hy => by
    rcases hL y hy with h | h
    · rw [hpa _ h]; exact hfr
    · exact Nat.le_trans hS.1 h)
  obtain ⟨t2, a1, b1'⟩ := k ad' ⟨b1, b2, fun i h1 h2 => Nat.le_trans hS.1 (hnew i h1 h2), fun i q hi hq he => by
      rcases Nat.lt_or_ge i w.length with p1 | p1
      · rcases Nat.lt_or_ge q w.length with p2 | p2
        · rw [b1 i p1, b1 q p2] at he; exact hinj i q p1 p2 he
        · have h1 := hold i p1
          have h2 := hnew q p2 hq
          rw [← he, b1 i p1] at h2
          omega
      · rcases Nat.lt_or_ge q w.length with p2 | p2
        · have h1 := hold q p2
          have h2 := hnew i p1 hi
          rw [he, b1 q p2] at h2
          omega
        · rw [b3 i p1 (by omega), b3 q p2 (by omega)] at he
          have := r4 _ _ (by omega) (by omega) he
          omega⟩ T'.heap ls (by
      intro i y hy
      rw [cWf_get] at hy
      cases hx : pg (mrg w j w1) i with
      | none => rw [hx] at hy; cases hy
      | some x =>
        rw [hx] at hy
        cases hy
        rw [Nat.zero_add]
        show va_at D vwCl (ad' i, cE cI cJ ad' x) T'.heap
        have hi : i < w.length + (w1.length - 1) := by rw [← hlen]; exact pg_lt hx
        cases w1 with
        | nil => simp at hw1
        | cons x1 r =>
          have hx : pg (ps w j (rE (shf j w.length) x1) ++ r.map (rE (shf j w.length))) i = some x := hx
          rw [List.all_cons, Bool.and_eq_true] at hc1
          rcases Nat.lt_or_ge i w.length with p1 | p1
          · rw [pg_eq, List.getElem?_append_left (by rw [ps_len]; exact p1), ← pg_eq] at hx
            by_cases hij : i = j
            · subst hij
              rw [pg_ps_eq _ p1] at hx
              cases hx
              rw [cx x1 hc1.1, b1 i p1, ← r1, e1]
              exact hP1 0 _ (cW_at (w := x1 :: r) (i := 0) rfl)
            · rw [pg_ps_ne _ hij] at hx
              have hcx : clE w.length x = true := List.all_eq_true.mp hcw x (by rw [pg_eq] at hx; exact List.mem_of_getElem? hx)
              rw [cE_agr b1 b2 hcx, b1 i p1]
              have h4 := hP i _ (cW_at hx)
              refine h4.kept ?_
              rw [e1]
              exact hk _ h4.lt (fun h => hij (hinj i j p1 hj (hpa _ h)))
          · rw [pg_eq, List.getElem?_append_right (by rw [ps_len]; exact p1), ps_len, List.getElem?_map] at hx
            cases hr : r[i - w.length]? with
            | none => rw [hr] at hx; cases hx
            | some y =>
              rw [hr] at hx
              cases hx
              have hcy : clE (x1 :: r).length y = true := List.all_eq_true.mp hc1.2 y (List.mem_of_getElem? hr)
              rw [List.length_cons] at hi hlt
              rw [cx y hcy, b3 i p1 (by omega), e1]
              have h5 := hP1 (i + 1 - w.length) _ (cW_at (w := x1 :: r) (i := i + 1 - w.length) (x := y) (by rw [pg_eq, show i + 1 - w.length = (i - w.length) + 1 by omega, List.getElem?_cons_succ]; exact hr))
              exact h5) ⟨Nat.le_trans hS.1 (by rw [e1]; exact hz), fun q h1 h2 => by
        rw [e1, hk q (Nat.lt_of_lt_of_le h1 hS.1) (fun h => h2 ⟨j, by omega, by rw [b1 j hj]; exact hpa q h⟩)]
        exact hS.2.1 q h1 (fun ⟨i, hi, he⟩ => h2 ⟨i, by omega, by rw [b1 i hi]; exact he⟩), fun q hq => by
        obtain ⟨i, hi, he⟩ := hS.2.2 q hq
        exact ⟨i, by omega, by rw [b1 i hi]; exact he⟩⟩ (by rw [cLf_agr b1 b2 lo 0 hlo]; exact hl) T' rfl X2
  refine ⟨t2, st t2 ?_, b1'⟩
  rw [mV_agr b1 b2 hst] at a1
  exact a1
theorem PcN.blind {D : va_G} {cI cJ : ClassId} {ad : Nat → Nat} {sz : Nat} {w : PW} : FrameBlind (PcN D cI cJ ad sz w) := fun a U g mk h => ⟨h.1, PcV.blind a U g mk h.2⟩
theorem vPcN {D : va_G} {cI cJ : ClassId} {ad : Nat → Nat} {s U : State} {H : Heap} {locs : List Loc} {w : PW} {j ci : Nat} {fs : List Value} (hK : KX D cI cJ ad (pA ad w.length) s s.heap) (hP : va_P D vwCl (cWf cI cJ ad 0 w) H) (hS : va_S (pA ad w.length) s.heap H locs) (hj : pg w j = some (.inr (ci, fs))) (hfs : fs.all cK = true) (hU : U.heap = H) (hW : s.WarmedH U.vm) : PcN D cI cJ (fun i => ad (rho [j] i)) H.size [.inr (ci, fs)] #[Value.ref (ad j)] U := by
  refine ⟨by rw [hU], rfl, ?_, ?_, ?_⟩
  · rw [hU]
    refine KX.narrow (A := pA ad w.length) (KX.ren (fun i hi => by show ad (rho [j] i) = ad i; rw [rho, if_neg (by omega)]) ((hK.warm hW).kept hS.2.1)) ?_
    rintro q ⟨i, hi, rfl⟩
    have : i = 0 := by exact Nat.lt_one_iff.mp hi
    subst this
    exact ⟨j, pg_lt hj, rfl⟩
  · intro k q hk
    rw [hU]
    cases k with
    | zero =>
      cases hk
      have h := hP j _ (cW_at hj)
      show va_at D vwCl (ad j, .inr (ci, fs.map (cV _))) H
      have h : va_at D vwCl (ad j, .inr (ci, fs.map (cV ad))) H := h
      rw [fsK hfs] at h ⊢
      exact h
    | succ k => cases hk
  · intro i k hi hk _
    have h1 : i < 1 := hi
    have h2 : k < 1 := hk
    omega
/-- what the tables say of a constructor that is called -/
def LI (own : String) (idx : Nat) (y : MethodName) (cy : ByteArray) (mL : Nat) : Prop := LC y cy mL none 0 ∧ Cond.methodLink own idx y ∈ tbG ∧ Cond.instanceMethod y ∈ tbG ∧ y.name = "<init>"
def LIN (own : String) (idx : Nat) (y : MethodName) (cy : ByteArray) (mL : Nat) : Prop := LC y cy mL none 0 ∧ (own, idx, y, RX4) ∈ nestT ∧ Cond.instanceMethod y ∈ tbG ∧ y.name = "<init>"
theorem v_cI {X : VX} {cc : ByteArray} {own : String} {d pc : Nat} {lo : List (Option Value)} {st : List Value} {w : PW} {d' idx j ci mc1 ms1 : Nat} {y : MethodName} {cy : ByteArray} {mL : Nat} {fs : List Value} {w1 : PW} {mc ms kc0 ks0 n0 : Nat} (w2 : PW) (g : VG X cc own d) (q : QC X mc ms kc0 ks0 n0) (hd : decode cc pc = .ok (.invokespecial idx, 3)) (hL : LI own idx y cy mL) (hM : RunN d' mc1 ms1 y cy mL [.inr (ci, fs)] w1) (hdd : d' + 1 ≤ d) (hj : pg w j = some (.inr (ci, fs))) (hfs : fs.all cK = true) (hfr : frs X j) (hw0 : w.length = n0) (hr1 : kc0 + mc1 ≤ mc) (hr2 : ks0 + ms1 ≤ ms) (hw1 : 1 ≤ w1.length) (hlt : n0 + w1.length ≤ 1000) (hlo : lo.all (clO n0) = true) (hst : st.all (clV n0) = true) (hcw : w.all (clE n0) = true) (hc1 : w1.all (clE w1.length) = true) (hW : (st.map fun v => v.category).sum ≤ 8) (hmr : mrg w j w1 = w2)
    (k : ∀ ad', agr X ad' (w1.length - 1) → V (gro X ad' (w1.length - 1) mc1 ms1) (pc + 3) lo st w2) : V X pc lo (.ref j :: st) w := by
  obtain ⟨p, l, e, R, s, m, args, below, meth, c, D, cI, cJ, ad, N, Z, nL, kc, ks⟩ := X
  obtain ⟨hx, hb, hml, hown, hts, hK, hinj, hR, hC⟩ := g
  intro hN H locs ls hP hS hl
  obtain ⟨e1, e2, rfl, rfl, rfl⟩ := q
  obtain ⟨⟨l1, l2, l3, l4, l5, l6⟩, l7, l8, l9⟩ := hL
  subst hmr
  have hRR : (rmN d' mc1 ms1).frames + 1 ≤ R.frames ∧ 8 + (mL + 11) + (rmN d' mc1 ms1).locals ≤ R.locals := ⟨by have := hR.1; show d' + 1 ≤ _; omega, by have := hR.2; show 8 + (mL + 11) + 38 * d' ≤ _; omega⟩
  subst hw0
  have hlen : (mrg w j w1).length = w.length + (w1.length - 1) := by
    cases w1 with
    | nil => simp at hw1
    | cons x r =>
      show (ps w j (rE (shf j w.length) x) ++ r.map (rE (shf j w.length))).length = _
      rw [List.length_append, ps_len, List.length_map, List.length_cons]
      omega
  refine v_coreN (D := D) (cI := cI) (cJ := cJ) (ad := ad) (w := w) (w1 := w1) (j := j) (nL := nL) (lo := lo) (rest := st) (va_runI (As := []) (b := ad j) (rest := st.map (cV ad)) ⟨hx, hb, hml, hown, hts⟩ (hM l D cI cJ (fun i => ad (rho [j] i)) H.size) (cwI 0 hts (fun x hx => by
      rcases List.mem_cons.mp hx with rfl | hx
      · exact tbG_good _ l2
      · exact tbG_good _ hx) rfl rfl rfl (hts _ l1) (hts _ l7) (hts _ l8) l9 ⟨l3, l4, l5⟩ hRR) ⟨PcN.blind, fun U hU hW => vPcN hK hP hS hj hfs hU hW⟩ rfl rfl hl.1 rfl (lv_room (by rw [cV_sum]; exact hW)) hd ⟨by omega, by omega⟩) hS hP hinj hl (pg_lt hj) hfr hw1 hlt hlo hst hcw hc1 (fun ad' ha H1 ls1 hP1 hS1 hl1 => k ad' ha hlen H1 locs ls1 hP1 hS1 hl1)
theorem v_cIN {X : VX} {cc : ByteArray} {own : String} {d pc : Nat} {lo : List (Option Value)} {st : List Value} {w : PW} {d' idx j ci mc1 ms1 : Nat} {y : MethodName} {cy : ByteArray} {mL : Nat} {fs : List Value} {w1 : PW} {mc ms kc0 ks0 n0 : Nat} (w2 : PW) (g : VG X cc own d) (q : QC X mc ms kc0 ks0 n0) (hd : decode cc pc = .ok (.invokespecial idx, 3)) (hL : LIN own idx y cy mL) (hM : RunN d' mc1 ms1 y cy mL [.inr (ci, fs)] w1) (hdd : d' + 1 ≤ d) (hj : pg w j = some (.inr (ci, fs))) (hfs : fs.all cK = true) (hfr : frs X j) (hw0 : w.length = n0) (hr1 : kc0 + mc1 ≤ mc) (hr2 : ks0 + ms1 ≤ ms) (hw1 : 1 ≤ w1.length) (hlt : n0 + w1.length ≤ 1000) (hlo : lo.all (clO n0) = true) (hst : st.all (clV n0) = true) (hcw : w.all (clE n0) = true) (hc1 : w1.all (clE w1.length) = true) (hW : (st.map fun v => v.category).sum ≤ 8) (hmr : mrg w j w1 = w2)
    (k : ∀ ad', agr X ad' (w1.length - 1) → V (gro X ad' (w1.length - 1) mc1 ms1) (pc + 3) lo st w2) : V X pc lo (.ref j :: st) w := by
  obtain ⟨p, l, e, R, s, m, args, below, meth, c, D, cI, cJ, ad, N, Z, nL, kc, ks⟩ := X
  obtain ⟨hx, hb, hml, hown, hts, hK, hinj, hR, hC⟩ := g
  intro hN H locs ls hP hS hl
  obtain ⟨e1, e2, rfl, rfl, rfl⟩ := q
  obtain ⟨⟨l1, l2, l3, l4, l5, l6⟩, l7, l8, l9⟩ := hL
  subst hmr
  have hRR : (rmN d' mc1 ms1).frames + 1 ≤ R.frames ∧ 8 + (mL + 11) + (rmN d' mc1 ms1).locals ≤ R.locals := ⟨by have := hR.1; show d' + 1 ≤ _; omega, by have := hR.2; show 8 + (mL + 11) + 38 * d' ≤ _; omega⟩
  subst hw0
  have hlen : (mrg w j w1).length = w.length + (w1.length - 1) := by
    cases w1 with
    | nil => simp at hw1
    | cons x r =>
      show (ps w j (rE (shf j w.length) x) ++ r.map (rE (shf j w.length))).length = _
      rw [List.length_append, ps_len, List.length_map, List.length_cons]
      omega
  refine v_coreN (D := D) (cI := cI) (cJ := cJ) (ad := ad) (w := w) (w1 := w1) (j := j) (nL := nL) (lo := lo) (rest := st) (va_runIN (host := RX4) (As := []) (b := ad j) (rest := st.map (cV ad)) ⟨hx, hb, hml, hown, hts⟩ (hM l D cI cJ (fun i => ad (rho [j] i)) H.size) ⟨va_cnB 0 hts (fun x hx => by
      rcases List.mem_cons.mp hx with rfl | hx
      · exact tbG_good _ l2
      · exact tbG_good _ hx) rfl rfl rfl (hK.2.1 _ l7) (hts _ l1) ⟨l3, l4, l5⟩ hRR, l9, hts _ l8⟩ ⟨PcN.blind, fun U hU hW => vPcN hK hP hS hj hfs hU hW⟩ rfl rfl hl.1 rfl (lv_room (by rw [cV_sum]; exact hW)) hd ⟨by omega, by omega⟩) hS hP hinj hl (pg_lt hj) hfr hw1 hlt hlo hst hcw hc1 (fun ad' ha H1 ls1 hP1 hS1 hl1 => k ad' ha hlen H1 locs ls1 hP1 hS1 hl1)
theorem n_newI {P : VX → Prop} (hPg : ∀ (X : VX) (ad1 : Nat → Nat) (dN dc ds : Nat), agr X ad1 dN → P X → P (gro X ad1 dN dc ds)) {X : VX} {cc : ByteArray} {own : String} {d pc : Nat} {lo : List (Option Value)} {st : List Value} {w : PW} {n : Int32} (K : Nat) {mc ms kc0 ks0 n0 : Nat} (g : VG X cc own d) (q : QC X mc ms kc0 ks0 n0) (hp : P X) (hd : decode cc pc = .ok (.newarray .int, 2)) (hn : n = nI K) (hK0 : K < 1000) (hw0 : w.length = n0) (hlt : n0 < 1000) (hr1 : kc0 + 1 ≤ mc) (hr2 : ks0 + K ≤ ms) (hlo : lo.all (clO n0) = true) (hst : st.all (clV n0) = true) (hcw : w.all (clE n0) = true)
    (k : ∀ X : VX, VG X cc own d → QC X mc ms (kc0 + 1) (ks0 + K) (n0 + 1) → P X → V X (pc + 2) lo (.ref n0 :: st) (w ++ [.inl (K, .inl (fun _ => 0))])) : V X pc lo (.int n :: st) w :=
  v_newI K g q hd hn hK0 hw0 hlt hr1 hr2 hlo hst hcw (fun ad1 ha => k _ (g.gro q ha hr1 hr2) (q.gro ad1 1 1 K) (hPg X ad1 1 1 K ha hp))
theorem n_newJ {P : VX → Prop} (hPg : ∀ (X : VX) (ad1 : Nat → Nat) (dN dc ds : Nat), agr X ad1 dN → P X → P (gro X ad1 dN dc ds)) {X : VX} {cc : ByteArray} {own : String} {d pc : Nat} {lo : List (Option Value)} {st : List Value} {w : PW} {n : Int32} (K : Nat) {mc ms kc0 ks0 n0 : Nat} (g : VG X cc own d) (q : QC X mc ms kc0 ks0 n0) (hp : P X) (hd : decode cc pc = .ok (.newarray .long, 2)) (hn : n = nI K) (hK0 : K < 1000) (hw0 : w.length = n0) (hlt : n0 < 1000) (hr1 : kc0 + 1 ≤ mc) (hr2 : ks0 + K ≤ ms) (hlo : lo.all (clO n0) = true) (hst : st.all (clV n0) = true) (hcw : w.all (clE n0) = true)
    (k : ∀ X : VX, VG X cc own d → QC X mc ms (kc0 + 1) (ks0 + K) (n0 + 1) → P X → V X (pc + 2) lo (.ref n0 :: st) (w ++ [.inl (K, .inr (.inl (fun _ => 0)))])) : V X pc lo (.int n :: st) w :=
  v_newJ K g q hd hn hK0 hw0 hlt hr1 hr2 hlo hst hcw (fun ad1 ha => k _ (g.gro q ha hr1 hr2) (q.gro ad1 1 1 K) (hPg X ad1 1 1 K ha hp))
theorem n_newO {P : VX → Prop} (hPg : ∀ (X : VX) (ad1 : Nat → Nat) (dN dc ds : Nat), agr X ad1 dN → P X → P (gro X ad1 dN dc ds)) {X : VX} {cc : ByteArray} {own : String} {d pc : Nat} {lo : List (Option Value)} {st : List Value} {w : PW} {idx ci n : Nat} (fs : List Value) {mc ms kc0 ks0 n0 : Nat} (g : VG X cc own d) (q : QC X mc ms kc0 ks0 n0) (hp : P X) (hd : decode cc pc = .ok (.new idx, 3)) (hF : NW own idx ci n fs) (hw0 : w.length = n0) (hlt : n0 < 1000) (hr1 : kc0 + 1 ≤ mc) (hr2 : ks0 + n ≤ ms) (hlo : lo.all (clO n0) = true) (hst : st.all (clV n0) = true) (hcw : w.all (clE n0) = true) (hcx : clE n0 (.inr (ci, fs)) = true)
    (k : ∀ X : VX, VG X cc own d → QC X mc ms (kc0 + 1) (ks0 + n) (n0 + 1) → P X → V X (pc + 3) lo (.ref n0 :: st) (w ++ [.inr (ci, fs)])) : V X pc lo st w :=
  v_newO fs g q hd hF hw0 hlt hr1 hr2 hlo hst hcw hcx (fun ad1 ha => k _ (g.gro q ha hr1 hr2) (q.gro ad1 1 1 n) (hPg X ad1 1 1 n ha hp))
theorem n_cI {P : VX → Prop} (hPg : ∀ (X : VX) (ad1 : Nat → Nat) (dN dc ds : Nat), agr X ad1 dN → P X → P (gro X ad1 dN dc ds)) {X : VX} {cc : ByteArray} {own : String} {d pc : Nat} {lo : List (Option Value)} {st : List Value} {w : PW} {d' idx j ci mc1 ms1 : Nat} {y : MethodName} {cy : ByteArray} {mL : Nat} {fs : List Value} {w1 : PW} {mc ms kc0 ks0 n0 : Nat} (w2 : PW) (g : VG X cc own d) (q : QC X mc ms kc0 ks0 n0) (hp : P X) (hd : decode cc pc = .ok (.invokespecial idx, 3)) (hL : LI own idx y cy mL) (hM : RunN d' mc1 ms1 y cy mL [.inr (ci, fs)] w1) (hdd : d' + 1 ≤ d) (hj : pg w j = some (.inr (ci, fs))) (hfs : fs.all cK = true) (hfr : frs X j) (hw0 : w.length = n0) (hr1 : kc0 + mc1 ≤ mc) (hr2 : ks0 + ms1 ≤ ms) (hw1 : 1 ≤ w1.length) (hlt : n0 + w1.length ≤ 1000) (hlo : lo.all (clO n0) = true) (hst : st.all (clV n0) = true) (hcw : w.all (clE n0) = true) (hc1 : w1.all (clE w1.length) = true) (hW : (st.map fun v => v.category).sum ≤ 8) (hmr : mrg w j w1 = w2)
    (k : ∀ X : VX, VG X cc own d → QC X mc ms (kc0 + mc1) (ks0 + ms1) (n0 + (w1.length - 1)) → P X → V X (pc + 3) lo st w2) : V X pc lo (.ref j :: st) w :=
  v_cI w2 g q hd hL hM hdd hj hfs hfr hw0 hr1 hr2 hw1 hlt hlo hst hcw hc1 hW hmr (fun ad1 ha => k _ (g.gro q ha hr1 hr2) (q.gro ad1 _ mc1 ms1) (hPg X ad1 _ mc1 ms1 ha hp))
theorem n_cIN {P : VX → Prop} (hPg : ∀ (X : VX) (ad1 : Nat → Nat) (dN dc ds : Nat), agr X ad1 dN → P X → P (gro X ad1 dN dc ds)) {X : VX} {cc : ByteArray} {own : String} {d pc : Nat} {lo : List (Option Value)} {st : List Value} {w : PW} {d' idx j ci mc1 ms1 : Nat} {y : MethodName} {cy : ByteArray} {mL : Nat} {fs : List Value} {w1 : PW} {mc ms kc0 ks0 n0 : Nat} (w2 : PW) (g : VG X cc own d) (q : QC X mc ms kc0 ks0 n0) (hp : P X) (hd : decode cc pc = .ok (.invokespecial idx, 3)) (hL : LIN own idx y cy mL) (hM : RunN d' mc1 ms1 y cy mL [.inr (ci, fs)] w1) (hdd : d' + 1 ≤ d) (hj : pg w j = some (.inr (ci, fs))) (hfs : fs.all cK = true) (hfr : frs X j) (hw0 : w.length = n0) (hr1 : kc0 + mc1 ≤ mc) (hr2 : ks0 + ms1 ≤ ms) (hw1 : 1 ≤ w1.length) (hlt : n0 + w1.length ≤ 1000) (hlo : lo.all (clO n0) = true) (hst : st.all (clV n0) = true) (hcw : w.all (clE n0) = true) (hc1 : w1.all (clE w1.length) = true) (hW : (st.map fun v => v.category).sum ≤ 8) (hmr : mrg w j w1 = w2)
    (k : ∀ X : VX, VG X cc own d → QC X mc ms (kc0 + mc1) (ks0 + ms1) (n0 + (w1.length - 1)) → P X → V X (pc + 3) lo st w2) : V X pc lo (.ref j :: st) w :=
  v_cIN w2 g q hd hL hM hdd hj hfs hfr hw0 hr1 hr2 hw1 hlt hlo hst hcw hc1 hW hmr (fun ad1 ha => k _ (g.gro q ha hr1 hr2) (q.gro ad1 _ mc1 ms1) (hPg X ad1 _ mc1 ms1 ha hp))
def PN (nb mc ms : Nat) (w1 : PW) (mL : Nat) (X : VX) : Prop := VN X nb mc ms w1 ∧ isIn X ∧ nLo X = mL
theorem PNg (nb mc ms : Nat) (w1 : PW) (mL : Nat) (X : VX) (ad1 : Nat → Nat) (dN dc ds : Nat) (ha : agr X ad1 dN) (h : PN nb mc ms w1 mL X) : PN nb mc ms w1 mL (gro X ad1 dN dc ds) := ⟨h.1.gro dc ds ha, h.2.1.gro _ _ _ _, nLo_gro h.2.2⟩
