/-! ===== calls ===== -/
def stk : List Value → List Value → List Value
  | [], st => st
  | a :: l, st => stk l (a :: st)
def pushO : Option Value → List Value → List Value
  | none, st => st
  | some v, st => v :: st
theorem stk_eq : ∀ (l st : List Value), stk l st = l.reverse ++ st
  | [], st => rfl
  | a :: l, st => by rw [stk, stk_eq l (a :: st), List.reverse_cons, List.append_assoc]; rfl
theorem pushO_map (ad : Nat → Nat) (r : Option Value) (st : List Value) : (r.map (cV ad)).toList ++ st.map (cV ad) = (pushO r st).map (cV ad) := by cases r <;> rfl
def LC (y : MethodName) (cy : ByteArray) (mL : Nat) (ret : Option FieldType) (n : Nat) : Prop := Cond.initialized y.cls ∈ tbG ∧ Cond.code y cy mL ret ∈ tbG ∧ y.cls ≠ "java/lang/invoke/MethodHandle" ∧ y.cls ≠ "java/lang/invoke/VarHandle" ∧ (parseMethodDescriptor y.desc).map (fun d => d.parameters.length) = some n ∧ mL ≤ 19
def LV (own : String) (idx : Nat) (y : MethodName) (cy : ByteArray) (mL : Nat) (ret : Option FieldType) (n : Nat) : Prop := LC y cy mL ret n ∧ Cond.methodLink own idx y ∈ tbG ∧ Cond.instanceMethod y ∈ tbG ∧ Cond.selects y.cls y y ∈ tbG
def LSt (own : String) (idx : Nat) (y : MethodName) (cy : ByteArray) (mL : Nat) (ret : Option FieldType) (n : Nat) : Prop := LC y cy mL ret n ∧ Cond.methodLink own idx y ∈ tbG ∧ Cond.static y ∈ tbG
def LN (own : String) (idx : Nat) (y : MethodName) (cy : ByteArray) (mL : Nat) (ret : Option FieldType) (n : Nat) : Prop := LC y cy mL ret n ∧ (own, idx, y, RX4) ∈ nestT ∧ Cond.static y ∈ tbG
theorem tbG_code {y : MethodName} {cy : ByteArray} {mL : Nat} {ret : Option FieldType} (h : Cond.code y cy mL ret ∈ tbG) : GoodIn tbG (Cond.code y cy mL ret :: tbG) := fun w hw => by
  rcases List.mem_cons.mp hw with rfl | h1
  · exact tbG_good _ h
  · exact tbG_good _ h1
theorem v_core {p : Program} {l : Launch} {e : Env} {R : Room} {s : State} {m : MethodId} {args : Array Value} {below : List Frame} {meth : Method} {c : Code} {H : Heap} {locs : List Loc} {kc ks N pc : Nat} {Z : State → Prop} {D : va_G} {cI cJ : ClassId} {ad : Nat → Nat} {ls : Array Slot} {st0 rest : List Value} {Q' : Option Value → PW → Prop} {a : Array Value}
    (hr : va_Run p l e R s m args below meth c H locs kc ks 0 0 (F0 m pc ls st0) (rest.map (cV ad)) (QcV D cI cJ ad N Q' a) (pA ad N)) (hS : va_S (pA ad N) s.heap H locs)
    (kk : ∀ (r : Option Value) (w' : PW), Q' r w' → w'.length = N → ∀ (H1 : Heap) (locs1 : List Loc), va_P D vwCl (cWf cI cJ ad 0 w') H1 → va_S (pA ad N) s.heap H1 locs1 → W p l e R s m args below meth c H1 locs1 kc ks Z (F0 m (pc + 3) ls ((pushO r rest).map (cV ad)))) : W p l e R s m args below meth c H locs kc ks Z (F0 m pc ls st0) := by
  intro T hT X
  obtain ⟨v, st₀, t, T', L, h0, X', hL, e1, e2, ⟨⟨r, w', hv, hq, hlen, hP1⟩, hz, hk⟩, st⟩ := hr T hT X
  have hv1 : v = r.map (cV ad) := by cases hv; rfl
  subst hv1
  rw [h0] at hz hk
  obtain ⟨t2, a1, b1⟩ := kk r w' hq hlen T'.heap (locs ++ L) (by rw [e1]; exact hP1)
    ⟨Nat.le_trans hS.1 (by rw [e1]; exact hz), fun q h1 h2 => by rw [e1, hk q (Nat.lt_of_lt_of_le h1 hS.1) h2]; exact hS.2.1 q h1 h2, fun q hq => by
      rcases List.mem_append.mp hq with h | h
      · exact hS.2.2 q h
      · exact hL q h⟩ T' rfl X'
  refine ⟨t2, st t2 ?_, b1⟩
  rw [pushO_map]
  exact a1
theorem vPc {D : va_G} {cI cJ : ClassId} {ad : Nat → Nat} {s U : State} {H : Heap} {locs : List Loc} {w : PW} {av : List Value} (hK : KX D cI cJ ad (pA ad w.length) s s.heap) (hP : va_P D vwCl (cWf cI cJ ad 0 w) H) (hS : va_S (pA ad w.length) s.heap H locs) (hinj : ∀ i j : Nat, i < w.length → j < w.length → ad i = ad j → i = j) (hU : U.heap = H) (hW : s.WarmedH U.vm) : PcV D cI cJ ad av w (av.map (cV ad)).toArray U := by
  refine ⟨rfl, ?_, by rw [hU]; exact hP, hinj⟩
  rw [hU]
  exact (hK.warm hW).kept hS.2.1
theorem v_cV {X : VX} {cc : ByteArray} {own : String} {d d' pc : Nat} {lo : List (Option Value)} {rest st : List Value} {w : PW} {idx : Nat} {y : MethodName} {cy : ByteArray} {mL : Nat} {ret : Option FieldType} {b ci : Nat} {As fs : List Value} {Q' : Option Value → PW → Prop} (g : VG X cc own d) (hd : decode cc pc = .ok (.invokevirtual idx, 3)) {n0 : Nat} (hL : LV own idx y cy mL ret n0) (hdd : d' + 1 ≤ d)
    (hM : Runs d' y cy mL ret (.ref b :: As) w Q') (hn0 : As.length = n0) (hst : st = stk (.ref b :: As) rest) (hw : pg w b = some (.inr (ci, fs))) (hci : (pg vwCl ci).map (fun q => q.1) = some y.cls) (hW : (rest.map fun v => v.category).sum ≤ 8) (k : ∀ (r : Option Value) (w' : PW), Q' r w' → V X (pc + 3) lo (pushO r rest) w') : V X pc lo st w := by
  obtain ⟨p, l, e, R, s, m, args, below, meth, c, D, cI, cJ, ad, N, Z, nL, kc, ks⟩ := X
  obtain ⟨hx, hb, hml, hown, hts, hK, hinj, hR, hC⟩ := g
  obtain ⟨⟨l1, l2, l3, l4, l5, l6⟩, l7, l8, l9⟩ := hL
  intro hN H locs ls hP hS hl
  subst hN
  subst hn0
  rw [stk_eq, List.reverse_cons, List.append_assoc] at hst
  subst hst
  cases hq : pg vwCl ci with
  | none => rw [hq] at hci; cases hci
  | some q =>
  rw [hq] at hci
  have hq1 : q.1 = y.cls := Option.some.inj hci
  have hgood : GoodIn tbG (wsV own idx y.cls y (Cond.code y cy mL ret :: tbG)) := fun x hx => by
    simp only [wsV, List.cons_append, List.nil_append, List.mem_cons] at hx
    rcases hx with rfl | rfl | rfl | rfl | rfl | hx
    · exact tbG_good _ l7
    · exact tbG_good _ l8
    · exact tbG_good _ l9
    · exact tbG_good _ l1
    · exact tbG_good _ l2
    · exact tbG_good _ hx
  have hrecv := va_recv (D := D) (cl := vwCl) (q := q) hK.1 hP (by rw [← pg_eq]; exact hq) (cW_at hw)
  rw [hq1] at hrecv
  refine v_core (D := D) (cI := cI) (cJ := cJ) (ad := ad) (N := w.length) (rest := rest) (Q' := Q') (va_runV (As := As.map (cV ad)) (b := ad b) (rest := rest.map (cV ad)) ⟨hx, hb, hml, hown, hts⟩ (hM l D cI cJ ad) (cwV As.length hts hgood rfl rfl rfl ⟨rfl, l3, l4, l5⟩ ⟨by have := hR.1; show d' + 1 ≤ _; omega, by have := hR.2; show 8 + (mL + 11) + 38 * d' ≤ _; omega⟩) ⟨PcV.blind, hrecv, fun U hU hW => vPc hK hP hS hinj hU hW⟩ rfl (by rw [List.length_map]) hl.1 (by rw [List.map_append, List.map_reverse]; rfl) ?_ hd ⟨hC.1, hC.2⟩) hS (fun r w' hq hlen H1 locs1 hP1 hS1 => k r w' hq hlen H1 locs1 ls hP1 hS1 hl)
  exact lv_room (by rw [cV_sum]; exact hW)
theorem v_cS {X : VX} {cc : ByteArray} {own : String} {d d' pc : Nat} {lo : List (Option Value)} {rest st : List Value} {w : PW} {idx : Nat} {y : MethodName} {cy : ByteArray} {mL : Nat} {ret : Option FieldType} {As : List Value} {Q' : Option Value → PW → Prop} (g : VG X cc own d) (hd : decode cc pc = .ok (.invokestatic idx, 3)) {n0 : Nat} (hL : LSt own idx y cy mL ret n0) (hdd : d' + 1 ≤ d)
    (hM : Runs d' y cy mL ret As w Q') (hn0 : As.length = n0) (hst : st = stk As rest) (hW : (rest.map fun v => v.category).sum ≤ 8) (k : ∀ (r : Option Value) (w' : PW), Q' r w' → V X (pc + 3) lo (pushO r rest) w') : V X pc lo st w := by
  obtain ⟨p, l, e, R, s, m, args, below, meth, c, D, cI, cJ, ad, N, Z, nL, kc, ks⟩ := X
  obtain ⟨hx, hb, hml, hown, hts, hK, hinj, hR, hC⟩ := g
  obtain ⟨⟨l1, l2, l3, l4, l5, l6⟩, l7, l8⟩ := hL
  intro hN H locs ls hP hS hl
  subst hN
  subst hn0
  rw [stk_eq] at hst
  subst hst
  have hgood : GoodIn tbG (va_wsS own idx y (Cond.code y cy mL ret :: tbG)) := fun x hx => by
    simp only [va_wsS, List.cons_append, List.nil_append, List.mem_cons] at hx
    rcases hx with rfl | rfl | rfl | rfl | hx
    · exact tbG_good _ l7
    · exact tbG_good _ l8
    · exact tbG_good _ l1
    · exact tbG_good _ l2
    · exact tbG_good _ hx
  refine v_core (D := D) (cI := cI) (cJ := cJ) (ad := ad) (N := w.length) (rest := rest) (Q' := Q') (va_runS (As := As.map (cV ad)) (rest := rest.map (cV ad)) ⟨hx, hb, hml, hown, hts⟩ (hM l D cI cJ ad) (va_cwS As.length hts hgood rfl rfl rfl ⟨l3, l4, l5⟩ ⟨by have := hR.1; show d' + 1 ≤ _; omega, by have := hR.2; show 8 + (mL + 11) + 38 * d' ≤ _; omega⟩) ⟨PcV.blind, fun U hU hW => vPc hK hP hS hinj hU hW⟩ rfl (by rw [List.length_map]) hl.1 (by rw [List.map_append, List.map_reverse]) ?_ hd ⟨hC.1, hC.2⟩) hS (fun r w' hq hlen H1 locs1 hP1 hS1 => k r w' hq hlen H1 locs1 ls hP1 hS1 hl)
  exact lv_room (by rw [cV_sum]; exact hW)
theorem v_cN {X : VX} {cc : ByteArray} {own : String} {d d' pc : Nat} {lo : List (Option Value)} {rest st : List Value} {w : PW} {idx : Nat} {y : MethodName} {cy : ByteArray} {mL : Nat} {ret : Option FieldType} {As : List Value} {Q' : Option Value → PW → Prop} (g : VG X cc own d) (hd : decode cc pc = .ok (.invokestatic idx, 3)) {n0 : Nat} (hL : LN own idx y cy mL ret n0) (hdd : d' + 1 ≤ d)
    (hM : Runs d' y cy mL ret As w Q') (hn0 : As.length = n0) (hst : st = stk As rest) (hW : (rest.map fun v => v.category).sum ≤ 8) (k : ∀ (r : Option Value) (w' : PW), Q' r w' → V X (pc + 3) lo (pushO r rest) w') : V X pc lo st w := by
  obtain ⟨p, l, e, R, s, m, args, below, meth, c, D, cI, cJ, ad, N, Z, nL, kc, ks⟩ := X
  obtain ⟨hx, hb, hml, hown, hts, hK, hinj, hR, hC⟩ := g
  obtain ⟨⟨l1, l2, l3, l4, l5, l6⟩, l7, l8⟩ := hL
  intro hN H locs ls hP hS hl
  subst hN
  subst hn0
  rw [stk_eq] at hst
  subst hst
  refine v_core (D := D) (cI := cI) (cJ := cJ) (ad := ad) (N := w.length) (rest := rest) (Q' := Q') (va_runSN (host := RX4) (As := As.map (cV ad)) (rest := rest.map (cV ad)) ⟨hx, hb, hml, hown, hts⟩ (hM l D cI cJ ad) ⟨va_cnB As.length hts (tbG_code l2) rfl rfl rfl (hK.2.1 _ l7) (hts _ l1) ⟨l3, l4, l5⟩ ⟨by have := hR.1; show d' + 1 ≤ _; omega, by have := hR.2; show 8 + (mL + 11) + 38 * d' ≤ _; omega⟩, hts _ l8, trivial⟩ ⟨PcV.blind, fun U hU hW => vPc hK hP hS hinj hU hW⟩ rfl (by rw [List.length_map]) hl.1 (by rw [List.map_append, List.map_reverse]) ?_ hd ⟨hC.1, hC.2⟩) hS (fun r w' hq hlen H1 locs1 hP1 hS1 => k r w' hq hlen H1 locs1 ls hP1 hS1 hl)
  exact lv_room (by rw [cV_sum]; exact hW)
/-! ===== a contract over a part of the world ===== -/
def rho (pl : List Nat) (i : Nat) : Nat := if i < 1000 then (pg pl i).getD 0 else i
def rV (f : Nat → Nat) (v : Value) : Value := match v with
  | .ref k => .ref (f k)
  | v => v
def rE (f : Nat → Nat) (x : PE) : PE := match x with
  | .inl a => .inl a
  | .inr o => .inr (o.1, o.2.map (rV f))
def upW : PW → List Nat → PW → PW
  | w, p :: pl, x :: xs => upW (ps w p x) pl xs
  | w, _, _ => w
theorem cV_rV (ad f : Nat → Nat) (v : Value) : cV (fun i => ad (f i)) v = cV ad (rV f v) := by cases v <;> rfl
theorem cE_rE (cI cJ : ClassId) (ad f : Nat → Nat) (x : PE) : cE cI cJ (fun i => ad (f i)) x = cE cI cJ ad (rE f x) := by
  cases x with
  | inl a => rfl
  | inr o =>
    show Sum.inr (o.1, o.2.map (cV _)) = Sum.inr (o.1, (o.2.map (rV f)).map (cV ad))
    rw [List.map_map]
    congr 2
    exact List.map_congr_left fun v _ => cV_rV ad f v
theorem upW_len : ∀ (pl : List Nat) (xs w : PW), (upW w pl xs).length = w.length
  | [], xs, w => by cases xs <;> rfl
  | p :: pl, [], w => rfl
  | p :: pl, x :: xs, w => by rw [upW, upW_len pl xs, ps_len]
theorem pg_ps_ne {α : Type} (l : List α) {i j : Nat} (h : j ≠ i) (x : α) : pg (ps l i x) j = pg l j := by rw [pg_eq, pg_eq, ps_eq, List.getElem?_set_ne (Ne.symm h)]
theorem pg_ps_eq {α : Type} (l : List α) {i : Nat} (h : i < l.length) (x : α) : pg (ps l i x) i = some x := by rw [pg_eq, ps_eq, List.getElem?_set_self h]
theorem upW_out : ∀ (pl : List Nat) (xs w : PW) (k : Nat), k ∉ pl → pg (upW w pl xs) k = pg w k
  | [], xs, w, k, _ => by cases xs <;> rfl
  | p :: pl, [], w, k, _ => rfl
  | p :: pl, x :: xs, w, k, h => by
    rw [upW, upW_out pl xs _ k (fun z => h (List.mem_cons_of_mem _ z)), pg_ps_ne _ (fun z => h (by rw [z]; exact List.mem_cons_self))]
theorem upW_in : ∀ (pl : List Nat) (xs w : PW) (i k : Nat) (x : PE), va_nd pl = true → (∀ q ∈ pl, q < w.length) → pg pl i = some k → pg xs i = some x → pg (upW w pl xs) k = some x
  | [], xs, w, i, k, x, _, _, h, _ => by simp [pg] at h
  | p :: pl, [], w, i, k, x, _, _, _, h => by simp [pg] at h
  | p :: pl, y :: xs, w, 0, k, x, hn, hl, h1, h2 => by
    simp only [pg, Option.some.injEq] at h1 h2
    subst h1; subst h2
    simp only [va_nd, Bool.and_eq_true, decide_eq_true_eq] at hn
    rw [upW, upW_out pl xs _ _ hn.1, pg_ps_eq _ (hl _ List.mem_cons_self)]
  | p :: pl, y :: xs, w, i + 1, k, x, hn, hl, h1, h2 => by
    simp only [va_nd, Bool.and_eq_true, decide_eq_true_eq] at hn
    exact upW_in pl xs (ps w p y) i k x hn.2 (fun q hq => by rw [ps_len]; exact hl q (List.mem_cons_of_mem _ hq)) h1 h2
theorem Met.weak {l : Launch} {y : MethodName} {ws : List Cond} {rm : Room} {Pc Pc' : Array Value → State → Prop} {Qc Qc' : Array Value → State → Outcome → State → Prop} {mc ms : Nat} {fr fr' : Addr → Prop} (h : Met l y ws rm Pc Qc mc ms fr) (hp : ∀ a s, Pc' a s → Pc a s) (hq : ∀ a s o t, Pc' a s → Qc a s o t → Qc' a s o t) (hf : ∀ q, fr q → fr' q) : Met l y ws rm Pc' Qc' mc ms fr' := by
  intro p e h1 h2 h3 s m args below h4 h5 h6 h7
  obtain ⟨n, o, g1, g2, g3, g4, L, g5, g6⟩ := h p e h1 h2 h3 s m args below h4 h5 (hp _ _ h6) h7
  exact ⟨n, o, g1, g2, g3, hq _ _ _ _ h6 g4, L, g5, fun q hq => hf _ (g6 q hq)⟩
def pickOk (w : PW) (pl : List Nat) (wc : PW) : Prop := pl.map (pg w) = wc.map (fun x => some (rE (rho pl) x))
/-- THE FRAME: what y does in the part wc of the world it does in the world -/
theorem Runs.lift {d : Nat} {y : MethodName} {cc : ByteArray} {mL : Nat} {ret : Option FieldType} {av : List Value} {wc : PW} {Q : Option Value → PW → Prop} (pl : List Nat) {w : PW} {av' : List Value} (h : Runs d y cc mL ret av wc Q) (hav : av.map (rV (rho pl)) = av') (hn : va_nd pl = true) (hb : pl.length ≤ 1000) (hp : pickOk w pl wc) : Runs d y cc mL ret av' w (fun r w' => ∃ r1 w1, Q r1 w1 ∧ w1.length = wc.length ∧ r = r1.map (rV (rho pl)) ∧ w' = upW w pl (w1.map (rE (rho pl)))) := by
  intro l D cI cJ ad
  subst hav
  have hlen : pl.length = wc.length := by have := congrArg List.length hp; simpa using this
  have hrho : ∀ (i k : Nat), pg pl i = some k → rho pl i = k := fun i k hk => by
    have : i < 1000 := Nat.lt_of_lt_of_le (pg_lt hk) hb
    simp [rho, this, hk]
  have hpl : ∀ (i k : Nat), pg pl i = some k → ∃ x, pg wc i = some x ∧ pg w k = some (rE (rho pl) x) := by
    intro i k hk
    obtain ⟨x, hx⟩ := pg_some (l := wc) (i := i) (by rw [← hlen]; exact pg_lt hk)
    refine ⟨x, hx, ?_⟩
    have h1 : (pl.map (pg w))[i]? = (wc.map (fun x => some (rE (rho pl) x)))[i]? := by rw [hp]
    rw [List.getElem?_map, List.getElem?_map, ← pg_eq, ← pg_eq, hk, hx] at h1
    exact Option.some.inj h1
  have hwl : ∀ q ∈ pl, q < w.length := by
    intro q hq
    obtain ⟨i, hi⟩ := List.getElem?_of_mem hq
    rw [← pg_eq] at hi
    obtain ⟨x, -, h2⟩ := hpl i q hi
    exact pg_lt h2
  have hsub : ∀ q, pA (fun i => ad (rho pl i)) wc.length q → pA ad w.length q := by
    rintro q ⟨k, hk, rfl⟩
    obtain ⟨z, hz⟩ := pg_some (l := pl) (i := k) (by rw [hlen]; exact hk)
    exact ⟨z, hwl z (by rw [pg_eq] at hz; exact List.mem_of_getElem? hz), by show ad (rho pl k) = ad z; rw [hrho k z hz]⟩
  refine Met.weak (h l D cI cJ (fun i => ad (rho pl i))) ?_ ?_ hsub
  · rintro a s ⟨rfl, hK, hP, hinj⟩
    refine ⟨?_, ?_, ?_, ?_⟩
    · rw [List.map_map]
      congr 1
      exact List.map_congr_left fun v _ => (cV_rV ad (rho pl) v).symm
    · refine (KX.ren (fun i hi => ?_) hK).narrow hsub
      show ad (rho pl i) = ad i
      rw [rho, if_neg (by omega)]
    · intro k q hk
      rw [cWf_get] at hk
      cases hx : pg wc k with
      | none => rw [hx] at hk; cases hk
      | some x =>
        rw [hx] at hk
        cases hk
        obtain ⟨z, hz⟩ := pg_some (l := pl) (i := k) (by rw [hlen]; exact pg_lt hx)
        obtain ⟨x2, h1, h2⟩ := hpl k z hz
        rw [hx] at h1
        cases h1
        have := hP z _ (cW_at h2)
        show va_at D vwCl (ad (rho pl (0 + k)), cE cI cJ (fun i => ad (rho pl i)) x) s.heap
        rw [cE_rE, Nat.zero_add, hrho k z hz]
        exact this
    · intro i j hi hj he
      obtain ⟨a, ha⟩ := pg_some (l := pl) (i := i) (by rw [hlen]; exact hi)
      obtain ⟨b, hb'⟩ := pg_some (l := pl) (i := j) (by rw [hlen]; exact hj)
      have h1 : ad (rho pl i) = ad (rho pl j) := he
      rw [hrho i a ha, hrho j b hb'] at h1
      rw [pg_eq] at ha hb'
      have hab := hinj a b (hwl a (List.mem_of_getElem? ha)) (hwl b (List.mem_of_getElem? hb')) h1
      subst hab
      exact va_nd_inj pl hn i j a ha hb'
  · rintro a s o t ⟨rfl, hK, hP, hinj⟩ ⟨⟨r, w1, ho, hq, hl1, hP1⟩, hz, hk⟩
    refine ⟨⟨r.map (rV (rho pl)), upW w pl (w1.map (rE (rho pl))), ?_, ⟨r, w1, hq, hl1, rfl, rfl⟩, upW_len _ _ _, ?_⟩, hz, fun q h1 h2 => hk q h1 (fun z => h2 (hsub q z))⟩
    · rw [ho]
      congr 1
      cases r with
      | none => rfl
      | some v => show some (cV _ v) = some (cV ad (rV (rho pl) v)); rw [cV_rV]
    · intro k q hkq
      rw [cWf_get] at hkq
      cases hx : pg (upW w pl (w1.map (rE (rho pl)))) k with
      | none => rw [hx] at hkq; cases hkq
      | some x =>
        rw [hx] at hkq
        cases hkq
        rw [Nat.zero_add]
        have hkl : k < w.length := by rw [← upW_len pl (w1.map (rE (rho pl))) w]; exact pg_lt hx
        by_cases hkp : k ∈ pl
        · obtain ⟨i, hi⟩ := List.getElem?_of_mem hkp
          rw [← pg_eq] at hi
          obtain ⟨x1, hx1⟩ := pg_some (l := w1) (i := i) (by rw [hl1, ← hlen]; exact pg_lt hi)
          have h3 := upW_in pl (w1.map (rE (rho pl))) w i k (rE (rho pl) x1) hn hwl hi (by rw [pg_eq, List.getElem?_map, ← pg_eq, hx1]; rfl)
          rw [hx] at h3
          cases h3
          have h4 := hP1 i _ (cW_at hx1)
          rw [cE_rE] at h4
          rw [hrho i k hi] at h4
          exact h4
        · rw [upW_out pl _ w k hkp] at hx
          have h4 := hP k _ (cW_at hx)
          refine h4.kept (hk _ h4.lt ?_)
          rintro ⟨i, hi, he⟩
          obtain ⟨z, hz⟩ := pg_some (l := pl) (i := i) (by rw [hlen]; exact hi)
          have he2 : ad k = ad (rho pl i) := he
          rw [hrho i z hz] at he2
          rw [pg_eq] at hz
          have := hinj k z hkl (hwl z (List.mem_of_getElem? hz)) he2
          subst this
          exact hkp (List.mem_of_getElem? hz)
theorem Runs.post {d : Nat} {y : MethodName} {cc : ByteArray} {mL : Nat} {ret : Option FieldType} {av : List Value} {w : PW} {Q Q2 : Option Value → PW → Prop} (h : Runs d y cc mL ret av w Q) (hq : ∀ r w', Q r w' → Q2 r w') : Runs d y cc mL ret av w Q2 := fun l D cI cJ ad => Met.weak (h l D cI cJ ad) (fun _ _ h => h) (fun _ _ _ _ _ ⟨⟨r, w1, h1, h2, h3⟩, h4⟩ => ⟨⟨r, w1, h1, hq r w1 h2, h3⟩, h4⟩) (fun _ h => h)
/-- a contract with one answer and one world behind it -/
abbrev RunD (d : Nat) (y : MethodName) (cc : ByteArray) (mL : Nat) (ret : Option FieldType) (av : List Value) (w : PW) (r : Option Value) (w' : PW) : Prop := Runs d y cc mL ret av w (fun r0 w0 => r0 = r ∧ w0 = w')
theorem RunD.lift {d : Nat} {y : MethodName} {cc : ByteArray} {mL : Nat} {ret : Option FieldType} {av : List Value} {wc wc' : PW} {r : Option Value} (pl : List Nat) {w : PW} {av' : List Value} (r' : Option Value) (w' : PW) (h : RunD d y cc mL ret av wc r wc') (hav : av.map (rV (rho pl)) = av') (hn : va_nd pl = true) (hb : pl.length ≤ 1000) (hp : pickOk w pl wc) (hr : r.map (rV (rho pl)) = r') (hw' : upW w pl (wc'.map (rE (rho pl))) = w') : RunD d y cc mL ret av' w r' w' := by
  refine (Runs.lift pl h hav hn hb hp).post ?_
  rintro r0 w0 ⟨r1, w1, ⟨rfl, rfl⟩, -, rfl, rfl⟩
  exact ⟨hr, hw'⟩
/-- a method without a world -/
theorem RunD.any {d : Nat} {y : MethodName} {cc : ByteArray} {mL : Nat} {ret : Option FieldType} {av : List Value} {v : Value} (h : RunD d y cc mL ret av [] (some v) []) (hk : av.all cK = true) (hv : cK v = true) (w : PW) : RunD d y cc mL ret av w (some v) w := by
  refine RunD.lift [] (some v) w h ?_ rfl (Nat.zero_le _) rfl ?_ rfl
  · refine (List.map_congr_left fun u hu => ?_).trans (List.map_id _)
    have := List.all_eq_true.mp hk u hu
    cases u <;> first | rfl | simp [cK] at this
  · cases v <;> first | rfl | simp [cK] at hv
/-- a call with one answer -/
theorem v_cVd {X : VX} {cc : ByteArray} {own : String} {d d' pc : Nat} {lo : List (Option Value)} {rest st : List Value} {w w' : PW} {idx : Nat} {y : MethodName} {cy : ByteArray} {mL : Nat} {ret : Option FieldType} {b ci : Nat} {As fs : List Value} {r : Option Value} (g : VG X cc own d) (hd : decode cc pc = .ok (.invokevirtual idx, 3)) {n0 : Nat} (hL : LV own idx y cy mL ret n0) (hM : RunD d' y cy mL ret (.ref b :: As) w r w') (hdd : d' + 1 ≤ d) (hn0 : As.length = n0) (hst : st = stk (.ref b :: As) rest) (hw : pg w b = some (.inr (ci, fs))) (hci : (pg vwCl ci).map (fun q => q.1) = some y.cls) (hW : (rest.map fun v => v.category).sum ≤ 8) (k : V X (pc + 3) lo (pushO r rest) w') : V X pc lo st w :=
  v_cV g hd hL hdd hM hn0 hst hw hci hW (fun r0 w0 h => by obtain ⟨rfl, rfl⟩ := h; exact k)
theorem v_cSd {X : VX} {cc : ByteArray} {own : String} {d d' pc : Nat} {lo : List (Option Value)} {rest st : List Value} {w w' : PW} {idx : Nat} {y : MethodName} {cy : ByteArray} {mL : Nat} {ret : Option FieldType} {As : List Value} {r : Option Value} (g : VG X cc own d) (hd : decode cc pc = .ok (.invokestatic idx, 3)) {n0 : Nat} (hL : LSt own idx y cy mL ret n0) (hM : RunD d' y cy mL ret As w r w') (hdd : d' + 1 ≤ d) (hn0 : As.length = n0) (hst : st = stk As rest) (hW : (rest.map fun v => v.category).sum ≤ 8) (k : V X (pc + 3) lo (pushO r rest) w') : V X pc lo st w :=
  v_cS g hd hL hdd hM hn0 hst hW (fun r0 w0 h => by obtain ⟨rfl, rfl⟩ := h; exact k)
theorem v_cNd {X : VX} {cc : ByteArray} {own : String} {d d' pc : Nat} {lo : List (Option Value)} {rest st : List Value} {w w' : PW} {idx : Nat} {y : MethodName} {cy : ByteArray} {mL : Nat} {ret : Option FieldType} {As : List Value} {r : Option Value} (g : VG X cc own d) (hd : decode cc pc = .ok (.invokestatic idx, 3)) {n0 : Nat} (hL : LN own idx y cy mL ret n0) (hM : RunD d' y cy mL ret As w r w') (hdd : d' + 1 ≤ d) (hn0 : As.length = n0) (hst : st = stk As rest) (hW : (rest.map fun v => v.category).sum ≤ 8) (k : V X (pc + 3) lo (pushO r rest) w') : V X pc lo st w :=
  v_cN g hd hL hdd hM hn0 hst hW (fun r0 w0 h => by obtain ⟨rfl, rfl⟩ := h; exact k)
