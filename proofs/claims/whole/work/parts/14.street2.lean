/-! ===== Street: what changes it ===== -/
theorem v_stE {X : VX} {pc : Nat} {lo : List (Option Value)} {st : List Value} {w : PW} (st2 : List Value) (h : st = st2) (k : V X pc lo st2 w) : V X pc lo st w := h ▸ k
theorem nfw : nativeFrameWords "java/lang/System" "arraycopy" 5 ≤ 19 := by decide +kernel
theorem v_acI {X : VX} {cc : ByteArray} {own : String} {d pc : Nat} {lo : List (Option Value)} {st : List Value} {w : PW} {idx a b n0 n1 : Nat} {f h : Nat → Int32} {sp dp n : Int32} (w2 : PW) (g : VG X cc own d) (hd : decode cc pc = .ok (.invokestatic idx, 3)) (hM : Cond.methodLink own idx arraycopyName ∈ tbG) (h0 : 1 ≤ d) (ha : pg w a = some (.inl (n0, .inl f))) (hb' : pg w b = some (.inl (n1, .inl h))) (h1 : ¬ sp < 0) (h2 : ¬ dp < 0) (h3 : ¬ n < 0) (h4 : sp.toNatClampNeg + n.toNatClampNeg ≤ n0) (h5 : dp.toNatClampNeg + n.toNatClampNeg ≤ n1) (hW : (st.map fun v => v.category).sum ≤ 8) (hw2 : ps w b (.inl (n1, .inl (va_cpy f h sp.toNatClampNeg dp.toNatClampNeg n.toNatClampNeg))) = w2) (k : V X (pc + 3) lo st w2) : V X pc lo (.int n :: .int dp :: .ref b :: .int sp :: .ref a :: st) w := by
  subst hw2
  obtain ⟨p, l, e, R, s, m, args, below, meth, c, D, cI, cJ, ad, N, Z, nL, kc, ks⟩ := X
  obtain ⟨hx, hb, hml, hown, hts, hK, hinj, hR, hC⟩ := g
  intro hN H locs ls hP hS hl
  have hnf := nfw
  refine va_copyi (ty := .int) hx hb (by rw [hml]; exact hl.1.symm) hown (hts _ hM) (hts _ wa_nat) (hts _ wa_sta) (hts _ wa_ini) hK.1 hP (vD hinj hN) hS a b 0 0 (cW_at ha) (cW_at hb') rfl rfl rfl h1 h2 h3 h4 h5 (fun _ _ => rfl) (by omega) (by rw [cV_sum]; omega) hd (fun H1 locs1 hP1 hD1 hS1 => k (by rw [ps_len]; exact hN) H1 locs1 ls ?_ hS1 hl)
  rw [cWf_set, Nat.zero_add]
  exact hP1
theorem v_acJ {X : VX} {cc : ByteArray} {own : String} {d pc : Nat} {lo : List (Option Value)} {st : List Value} {w : PW} {idx a b n0 n1 : Nat} {f h : Nat → Int64} {sp dp n : Int32} (w2 : PW) (g : VG X cc own d) (hd : decode cc pc = .ok (.invokestatic idx, 3)) (hM : Cond.methodLink own idx arraycopyName ∈ tbG) (h0 : 1 ≤ d) (ha : pg w a = some (.inl (n0, .inr (.inl f)))) (hb' : pg w b = some (.inl (n1, .inr (.inl h)))) (h1 : ¬ sp < 0) (h2 : ¬ dp < 0) (h3 : ¬ n < 0) (h4 : sp.toNatClampNeg + n.toNatClampNeg ≤ n0) (h5 : dp.toNatClampNeg + n.toNatClampNeg ≤ n1) (hW : (st.map fun v => v.category).sum ≤ 8) (hw2 : ps w b (.inl (n1, .inr (.inl (va_cpy f h sp.toNatClampNeg dp.toNatClampNeg n.toNatClampNeg)))) = w2) (k : V X (pc + 3) lo st w2) : V X pc lo (.int n :: .int dp :: .ref b :: .int sp :: .ref a :: st) w := by
  subst hw2
  obtain ⟨p, l, e, R, s, m, args, below, meth, c, D, cI, cJ, ad, N, Z, nL, kc, ks⟩ := X
  obtain ⟨hx, hb, hml, hown, hts, hK, hinj, hR, hC⟩ := g
  intro hN H locs ls hP hS hl
  have hnf := nfw
  refine va_copyl (ty := .long) hx hb (by rw [hml]; exact hl.1.symm) hown (hts _ hM) (hts _ wa_nat) (hts _ wa_sta) (hts _ wa_ini) hK.1 hP (vD hinj hN) hS a b 1 1 (cW_at ha) (cW_at hb') rfl rfl rfl h1 h2 h3 h4 h5 (fun _ _ => rfl) (by omega) (by rw [cV_sum]; omega) hd (fun H1 locs1 hP1 hD1 hS1 => k (by rw [ps_len]; exact hN) H1 locs1 ls ?_ hS1 hl)
  rw [cWf_set, Nat.zero_add]
  exact hP1
theorem ps_ps {α : Type} : ∀ (l : List α) (i : Nat) (x y : α), ps (ps l i x) i y = ps l i y
  | [], i, x, y => rfl
  | a :: l, 0, x, y => rfl
  | a :: l, i + 1, x, y => by rw [ps, ps, ps, ps_ps l i x y]
/-- a whole row is copied -/
theorem v_acF {X : VX} {cc : ByteArray} {own : String} {d pc : Nat} {lo : List (Option Value)} {st : List Value} {w : PW} {idx a b m0 : Nat} {f h : Nat → Int32} {n : Int32} (w2 : PW) (g : VG X cc own d) (hd : decode cc pc = .ok (.invokestatic idx, 3)) (hM : Cond.methodLink own idx arraycopyName ∈ tbG) (h0 : 1 ≤ d) (ha : pg w a = some (.inl (m0, .inl f))) (hb' : pg w b = some (.inl (m0, .inl h))) (hm : n = nI m0) (hm2 : m0 < 1000) (hW : (st.map fun v => v.category).sum ≤ 8) (hw2 : ps w b (.inl (m0, .inl f)) = w2) (k : V X (pc + 3) lo st w2) : V X pc lo (.int n :: .int 0 :: .ref b :: .int 0 :: .ref a :: st) w := by
  subst hm
  have e0 : (0 : Int32).toNatClampNeg = 0 := rfl
  have e1 : (nI m0).toNatClampNeg = m0 := nI_clamp (by omega)
  refine v_acI _ g hd hM h0 ha hb' (by decide) (by decide) (nI_pos (by omega)) (by rw [e0, e1]; omega) (by rw [e0, e1]; omega) hW rfl ?_
  refine v_eqc b (.inl (m0, .inl f)) w2 (pg_ps_eq _ (pg_lt hb') _) ⟨rfl, fun j hj => ?_⟩ (by rw [ps_ps]; exact hw2) k
  rw [e0, e1, pk_cpy_in (by omega) (by omega)]
  congr 1
  omega
/-- a Street from place o on -/
def stO (o : Nat) (s : St) (we : Int32) : PW := [.inr (1, [.int (sMi s), .int (sDr s), .ref (o + 1), .ref (o + 2), .ref (o + 3), .int (nI (sN s)), .ref (o + 4), .ref (o + 5), .ref (o + 6), .ref (o + 7), .ref (o + 8), .ref (o + 9), .int we]), .inl (12, .inl (sLa s)), .inl (12, .inl (sBo s)), .inl (12, .inl (sRe s)), .inl (8, .inl (sKi s)), .inl (8, .inl (sAt s)), .inl (8, .inl (sFa s)), .inl (8, .inl (sCo s)), .inl (8, .inl (sTi s)), .inl (8, .inl (sGo s))]
theorem sAt_lgtN (s : St) (a st l : Int32) : ∀ k, sAt (lgtN s a st l k) = sAt s
  | 0 => rfl
  | k + 1 => by
    rw [lgtN]
    unfold lgt1
    split
    · exact sAt_lgtN s a st l k
    · exact sAt_lgtN s a st l k
theorem absd {p q : Int32} (hp : inR p 0 11) (hq : inR q 0 11) : 1 < (if 0 ≤ p - q then p - q else 0 - (p - q)) ↔ ¬ (-1 ≤ p.toInt - q.toInt ∧ p.toInt - q.toInt ≤ 1) := by
  obtain ⟨a, ha, rfl⟩ := hp.nat (m := 11) (by omega)
  obtain ⟨b, hb, rfl⟩ := hq.nat (m := 11) (by omega)
  have h1 := pk_sub_toInt (a := a) (b := b) (by omega) (by omega)
  rw [nI_toInt (by omega), nI_toInt (by omega)]
  by_cases h : b ≤ a
  · rw [pk_sub h, if_pos (nI_pos' (by omega)), i_lt, nI_toInt (by omega)]
    have : (1 : Int32).toInt = 1 := rfl
    omega
  · rw [if_neg (by rw [i_le, h1]; have : (0 : Int32).toInt = 0 := rfl; omega)]
    have e : (0 : Int32) - (nI a - nI b) = nI (b - a) := by rw [← pk_sub (by omega)]; exact Int32.zero_sub _ |>.trans (Int32.neg_sub)
    rw [e, i_lt, nI_toInt (by omega)]
    have : (1 : Int32).toInt = 1 := rfl
    omega
theorem giv1_t {s : St} {i j : Nat} (h : near s i j) : giv1 s i j = pCo s (upd (sCo s) j (mn 99 (sCo s j + 6))) := if_pos h
theorem giv1_f {s : St} {i j : Nat} (h : ¬ near s i j) : giv1 s i j = s := if_neg h
theorem lgt1_t {s : St} {h l : Int32} (q : inR h 0 11 ∧ sBo s h.toNatClampNeg = 1) : lgt1 s h l = pLa s (upd (sLa s) h.toNatClampNeg (mx (sLa s h.toNatClampNeg) l)) := if_pos q
theorem lgt1_f {s : St} {h l : Int32} (q : ¬ (inR h 0 11 ∧ sBo s h.toNatClampNeg = 1)) : lgt1 s h l = s := if_neg q
def addS (s : St) (k h f c t : Int32) : St := mkS (sMi s) (sDr s) (sLa s) (sBo s) (sRe s) (sN s + 1) (upd (sKi s) (sN s) k) (upd (sAt s) (sN s) h) (upd (sFa s) (sN s) f) (upd (sCo s) (sN s) c) (upd (sTi s) (sN s) t) (upd (sGo s) (sN s) 0)
def weN (s : St) (we : Int32) : Nat → Int32
  | 0 => we
  | k + 1 => mdue (minN s k)
set_option maxRecDepth 20000 in
set_option maxHeartbeats 2000000 in
theorem c_X1_burnLamps (s : St) (we : Int32) : RunD 1 yX1_burnLamps cX1_burnLamps 2 none [.ref 0] (stW s we) (none) (stW (burnN s 12) we) := by
  refine Runs.of (by decide) (Nat.le_of_ble_eq_true rfl) rfl ?_
  intro X g hret hnL
  refine v_iconst (pc := 0) (v := 0) g dX1_burnLamps_0 (by decide) ?_
  refine v_istore_n (pc := 1) 1 _ g dX1_burnLamps_1 rfl (Nat.le_of_ble_eq_true rfl) hnL.symm rfl ?_
  have L2 : ∀ (fu : Nat) (k : Nat), k ≤ 12 → 12 - k < fu → V X 2 [some (.ref 0), some (.int (nI k))] [] (stW (burnN s k) we) := by
    intro fu
    induction fu with
    | zero => intro k hk hm; exact absurd hm (Nat.not_lt_zero _)
    | succ fu ih =>
      intro k hk hm
      refine v_iload_n (pc := 2) 1 g dX1_burnLamps_2 rfl rfl ?_
      refine v_bipush (pc := 3) (v := 12) g dX1_burnLamps_3 (by decide) ?_
      refine v_icmp_ge (pc := 5) 52 g dX1_burnLamps_5 rfl (fun c5 => ?_) (fun c5 => ?_)
      · have e5 : k = 12 := ge_t (n := 12) rfl hk (by omega) c5
        subst e5
        exact v_vret (pc := 52) g hret dX1_burnLamps_52 (⟨rfl, rfl⟩)
      · have e5 : k < 12 := ge_f (n := 12) rfl hk (by omega) c5
        refine v_aload_n (pc := 8) 0 g dX1_burnLamps_8 rfl rfl ?_
        refine v_iload_n (pc := 9) 1 g dX1_burnLamps_9 rfl rfl ?_
        refine v_cVd (pc := 10) g dX1_burnLamps_10 lk_X1_58 (c_X1_burns (burnN s k) we k (by omega)) (Nat.le_of_ble_eq_true rfl) rfl rfl rfl rfl (Nat.le_of_ble_eq_true rfl) ?_
        refine v_ifb_eq (pc := 13) 46 g dX1_burnLamps_13 rfl (fun c13 => ?_) (fun c13 => ?_)
        · refine v_iincN (pc := 46) g dX1_burnLamps_46 rfl hnL.symm ?_
          refine v_goto (pc := 49) 2 g dX1_burnLamps_49 rfl ?_
          refine v_w (stW (burnN s (k + 1)) we) (by first | (rw [burnN, burn1, if_pos c13]; rfl) | (rw [burnN, burn1, if_neg c13])) ?_
          exact ih (k + 1) (by omega) (by omega)
        · refine v_aload_n (pc := 16) 0 g dX1_burnLamps_16 rfl rfl ?_
          refine v_get (pc := 17) g dX1_burnLamps_17 fl_X1_25 rfl rfl ?_
          refine v_iload_n (pc := 20) 1 g dX1_burnLamps_20 rfl rfl ?_
          refine v_sipush (pc := 21) (v := 9999) g dX1_burnLamps_21 (by decide) ?_
          refine v_aload_n (pc := 24) 0 g dX1_burnLamps_24 rfl rfl ?_
          refine v_get (pc := 25) g dX1_burnLamps_25 fl_X1_25 rfl rfl ?_
          refine v_iload_n (pc := 28) 1 g dX1_burnLamps_28 rfl rfl ?_
          refine v_ialdN (pc := 29) _ g dX1_burnLamps_29 rfl rfl (by omega) (Nat.le_of_ble_eq_true rfl) ?_
          refine v_iconst (pc := 30) (v := 1) g dX1_burnLamps_30 (by decide) ?_
          refine v_iadd (pc := 31) g dX1_burnLamps_31 ?_
          refine v_min (pc := 32) g dX1_burnLamps_32 lk_X1_99 (Nat.le_of_ble_eq_true rfl) (Nat.le_of_ble_eq_true rfl) ?_
          refine v_iastN (pc := 35) _ _ g dX1_burnLamps_35 rfl rfl (by omega) (Nat.le_of_ble_eq_true rfl) rfl ?_
          refine v_aload_n (pc := 36) 0 g dX1_burnLamps_36 rfl rfl ?_
          refine v_get (pc := 37) g dX1_burnLamps_37 fl_X1_18 rfl rfl ?_
          refine v_iload_n (pc := 40) 1 g dX1_burnLamps_40 rfl rfl ?_
          refine v_dup2 (pc := 41) g dX1_burnLamps_41 rfl rfl ?_
          refine v_ialdN (pc := 42) _ g dX1_burnLamps_42 rfl rfl (by omega) (Nat.le_of_ble_eq_true rfl) ?_
          refine v_iconst (pc := 43) (v := 1) g dX1_burnLamps_43 (by decide) ?_
          refine v_isub (pc := 44) g dX1_burnLamps_44 ?_
          refine v_iastN (pc := 45) _ _ g dX1_burnLamps_45 rfl rfl (by omega) (Nat.le_of_ble_eq_true rfl) rfl ?_
          refine v_iincN (pc := 46) g dX1_burnLamps_46 rfl hnL.symm ?_
          refine v_goto (pc := 49) 2 g dX1_burnLamps_49 rfl ?_
          refine v_w (stW (burnN s (k + 1)) we) (by first | (rw [burnN, burn1, if_pos c13]; rfl) | (rw [burnN, burn1, if_neg c13])) ?_
          exact ih (k + 1) (by omega) (by omega)
  exact L2 (12 + 1) 0 (Nat.zero_le _) (by omega)
set_option maxRecDepth 20000 in
set_option maxHeartbeats 2000000 in
theorem c_X1_tickleAll (s : St) (we : Int32) (hI : Inv s) : RunD 2 yX1_tickleAll cX1_tickleAll 2 none [.ref 0] (stW s we) (none) (stW (tickN s (sN s)) we) := by
  refine Runs.of (by decide) (Nat.le_of_ble_eq_true rfl) rfl ?_
  intro X g hret hnL
  refine v_iconst (pc := 0) (v := 0) g dX1_tickleAll_0 (by decide) ?_
  refine v_istore_n (pc := 1) 1 _ g dX1_tickleAll_1 rfl (Nat.le_of_ble_eq_true rfl) hnL.symm rfl ?_
  have L2 : ∀ (fu : Nat) (k : Nat), k ≤ sN s → sN s - k < fu → V X 2 [some (.ref 0), some (.int (nI k))] [] (stW (tickN s k) we) := by
    intro fu
    induction fu with
    | zero => intro k hk hm; exact absurd hm (Nat.not_lt_zero _)
    | succ fu ih =>
      intro k hk hm
      refine v_iload_n (pc := 2) 1 g dX1_tickleAll_2 rfl rfl ?_
      refine v_aload_n (pc := 3) 0 g dX1_tickleAll_3 rfl rfl ?_
      refine v_get (pc := 4) g dX1_tickleAll_4 fl_X1_28 rfl rfl ?_
      refine v_icmp_ge (pc := 7) 39 g dX1_tickleAll_7 rfl (fun c7 => ?_) (fun c7 => ?_)
      · have e7 : k = sN s := ge_t (n := sN s) (by rw [sN_tickN]) hk (by have := hI.n; omega) c7
        subst e7
        exact v_vret (pc := 39) g hret dX1_tickleAll_39 (⟨rfl, rfl⟩)
      · have e7 : k < sN s := ge_f (n := sN s) (by rw [sN_tickN]) hk (by have := hI.n; omega) c7
        refine v_aload_n (pc := 10) 0 g dX1_tickleAll_10 rfl rfl ?_
        refine v_get (pc := 11) g dX1_tickleAll_11 fl_X1_43 rfl rfl ?_
        refine v_iload_n (pc := 14) 1 g dX1_tickleAll_14 rfl rfl ?_
        refine v_bipush (pc := 15) (v := 99) g dX1_tickleAll_15 (by decide) ?_
        refine v_aload_n (pc := 17) 0 g dX1_tickleAll_17 rfl rfl ?_
        refine v_get (pc := 18) g dX1_tickleAll_18 fl_X1_43 rfl rfl ?_
        refine v_iload_n (pc := 21) 1 g dX1_tickleAll_21 rfl rfl ?_
        refine v_ialdN (pc := 22) _ g dX1_tickleAll_22 rfl rfl (by have := hI.n; omega) (Nat.le_of_ble_eq_true rfl) ?_
        refine v_aload_n (pc := 23) 0 g dX1_tickleAll_23 rfl rfl ?_
        refine v_iload_n (pc := 24) 1 g dX1_tickleAll_24 rfl rfl ?_
        refine v_cVd (pc := 25) g dX1_tickleAll_25 lk_X1_102 (c_X1_ticklesOf (tickN s k) we k (hI.tickN k) (by have := hI.n; omega)) (Nat.le_of_ble_eq_true rfl) rfl rfl rfl rfl (Nat.le_of_ble_eq_true rfl) ?_
        refine v_iadd (pc := 28) g dX1_tickleAll_28 ?_
        refine v_min (pc := 29) g dX1_tickleAll_29 lk_X1_99 (Nat.le_of_ble_eq_true rfl) (Nat.le_of_ble_eq_true rfl) ?_
        refine v_iastN (pc := 32) _ _ g dX1_tickleAll_32 rfl rfl (by have := hI.n; omega) (Nat.le_of_ble_eq_true rfl) rfl ?_
        refine v_iincN (pc := 33) g dX1_tickleAll_33 rfl hnL.symm ?_
        refine v_goto (pc := 36) 2 g dX1_tickleAll_36 rfl ?_
        refine v_w (stW (tickN s (k + 1)) we) rfl ?_
        exact ih (k + 1) (by omega) (by omega)
  exact L2 (sN s + 1) 0 (Nat.zero_le _) (by omega)
set_option maxRecDepth 20000 in
set_option maxHeartbeats 2000000 in
theorem c_X1_healAll (s : St) (we : Int32) (hI : Inv s) : RunD 1 yX1_healAll cX1_healAll 2 none [.ref 0] (stW s we) (none) (stW (healN s (sN s)) we) := by
  refine Runs.of (by decide) (Nat.le_of_ble_eq_true rfl) rfl ?_
  intro X g hret hnL
  refine v_iconst (pc := 0) (v := 0) g dX1_healAll_0 (by decide) ?_
  refine v_istore_n (pc := 1) 1 _ g dX1_healAll_1 rfl (Nat.le_of_ble_eq_true rfl) hnL.symm rfl ?_
  have L2 : ∀ (fu : Nat) (k : Nat), k ≤ sN s → sN s - k < fu → V X 2 [some (.ref 0), some (.int (nI k))] [] (stW (healN s k) we) := by
    intro fu
    induction fu with
    | zero => intro k hk hm; exact absurd hm (Nat.not_lt_zero _)
    | succ fu ih =>
      intro k hk hm
      refine v_iload_n (pc := 2) 1 g dX1_healAll_2 rfl rfl ?_
      refine v_aload_n (pc := 3) 0 g dX1_healAll_3 rfl rfl ?_
      refine v_get (pc := 4) g dX1_healAll_4 fl_X1_28 rfl rfl ?_
      refine v_icmp_ge (pc := 7) 38 g dX1_healAll_7 rfl (fun c7 => ?_) (fun c7 => ?_)
      · have e7 : k = sN s := ge_t (n := sN s) (by rw [sN_healN]) hk (by have := hI.n; omega) c7
        subst e7
        exact v_vret (pc := 38) g hret dX1_healAll_38 (⟨rfl, rfl⟩)
      · have e7 : k < sN s := ge_f (n := sN s) (by rw [sN_healN]) hk (by have := hI.n; omega) c7
        refine v_aload_n (pc := 10) 0 g dX1_healAll_10 rfl rfl ?_
        refine v_get (pc := 11) g dX1_healAll_11 fl_X1_40 rfl rfl ?_
        refine v_iload_n (pc := 14) 1 g dX1_healAll_14 rfl rfl ?_
        refine v_iconst (pc := 15) (v := 0) g dX1_healAll_15 (by decide) ?_
        refine v_aload_n (pc := 16) 0 g dX1_healAll_16 rfl rfl ?_
        refine v_get (pc := 17) g dX1_healAll_17 fl_X1_40 rfl rfl ?_
        refine v_iload_n (pc := 20) 1 g dX1_healAll_20 rfl rfl ?_
        refine v_ialdN (pc := 21) _ g dX1_healAll_21 rfl rfl (by have := hI.n; omega) (Nat.le_of_ble_eq_true rfl) ?_
        refine v_aload_n (pc := 22) 0 g dX1_healAll_22 rfl rfl ?_
        refine v_iload_n (pc := 23) 1 g dX1_healAll_23 rfl rfl ?_
        refine v_cVd (pc := 24) g dX1_healAll_24 lk_X1_120 (c_X1_healsOf (healN s k) we k (by have := hI.n; omega)) (Nat.le_of_ble_eq_true rfl) rfl rfl rfl rfl (Nat.le_of_ble_eq_true rfl) ?_
        refine v_isub (pc := 27) g dX1_healAll_27 ?_
        refine v_max (pc := 28) g dX1_healAll_28 lk_X1_62 (Nat.le_of_ble_eq_true rfl) (Nat.le_of_ble_eq_true rfl) ?_
        refine v_iastN (pc := 31) _ _ g dX1_healAll_31 rfl rfl (by have := hI.n; omega) (Nat.le_of_ble_eq_true rfl) rfl ?_
        refine v_iincN (pc := 32) g dX1_healAll_32 rfl hnL.symm ?_
        refine v_goto (pc := 35) 2 g dX1_healAll_35 rfl ?_
        refine v_w (stW (healN s (k + 1)) we) rfl ?_
        exact ih (k + 1) (by omega) (by omega)
  exact L2 (sN s + 1) 0 (Nat.zero_le _) (by omega)
set_option maxRecDepth 20000 in
set_option maxHeartbeats 2000000 in
theorem c_X1_giveCold (s : St) (we : Int32) (i : Nat) (hI : Inv s) (hi : i < 8) : RunD 1 yX1_giveCold cX1_giveCold 3 none [.ref 0, .int (nI i)] (stW s we) (none) (stW (givN s i (sN s)) we) := by
  refine Runs.of (by decide) (Nat.le_of_ble_eq_true rfl) rfl ?_
  intro X g hret hnL
  refine v_iconst (pc := 0) (v := 0) g dX1_giveCold_0 (by decide) ?_
  refine v_istore_n (pc := 1) 2 _ g dX1_giveCold_1 rfl (Nat.le_of_ble_eq_true rfl) hnL.symm rfl ?_
  have L2 : ∀ (fu : Nat) (k : Nat), k ≤ sN s → sN s - k < fu → V X 2 [some (.ref 0), some (.int (nI i)), some (.int (nI k))] [] (stW (givN s i k) we) := by
    intro fu
    induction fu with
    | zero => intro k hk hm; exact absurd hm (Nat.not_lt_zero _)
    | succ fu ih =>
      intro k hk hm
      refine v_iload_n (pc := 2) 2 g dX1_giveCold_2 rfl rfl ?_
      refine v_aload_n (pc := 3) 0 g dX1_giveCold_3 rfl rfl ?_
      refine v_get (pc := 4) g dX1_giveCold_4 fl_X1_28 rfl rfl ?_
      refine v_icmp_ge (pc := 7) 71 g dX1_giveCold_7 rfl (fun c7 => ?_) (fun c7 => ?_)
      · have e7 : k = sN s := ge_t (n := sN s) (by rw [sN_givN]) hk (by have := hI.n; omega) c7
        subst e7
        exact v_vret (pc := 71) g hret dX1_giveCold_71 (⟨rfl, rfl⟩)
      · have e7 : k < sN s := ge_f (n := sN s) (by rw [sN_givN]) hk (by have := hI.n; omega) c7
        refine v_iload_n (pc := 10) 2 g dX1_giveCold_10 rfl rfl ?_
        refine v_iload_n (pc := 11) 1 g dX1_giveCold_11 rfl rfl ?_
        refine v_icmp_eq (pc := 12) 65 g dX1_giveCold_12 rfl (fun c12 => ?_) (fun c12 => ?_)
        · refine v_iincN (pc := 65) g dX1_giveCold_65 rfl hnL.symm ?_
          refine v_goto (pc := 68) 2 g dX1_giveCold_68 rfl ?_
          refine v_w (stW (givN s i (k + 1)) we) (by first | (rw [givN, giv1_t ⟨fun z => c12 (by rw [z]), fun z => c22 (by rw [i_eq]; exact z), Decidable.not_not.mp (fun z => c42 ((absd ((hI.givN i k).at k) ((hI.givN i k).at i)).mpr z))⟩]; rfl) | (rw [givN, giv1_f (fun z => (absd ((hI.givN i k).at k) ((hI.givN i k).at i)).mp c42 z.2.2)]) | (rw [givN, giv1_f (fun z => z.2.1 (by rw [c22]; rfl))]) | (rw [givN, giv1_f (fun z => z.1 ((nI_eq (by have := hI.n; omega) (by omega)).mp c12))])) ?_
          exact ih (k + 1) (by omega) (by omega)
        · refine v_aload_n (pc := 15) 0 g dX1_giveCold_15 rfl rfl ?_
          refine v_get (pc := 16) g dX1_giveCold_16 fl_X1_31 rfl rfl ?_
          refine v_iload_n (pc := 19) 2 g dX1_giveCold_19 rfl rfl ?_
          refine v_ialdN (pc := 20) _ g dX1_giveCold_20 rfl rfl (by have := hI.n; omega) (Nat.le_of_ble_eq_true rfl) ?_
          refine v_iconst (pc := 21) (v := 3) g dX1_giveCold_21 (by decide) ?_
          refine v_icmp_eq (pc := 22) 65 g dX1_giveCold_22 rfl (fun c22 => ?_) (fun c22 => ?_)
          · refine v_iincN (pc := 65) g dX1_giveCold_65 rfl hnL.symm ?_
            refine v_goto (pc := 68) 2 g dX1_giveCold_68 rfl ?_
            refine v_w (stW (givN s i (k + 1)) we) (by first | (rw [givN, giv1_t ⟨fun z => c12 (by rw [z]), fun z => c22 (by rw [i_eq]; exact z), Decidable.not_not.mp (fun z => c42 ((absd ((hI.givN i k).at k) ((hI.givN i k).at i)).mpr z))⟩]; rfl) | (rw [givN, giv1_f (fun z => (absd ((hI.givN i k).at k) ((hI.givN i k).at i)).mp c42 z.2.2)]) | (rw [givN, giv1_f (fun z => z.2.1 (by rw [c22]; rfl))]) | (rw [givN, giv1_f (fun z => z.1 ((nI_eq (by have := hI.n; omega) (by omega)).mp c12))])) ?_
            exact ih (k + 1) (by omega) (by omega)
          · refine v_aload_n (pc := 25) 0 g dX1_giveCold_25 rfl rfl ?_
            refine v_get (pc := 26) g dX1_giveCold_26 fl_X1_34 rfl rfl ?_
            refine v_iload_n (pc := 29) 2 g dX1_giveCold_29 rfl rfl ?_
            refine v_ialdN (pc := 30) _ g dX1_giveCold_30 rfl rfl (by have := hI.n; omega) (Nat.le_of_ble_eq_true rfl) ?_
            refine v_aload_n (pc := 31) 0 g dX1_giveCold_31 rfl rfl ?_
            refine v_get (pc := 32) g dX1_giveCold_32 fl_X1_34 rfl rfl ?_
            refine v_iload_n (pc := 35) 1 g dX1_giveCold_35 rfl rfl ?_
            refine v_ialdN (pc := 36) _ g dX1_giveCold_36 rfl rfl (by omega) (Nat.le_of_ble_eq_true rfl) ?_
            refine v_isub (pc := 37) g dX1_giveCold_37 ?_
            refine v_abs (pc := 38) g dX1_giveCold_38 lk_X1_117 (Nat.le_of_ble_eq_true rfl) (Nat.le_of_ble_eq_true rfl) ?_
            refine v_iconst (pc := 41) (v := 1) g dX1_giveCold_41 (by decide) ?_
            refine v_icmp_gt (pc := 42) 65 g dX1_giveCold_42 rfl (fun c42 => ?_) (fun c42 => ?_)
            · refine v_iincN (pc := 65) g dX1_giveCold_65 rfl hnL.symm ?_
              refine v_goto (pc := 68) 2 g dX1_giveCold_68 rfl ?_
              refine v_w (stW (givN s i (k + 1)) we) (by first | (rw [givN, giv1_t ⟨fun z => c12 (by rw [z]), fun z => c22 (by rw [i_eq]; exact z), Decidable.not_not.mp (fun z => c42 ((absd ((hI.givN i k).at k) ((hI.givN i k).at i)).mpr z))⟩]; rfl) | (rw [givN, giv1_f (fun z => (absd ((hI.givN i k).at k) ((hI.givN i k).at i)).mp c42 z.2.2)]) | (rw [givN, giv1_f (fun z => z.2.1 (by rw [c22]; rfl))]) | (rw [givN, giv1_f (fun z => z.1 ((nI_eq (by have := hI.n; omega) (by omega)).mp c12))])) ?_
              exact ih (k + 1) (by omega) (by omega)
            · refine v_aload_n (pc := 45) 0 g dX1_giveCold_45 rfl rfl ?_
              refine v_get (pc := 46) g dX1_giveCold_46 fl_X1_40 rfl rfl ?_
              refine v_iload_n (pc := 49) 2 g dX1_giveCold_49 rfl rfl ?_
              refine v_bipush (pc := 50) (v := 99) g dX1_giveCold_50 (by decide) ?_
              refine v_aload_n (pc := 52) 0 g dX1_giveCold_52 rfl rfl ?_
              refine v_get (pc := 53) g dX1_giveCold_53 fl_X1_40 rfl rfl ?_
              refine v_iload_n (pc := 56) 2 g dX1_giveCold_56 rfl rfl ?_
              refine v_ialdN (pc := 57) _ g dX1_giveCold_57 rfl rfl (by have := hI.n; omega) (Nat.le_of_ble_eq_true rfl) ?_
              refine v_bipush (pc := 58) (v := 6) g dX1_giveCold_58 (by decide) ?_
              refine v_iadd (pc := 60) g dX1_giveCold_60 ?_
              refine v_min (pc := 61) g dX1_giveCold_61 lk_X1_99 (Nat.le_of_ble_eq_true rfl) (Nat.le_of_ble_eq_true rfl) ?_
              refine v_iastN (pc := 64) _ _ g dX1_giveCold_64 rfl rfl (by have := hI.n; omega) (Nat.le_of_ble_eq_true rfl) rfl ?_
              refine v_iincN (pc := 65) g dX1_giveCold_65 rfl hnL.symm ?_
              refine v_goto (pc := 68) 2 g dX1_giveCold_68 rfl ?_
              refine v_w (stW (givN s i (k + 1)) we) (by first | (rw [givN, giv1_t ⟨fun z => c12 (by rw [z]), fun z => c22 (by rw [i_eq]; exact z), Decidable.not_not.mp (fun z => c42 ((absd ((hI.givN i k).at k) ((hI.givN i k).at i)).mpr z))⟩]; rfl) | (rw [givN, giv1_f (fun z => (absd ((hI.givN i k).at k) ((hI.givN i k).at i)).mp c42 z.2.2)]) | (rw [givN, giv1_f (fun z => z.2.1 (by rw [c22]; rfl))]) | (rw [givN, giv1_f (fun z => z.1 ((nI_eq (by have := hI.n; omega) (by omega)).mp c12))])) ?_
              exact ih (k + 1) (by omega) (by omega)
  exact L2 (sN s + 1) 0 (Nat.zero_le _) (by omega)
set_option maxRecDepth 20000 in
set_option maxHeartbeats 2000000 in
theorem c_X1_lightBefore (s : St) (we : Int32) (i : Nat) (hI : Inv s) (hi : i < 8) : RunD 1 yX1_lightBefore cX1_lightBefore 7 none [.ref 0, .int (nI i)] (stW s we) (none) (stW (lights s i) we) := by
  refine Runs.of (by decide) (Nat.le_of_ble_eq_true rfl) rfl ?_
  intro X g hret hnL
  obtain ⟨B, hB, eB⟩ := blw_nat hI i
  have eB2 : (blw s i).toNatClampNeg = B := by rw [eB, nI_clamp (by omega)]
  have J15 : V X 15 (eL 7 [.ref 0, .int (nI i)]) [.int (stepF s i)] (stW s we) := by
    refine v_istore_n (pc := 15) 2 _ g dX1_lightBefore_15 rfl (Nat.le_of_ble_eq_true rfl) hnL.symm rfl ?_
    refine v_iconst (pc := 16) (v := 5) g dX1_lightBefore_16 (by decide) ?_
    refine v_aload_n (pc := 17) 0 g dX1_lightBefore_17 rfl rfl ?_
    refine v_get (pc := 18) g dX1_lightBefore_18 fl_X1_40 rfl rfl ?_
    refine v_iload_n (pc := 21) 1 g dX1_lightBefore_21 rfl rfl ?_
    refine v_ialdN (pc := 22) _ g dX1_lightBefore_22 rfl rfl (by omega) (Nat.le_of_ble_eq_true rfl) ?_
    refine v_bipush (pc := 23) (v := 10) g dX1_lightBefore_23 (by decide) ?_
    refine v_idiv (pc := 25) g dX1_lightBefore_25 (by decide) ?_
    refine v_iadd (pc := 26) g dX1_lightBefore_26 ?_
    refine v_istore_n (pc := 27) 3 _ g dX1_lightBefore_27 rfl (Nat.le_of_ble_eq_true rfl) hnL.symm rfl ?_
    refine v_aload_n (pc := 28) 0 g dX1_lightBefore_28 rfl rfl ?_
    refine v_iload_n (pc := 29) 1 g dX1_lightBefore_29 rfl rfl ?_
    refine v_cVd (pc := 30) g dX1_lightBefore_30 lk_X1_111 (c_X1_blowsOf s we i hi) (Nat.le_of_ble_eq_true rfl) rfl rfl rfl rfl (Nat.le_of_ble_eq_true rfl) ?_
    rw [eB]
    refine v_istore (pc := 33) _ g dX1_lightBefore_33 (Nat.le_of_ble_eq_true rfl) hnL.symm rfl ?_
    refine v_iconst (pc := 35) (v := 1) g dX1_lightBefore_35 (by decide) ?_
    refine v_istore (pc := 36) _ g dX1_lightBefore_36 (Nat.le_of_ble_eq_true rfl) hnL.symm rfl ?_
    refine v_fg [true, true, true, true, true, true, false] ?_
    have L38 : ∀ (fu : Nat) (k : Nat), k ≤ B → B - k < fu → V X 38 [some (.ref 0), some (.int (nI i)), some (.int (stepF s i)), some (.int (5 + sCo s i / 10)), some (.int (nI B)), some (.int (nI (k + 1))), none] [] (stW (lgtN s (sAt s i) (stepF s i) (5 + sCo s i / 10) k) we) := by
      intro fu
      induction fu with
      | zero => intro k hk hm; exact absurd hm (Nat.not_lt_zero _)
      | succ fu ih =>
        intro k hk hm
        refine v_iload (pc := 38) g dX1_lightBefore_38 rfl ?_
        refine v_iload (pc := 40) g dX1_lightBefore_40 rfl ?_
        refine v_icmp_gt (pc := 42) 101 g dX1_lightBefore_42 rfl (fun c42 => ?_) (fun c42 => ?_)
        · have e42 : k = B := by have := (nI_ltI (a := B) (b := k + 1) (by omega) (by omega)).mp c42; omega
          subst e42
          exact v_vret (pc := 101) g hret dX1_lightBefore_101 (⟨rfl, by unfold lights; rw [eB2]⟩)
        · have e42 : k < B := Nat.not_lt.mp (fun z => c42 ((nI_ltI (a := B) (b := k + 1) (by omega) (by omega)).mpr z))
          refine v_aload_n (pc := 45) 0 g dX1_lightBefore_45 rfl rfl ?_
          refine v_get (pc := 46) g dX1_lightBefore_46 fl_X1_34 rfl rfl ?_
          refine v_iload_n (pc := 49) 1 g dX1_lightBefore_49 rfl rfl ?_
          refine v_ialdN (pc := 50) _ g dX1_lightBefore_50 rfl rfl (by omega) (Nat.le_of_ble_eq_true rfl) ?_
          rw [sAt_lgtN]
          refine v_iload (pc := 51) g dX1_lightBefore_51 rfl ?_
          refine v_iload_n (pc := 53) 2 g dX1_lightBefore_53 rfl rfl ?_
          refine v_imul (pc := 54) g dX1_lightBefore_54 ?_
          refine v_iadd (pc := 55) g dX1_lightBefore_55 ?_
          refine v_istore (pc := 56) _ g dX1_lightBefore_56 (Nat.le_of_ble_eq_true rfl) hnL.symm rfl ?_
          refine v_iload (pc := 58) g dX1_lightBefore_58 rfl ?_
          refine v_cNd (pc := 60) g dX1_lightBefore_60 lk_X1_114 ((c_X4_isHouse _).any rfl rfl _) (Nat.le_of_ble_eq_true rfl) rfl rfl (Nat.le_of_ble_eq_true rfl) ?_
          refine v_ifb_eq (pc := 63) 95 g dX1_lightBefore_63 rfl (fun c63 => ?_) (fun c63 => ?_)
          · refine v_iincN (pc := 95) g dX1_lightBefore_95 rfl hnL.symm ?_
            refine v_goto (pc := 98) 38 g dX1_lightBefore_98 rfl ?_
            refine v_fg [true, true, true, true, true, true, false] ?_
            refine v_w (stW (lgtN s (sAt s i) (stepF s i) (5 + sCo s i / 10) (k + 1)) we) (by first | (rw [lgtN, lgt1_t ⟨c63, c74⟩]; rfl) | (rw [lgtN, lgt1_f (fun z => c63 z.1)]) | (rw [lgtN, lgt1_f (fun z => c74 z.2)])) ?_
            exact ih (k + 1) (by omega) (by omega)
          · obtain ⟨eh, hh⟩ := c63.clamp (m := 11) (by omega)
            refine v_aload_n (pc := 66) 0 g dX1_lightBefore_66 rfl rfl ?_
            refine v_get (pc := 67) g dX1_lightBefore_67 fl_X1_22 rfl rfl ?_
            refine v_iload (pc := 70) g dX1_lightBefore_70 rfl ?_
            refine v_ialdN (pc := 72) _ g dX1_lightBefore_72 rfl eh (by omega) (Nat.le_of_ble_eq_true rfl) ?_
            refine v_iconst (pc := 73) (v := 1) g dX1_lightBefore_73 (by decide) ?_
            refine v_icmp_ne (pc := 74) 95 g dX1_lightBefore_74 rfl (fun c74 => ?_) (fun c74 => ?_)
            · refine v_iincN (pc := 95) g dX1_lightBefore_95 rfl hnL.symm ?_
              refine v_goto (pc := 98) 38 g dX1_lightBefore_98 rfl ?_
              refine v_fg [true, true, true, true, true, true, false] ?_
              refine v_w (stW (lgtN s (sAt s i) (stepF s i) (5 + sCo s i / 10) (k + 1)) we) (by first | (rw [lgtN, lgt1_t ⟨c63, c74⟩]; rfl) | (rw [lgtN, lgt1_f (fun z => c63 z.1)]) | (rw [lgtN, lgt1_f (fun z => c74 z.2)])) ?_
              exact ih (k + 1) (by omega) (by omega)
            · refine v_aload_n (pc := 77) 0 g dX1_lightBefore_77 rfl rfl ?_
              refine v_get (pc := 78) g dX1_lightBefore_78 fl_X1_18 rfl rfl ?_
              refine v_iload (pc := 81) g dX1_lightBefore_81 rfl ?_
              refine v_aload_n (pc := 83) 0 g dX1_lightBefore_83 rfl rfl ?_
              refine v_get (pc := 84) g dX1_lightBefore_84 fl_X1_18 rfl rfl ?_
              refine v_iload (pc := 87) g dX1_lightBefore_87 rfl ?_
              refine v_ialdN (pc := 89) _ g dX1_lightBefore_89 rfl eh (by omega) (Nat.le_of_ble_eq_true rfl) ?_
              refine v_iload_n (pc := 90) 3 g dX1_lightBefore_90 rfl rfl ?_
              refine v_max (pc := 91) g dX1_lightBefore_91 lk_X1_62 (Nat.le_of_ble_eq_true rfl) (Nat.le_of_ble_eq_true rfl) ?_
              refine v_iastN (pc := 94) _ _ g dX1_lightBefore_94 rfl eh (by omega) (Nat.le_of_ble_eq_true rfl) rfl ?_
              refine v_iincN (pc := 95) g dX1_lightBefore_95 rfl hnL.symm ?_
              refine v_goto (pc := 98) 38 g dX1_lightBefore_98 rfl ?_
              refine v_fg [true, true, true, true, true, true, false] ?_
              refine v_w (stW (lgtN s (sAt s i) (stepF s i) (5 + sCo s i / 10) (k + 1)) we) (by first | (rw [lgtN, lgt1_t ⟨c63, c74⟩]; rfl) | (rw [lgtN, lgt1_f (fun z => c63 z.1)]) | (rw [lgtN, lgt1_f (fun z => c74 z.2)])) ?_
              exact ih (k + 1) (by omega) (by omega)
    exact L38 (B + 1) 0 (Nat.zero_le _) (by omega)
  refine v_aload_n (pc := 0) 0 g dX1_lightBefore_0 rfl rfl ?_
  refine v_get (pc := 1) g dX1_lightBefore_1 fl_X1_37 rfl rfl ?_
  refine v_iload_n (pc := 4) 1 g dX1_lightBefore_4 rfl rfl ?_
  refine v_ialdN (pc := 5) _ g dX1_lightBefore_5 rfl rfl (by omega) (Nat.le_of_ble_eq_true rfl) ?_
  refine v_iconst (pc := 6) (v := 1) g dX1_lightBefore_6 (by decide) ?_
  refine v_icmp_ne (pc := 7) 14 g dX1_lightBefore_7 rfl (fun c7 => ?_) (fun c7 => ?_)
  · refine v_iconst (pc := 14) (v := (-1)) g dX1_lightBefore_14 (by decide) ?_
    refine v_stE [.int (stepF s i)] (by unfold stepF; first | rw [if_pos c7] | rw [if_neg c7]) ?_
    exact J15
  · refine v_iconst (pc := 10) (v := 1) g dX1_lightBefore_10 (by decide) ?_
    refine v_goto (pc := 11) 15 g dX1_lightBefore_11 rfl ?_
    refine v_stE [.int (stepF s i)] (by unfold stepF; first | rw [if_pos c7] | rw [if_neg c7]) ?_
    exact J15
set_option maxRecDepth 20000 in
set_option maxHeartbeats 2000000 in
theorem c_X1_goOff (s : St) (we : Int32) (i : Nat) (hI : Inv s) (hi : i < 8) : RunD 2 yX1_goOff cX1_goOff 2 none [.ref 0, .int (nI i)] (stW s we) (none) (stW (goesOff s i) we) := by
  refine Runs.of (by decide) (Nat.le_of_ble_eq_true rfl) rfl ?_
  intro X g hret hnL
  refine v_aload_n (pc := 0) 0 g dX1_goOff_0 rfl rfl ?_
  refine v_get (pc := 1) g dX1_goOff_1 fl_X1_43 rfl rfl ?_
  refine v_iload_n (pc := 4) 1 g dX1_goOff_4 rfl rfl ?_
  refine v_iconst (pc := 5) (v := 0) g dX1_goOff_5 (by decide) ?_
  refine v_iastN (pc := 6) _ _ g dX1_goOff_6 rfl rfl (by omega) (Nat.le_of_ble_eq_true rfl) rfl ?_
  refine v_aload_n (pc := 7) 0 g dX1_goOff_7 rfl rfl ?_
  refine v_get (pc := 8) g dX1_goOff_8 fl_X1_46 rfl rfl ?_
  refine v_iload_n (pc := 11) 1 g dX1_goOff_11 rfl rfl ?_
  refine v_sipush (pc := 12) (v := 9999) g dX1_goOff_12 (by decide) ?_
  refine v_aload_n (pc := 15) 0 g dX1_goOff_15 rfl rfl ?_
  refine v_get (pc := 16) g dX1_goOff_16 fl_X1_46 rfl rfl ?_
  refine v_iload_n (pc := 19) 1 g dX1_goOff_19 rfl rfl ?_
  refine v_ialdN (pc := 20) _ g dX1_goOff_20 rfl rfl (by omega) (Nat.le_of_ble_eq_true rfl) ?_
  refine v_iconst (pc := 21) (v := 1) g dX1_goOff_21 (by decide) ?_
  refine v_iadd (pc := 22) g dX1_goOff_22 ?_
  refine v_min (pc := 23) g dX1_goOff_23 lk_X1_99 (Nat.le_of_ble_eq_true rfl) (Nat.le_of_ble_eq_true rfl) ?_
  refine v_iastN (pc := 26) _ _ g dX1_goOff_26 rfl rfl (by omega) (Nat.le_of_ble_eq_true rfl) rfl ?_
  refine v_w (stW (off1 s i) we) rfl ?_
  refine v_aload_n (pc := 27) 0 g dX1_goOff_27 rfl rfl ?_
  refine v_iload_n (pc := 28) 1 g dX1_goOff_28 rfl rfl ?_
  refine v_cVd (pc := 29) g dX1_goOff_29 lk_X1_105 (c_X1_lightBefore (off1 s i) we i (hI.off1 i) hi) (Nat.le_of_ble_eq_true rfl) rfl rfl rfl rfl (Nat.le_of_ble_eq_true rfl) ?_
  refine v_aload_n (pc := 32) 0 g dX1_goOff_32 rfl rfl ?_
  refine v_iload_n (pc := 33) 1 g dX1_goOff_33 rfl rfl ?_
  refine v_cVd (pc := 34) g dX1_goOff_34 lk_X1_108 (c_X1_giveCold (lights (off1 s i) i) we i ((hI.off1 i).lights i) hi) (Nat.le_of_ble_eq_true rfl) rfl rfl rfl rfl (Nat.le_of_ble_eq_true rfl) ?_
  exact v_vret (pc := 37) g hret dX1_goOff_37 (⟨rfl, by rw [goesOff, sN_lights]; rfl⟩)
set_option maxRecDepth 20000 in
set_option maxHeartbeats 2000000 in
theorem c_X1_goMinute (s : St) (we : Int32) (hI : Inv s) : RunD 3 yX1_goMinute cX1_goMinute 2 none [.ref 0] (stW s we) (none) (stW (minute s) (mdue s)) := by
  refine Runs.of (by decide) (Nat.le_of_ble_eq_true rfl) rfl ?_
  intro X g hret hnL
  refine v_aload_n (pc := 0) 0 g dX1_goMinute_0 rfl rfl ?_
  refine v_cVd (pc := 1) g dX1_goMinute_1 lk_X1_79 (c_X1_burnLamps s we) (Nat.le_of_ble_eq_true rfl) rfl rfl rfl rfl (Nat.le_of_ble_eq_true rfl) ?_
  refine v_aload_n (pc := 4) 0 g dX1_goMinute_4 rfl rfl ?_
  refine v_cVd (pc := 5) g dX1_goMinute_5 lk_X1_82 (c_X1_tickleAll (burnN s 12) we (hI.burnN 12)) (Nat.le_of_ble_eq_true rfl) rfl rfl rfl rfl (Nat.le_of_ble_eq_true rfl) ?_
  rw [show tickN (burnN s 12) (sN (burnN s 12)) = ticked s by rw [sN_burnN]; rfl]
  refine v_aload_n (pc := 8) 0 g dX1_goMinute_8 rfl rfl ?_
  refine v_aload_n (pc := 9) 0 g dX1_goMinute_9 rfl rfl ?_
  refine v_cVd (pc := 10) g dX1_goMinute_10 lk_X1_85 (c_X1_ready (ticked s) we hI.ticked) (Nat.le_of_ble_eq_true rfl) rfl rfl rfl rfl (Nat.le_of_ble_eq_true rfl) ?_
  refine v_put (pc := 13) _ g dX1_goMinute_13 fp_X1_49 rfl (Nat.le_of_ble_eq_true rfl) rfl rfl rfl rfl ?_
  refine v_w (stW (ticked s) (mdue s)) rfl ?_
  refine v_iconst (pc := 16) (v := 0) g dX1_goMinute_16 (by decide) ?_
  refine v_istore_n (pc := 17) 1 _ g dX1_goMinute_17 rfl (Nat.le_of_ble_eq_true rfl) hnL.symm rfl ?_
  have L18 : ∀ (fu : Nat) (k : Nat), k ≤ sN s → sN s - k < fu → V X 18 [some (.ref 0), some (.int (nI k))] [] (stW (offN (ticked s) (mdue s) k) (mdue s)) := by
    intro fu
    induction fu with
    | zero => intro k hk hm; exact absurd hm (Nat.not_lt_zero _)
    | succ fu ih =>
      intro k hk hm
      refine v_iload_n (pc := 18) 1 g dX1_goMinute_18 rfl rfl ?_
      refine v_aload_n (pc := 19) 0 g dX1_goMinute_19 rfl rfl ?_
      refine v_get (pc := 20) g dX1_goMinute_20 fl_X1_28 rfl rfl ?_
      refine v_icmp_ge (pc := 23) 48 g dX1_goMinute_23 rfl (fun c23 => ?_) (fun c23 => ?_)
      · have e23 : k = sN s := ge_t (n := sN s) (by rw [sN_offN, sN_ticked]) hk (by have := hI.n; omega) c23
        subst e23
        refine v_aload_n (pc := 48) 0 g dX1_goMinute_48 rfl rfl ?_
        refine v_cVd (pc := 49) g dX1_goMinute_49 lk_X1_96 (c_X1_healAll (offN (ticked s) (mdue s) (sN s)) (mdue s) (hI.ticked.offN _ _)) (Nat.le_of_ble_eq_true rfl) rfl rfl rfl rfl (Nat.le_of_ble_eq_true rfl) ?_
        rw [sN_offN, sN_ticked]
        refine v_aload_n (pc := 52) 0 g dX1_goMinute_52 rfl rfl ?_
        refine v_dup (pc := 53) g dX1_goMinute_53 rfl ?_
        refine v_get (pc := 54) g dX1_goMinute_54 fl_X1_9 rfl rfl ?_
        refine v_iconst (pc := 57) (v := 1) g dX1_goMinute_57 (by decide) ?_
        refine v_iadd (pc := 58) g dX1_goMinute_58 ?_
        refine v_put (pc := 59) _ g dX1_goMinute_59 fp_X1_9 rfl (Nat.le_of_ble_eq_true rfl) rfl rfl rfl rfl ?_
        exact v_vret (pc := 62) g hret dX1_goMinute_62 (⟨rfl, rfl⟩)
      · have e23 : k < sN s := ge_f (n := sN s) (by rw [sN_offN, sN_ticked]) hk (by have := hI.n; omega) c23
        refine v_aload_n (pc := 26) 0 g dX1_goMinute_26 rfl rfl ?_
        refine v_get (pc := 27) g dX1_goMinute_27 fl_X1_49 rfl rfl ?_
        refine v_iload_n (pc := 30) 1 g dX1_goMinute_30 rfl rfl ?_
        refine v_cNd (pc := 31) g dX1_goMinute_31 lk_X1_88 ((c_X4_isIn _ _).any rfl rfl _) (Nat.le_of_ble_eq_true rfl) rfl rfl (Nat.le_of_ble_eq_true rfl) ?_
        refine v_ifb_eq (pc := 34) 42 g dX1_goMinute_34 rfl (fun c34 => ?_) (fun c34 => ?_)
        · refine v_iincN (pc := 42) g dX1_goMinute_42 rfl hnL.symm ?_
          refine v_goto (pc := 45) 18 g dX1_goMinute_45 rfl ?_
          refine v_w (stW (offN (ticked s) (mdue s) (k + 1)) (mdue s)) (by first | (rw [offN, if_pos c34]) | (rw [offN, if_neg c34])) ?_
          exact ih (k + 1) (by omega) (by omega)
        · refine v_aload_n (pc := 37) 0 g dX1_goMinute_37 rfl rfl ?_
          refine v_iload_n (pc := 38) 1 g dX1_goMinute_38 rfl rfl ?_
          refine v_cVd (pc := 39) g dX1_goMinute_39 lk_X1_92 (c_X1_goOff (offN (ticked s) (mdue s) k) (mdue s) k (hI.ticked.offN _ _) (by have := hI.n; omega)) (Nat.le_of_ble_eq_true rfl) rfl rfl rfl rfl (Nat.le_of_ble_eq_true rfl) ?_
          refine v_iincN (pc := 42) g dX1_goMinute_42 rfl hnL.symm ?_
          refine v_goto (pc := 45) 18 g dX1_goMinute_45 rfl ?_
          refine v_w (stW (offN (ticked s) (mdue s) (k + 1)) (mdue s)) (by first | (rw [offN, if_pos c34]) | (rw [offN, if_neg c34])) ?_
          exact ih (k + 1) (by omega) (by omega)
  exact L18 (sN s + 1) 0 (Nat.zero_le _) (by omega)
set_option maxRecDepth 20000 in
set_option maxHeartbeats 2000000 in
theorem c_X1_goMinutes (s : St) (we : Int32) (m : Nat) (hI : Inv s) (hm : m < 1000) : RunD 4 yX1_goMinutes cX1_goMinutes 3 none [.ref 0, .int (nI m)] (stW s we) (none) (stW (minN s m) (weN s we m)) := by
  refine Runs.of (by decide) (Nat.le_of_ble_eq_true rfl) rfl ?_
  intro X g hret hnL
  refine v_iconst (pc := 0) (v := 0) g dX1_goMinutes_0 (by decide) ?_
  refine v_istore_n (pc := 1) 2 _ g dX1_goMinutes_1 rfl (Nat.le_of_ble_eq_true rfl) hnL.symm rfl ?_
  have L2 : ∀ (fu : Nat) (k : Nat), k ≤ m → m - k < fu → V X 2 [some (.ref 0), some (.int (nI m)), some (.int (nI k))] [] (stW (minN s k) (weN s we k)) := by
    intro fu
    induction fu with
    | zero => intro k hk hm; exact absurd hm (Nat.not_lt_zero _)
    | succ fu ih =>
      intro k hk hm
      refine v_iload_n (pc := 2) 2 g dX1_goMinutes_2 rfl rfl ?_
      refine v_iload_n (pc := 3) 1 g dX1_goMinutes_3 rfl rfl ?_
      refine v_icmp_ge (pc := 4) 17 g dX1_goMinutes_4 rfl (fun c4 => ?_) (fun c4 => ?_)
      · have e4 : k = m := ge_t (n := m) rfl hk (by omega) c4
        subst e4
        exact v_vret (pc := 17) g hret dX1_goMinutes_17 (⟨rfl, rfl⟩)
      · have e4 : k < m := ge_f (n := m) rfl hk (by omega) c4
        refine v_aload_n (pc := 7) 0 g dX1_goMinutes_7 rfl rfl ?_
        refine v_cVd (pc := 8) g dX1_goMinutes_8 lk_X1_76 (c_X1_goMinute (minN s k) (weN s we k) (hI.minN k)) (Nat.le_of_ble_eq_true rfl) rfl rfl rfl rfl (Nat.le_of_ble_eq_true rfl) ?_
        refine v_iincN (pc := 11) g dX1_goMinutes_11 rfl hnL.symm ?_
        refine v_goto (pc := 14) 2 g dX1_goMinutes_14 rfl ?_
        exact ih (k + 1) (by omega) (by omega)
  exact L2 (m + 1) 0 (Nat.zero_le _) (by omega)
set_option maxRecDepth 20000 in
set_option maxHeartbeats 2000000 in
theorem c_X1_addOne (s : St) (we : Int32) (kd h : Int32) (hn : sN s < 8) : RunD 0 yX1_addOne cX1_addOne 4 (some .int) [.ref 0, .int kd, .int h] (stW s we) (some (.int (nI (sN s)))) (stW (addS s kd h 1 20 0) we) := by
  refine Runs.of (by decide) (Nat.le_of_ble_eq_true rfl) rfl ?_
  intro X g hret hnL
  refine v_aload_n (pc := 0) 0 g dX1_addOne_0 rfl rfl ?_
  refine v_get (pc := 1) g dX1_addOne_1 fl_X1_28 rfl rfl ?_
  refine v_istore_n (pc := 4) 3 _ g dX1_addOne_4 rfl (Nat.le_of_ble_eq_true rfl) hnL.symm rfl ?_
  refine v_iload_n (pc := 5) 3 g dX1_addOne_5 rfl rfl ?_
  refine v_bipush (pc := 6) (v := 8) g dX1_addOne_6 (by decide) ?_
  refine v_icmp_lt (pc := 8) 14 g dX1_addOne_8 rfl (fun c8 => ?_) (fun c8 => ?_)
  · refine v_aload_n (pc := 14) 0 g dX1_addOne_14 rfl rfl ?_
    refine v_get (pc := 15) g dX1_addOne_15 fl_X1_31 rfl rfl ?_
    refine v_iload_n (pc := 18) 3 g dX1_addOne_18 rfl rfl ?_
    refine v_iload_n (pc := 19) 1 g dX1_addOne_19 rfl rfl ?_
    refine v_iastN (pc := 20) _ _ g dX1_addOne_20 rfl rfl (by omega) (Nat.le_of_ble_eq_true rfl) rfl ?_
    refine v_aload_n (pc := 21) 0 g dX1_addOne_21 rfl rfl ?_
    refine v_get (pc := 22) g dX1_addOne_22 fl_X1_34 rfl rfl ?_
    refine v_iload_n (pc := 25) 3 g dX1_addOne_25 rfl rfl ?_
    refine v_iload_n (pc := 26) 2 g dX1_addOne_26 rfl rfl ?_
    refine v_iastN (pc := 27) _ _ g dX1_addOne_27 rfl rfl (by omega) (Nat.le_of_ble_eq_true rfl) rfl ?_
    refine v_aload_n (pc := 28) 0 g dX1_addOne_28 rfl rfl ?_
    refine v_get (pc := 29) g dX1_addOne_29 fl_X1_37 rfl rfl ?_
    refine v_iload_n (pc := 32) 3 g dX1_addOne_32 rfl rfl ?_
    refine v_iconst (pc := 33) (v := 1) g dX1_addOne_33 (by decide) ?_
    refine v_iastN (pc := 34) _ _ g dX1_addOne_34 rfl rfl (by omega) (Nat.le_of_ble_eq_true rfl) rfl ?_
    refine v_aload_n (pc := 35) 0 g dX1_addOne_35 rfl rfl ?_
    refine v_get (pc := 36) g dX1_addOne_36 fl_X1_40 rfl rfl ?_
    refine v_iload_n (pc := 39) 3 g dX1_addOne_39 rfl rfl ?_
    refine v_bipush (pc := 40) (v := 20) g dX1_addOne_40 (by decide) ?_
    refine v_iastN (pc := 42) _ _ g dX1_addOne_42 rfl rfl (by omega) (Nat.le_of_ble_eq_true rfl) rfl ?_
    refine v_aload_n (pc := 43) 0 g dX1_addOne_43 rfl rfl ?_
    refine v_get (pc := 44) g dX1_addOne_44 fl_X1_43 rfl rfl ?_
    refine v_iload_n (pc := 47) 3 g dX1_addOne_47 rfl rfl ?_
    refine v_iconst (pc := 48) (v := 0) g dX1_addOne_48 (by decide) ?_
    refine v_iastN (pc := 49) _ _ g dX1_addOne_49 rfl rfl (by omega) (Nat.le_of_ble_eq_true rfl) rfl ?_
    refine v_aload_n (pc := 50) 0 g dX1_addOne_50 rfl rfl ?_
    refine v_get (pc := 51) g dX1_addOne_51 fl_X1_46 rfl rfl ?_
    refine v_iload_n (pc := 54) 3 g dX1_addOne_54 rfl rfl ?_
    refine v_iconst (pc := 55) (v := 0) g dX1_addOne_55 (by decide) ?_
    refine v_iastN (pc := 56) _ _ g dX1_addOne_56 rfl rfl (by omega) (Nat.le_of_ble_eq_true rfl) rfl ?_
    refine v_aload_n (pc := 57) 0 g dX1_addOne_57 rfl rfl ?_
    refine v_iload_n (pc := 58) 3 g dX1_addOne_58 rfl rfl ?_
    refine v_iconst (pc := 59) (v := 1) g dX1_addOne_59 (by decide) ?_
    refine v_iadd (pc := 60) g dX1_addOne_60 ?_
    rw [nI_1]
    refine v_put (pc := 61) _ g dX1_addOne_61 fp_X1_28 rfl (Nat.le_of_ble_eq_true rfl) rfl rfl rfl rfl ?_
    refine v_iload_n (pc := 64) 3 g dX1_addOne_64 rfl rfl ?_
    exact v_iret (pc := 65) g hret dX1_addOne_65 (⟨rfl, rfl⟩)
  · exact absurd ((nI_ltI (a := sN s) (b := 8) (by omega) (by omega)).mpr hn) c8
set_option maxRecDepth 20000 in
set_option maxHeartbeats 2000000 in
theorem c_X1_houseRow (s : St) (we : Int32) (v : Int32) (k : Nat) (hv : (v.toInt = 0 ∧ k = 1) ∨ (v.toInt = 1 ∧ k = 2) ∨ (v.toInt = 2 ∧ k = 3)) : RunD 0 yX1_houseRow cX1_houseRow 2 (some (.array .int)) [.ref 0, .int v] (stW s we) (some (.ref k)) (stW s we) := by
  refine Runs.of (by decide) (Nat.le_of_ble_eq_true rfl) rfl ?_
  intro X g hret hnL
  refine v_iload_n (pc := 0) 1 g dX1_houseRow_0 rfl rfl ?_
  refine v_top (fun x1 e1 => ?_)
  by_cases t1_0 : x1.toInt = 0
  · refine v_lk (pc := 1) 28 g dX1_houseRow_1 rfl (by rw [t1_0]) rfl ?_
    rw [e1] at t1_0
    refine v_aload_n (pc := 28) 0 g dX1_houseRow_28 rfl rfl ?_
    refine v_get (pc := 29) g dX1_houseRow_29 fl_X1_18 rfl rfl ?_
    exact v_aret (pc := 32) g hret dX1_houseRow_32 (Or.inr ⟨_, rfl⟩) (by first | (have e : k = 1 := (by omega); subst e; exact ⟨rfl, rfl⟩) | (have e : k = 2 := (by omega); subst e; exact ⟨rfl, rfl⟩) | (have e : k = 3 := (by omega); subst e; exact ⟨rfl, rfl⟩))
  by_cases t1_1 : x1.toInt = 1
  · refine v_lk (pc := 1) 33 g dX1_houseRow_1 rfl (by rw [t1_1]) rfl ?_
    rw [e1] at t1_1
    refine v_aload_n (pc := 33) 0 g dX1_houseRow_33 rfl rfl ?_
    refine v_get (pc := 34) g dX1_houseRow_34 fl_X1_22 rfl rfl ?_
    exact v_aret (pc := 37) g hret dX1_houseRow_37 (Or.inr ⟨_, rfl⟩) (by first | (have e : k = 1 := (by omega); subst e; exact ⟨rfl, rfl⟩) | (have e : k = 2 := (by omega); subst e; exact ⟨rfl, rfl⟩) | (have e : k = 3 := (by omega); subst e; exact ⟨rfl, rfl⟩))
  refine v_lk (pc := 1) (off := 37) 38 g dX1_houseRow_1 rfl (by show Op.lookupswitch.offset [(0, 27), (1, 32)] 37 _ = 37; rw [Op.lookupswitch.offset_cons, if_neg (fun h => t1_0 h.symm), Op.lookupswitch.offset_cons, if_neg (fun h => t1_1 h.symm), Op.lookupswitch.offset_nil]) rfl ?_
  rw [e1] at t1_0
  rw [e1] at t1_1
  refine v_aload_n (pc := 38) 0 g dX1_houseRow_38 rfl rfl ?_
  refine v_get (pc := 39) g dX1_houseRow_39 fl_X1_25 rfl rfl ?_
  exact v_aret (pc := 42) g hret dX1_houseRow_42 (Or.inr ⟨_, rfl⟩) (by first | (have e : k = 1 := (by omega); subst e; exact ⟨rfl, rfl⟩) | (have e : k = 2 := (by omega); subst e; exact ⟨rfl, rfl⟩) | (have e : k = 3 := (by omega); subst e; exact ⟨rfl, rfl⟩))
set_option maxRecDepth 20000 in
set_option maxHeartbeats 2000000 in
theorem c_X1_sneezerRow (s : St) (we : Int32) (v : Int32) (k : Nat) (hv : 1 ≤ v.toInt ∧ v.toInt ≤ 5 ∧ (k : Int) = v.toInt + 4) : RunD 0 yX1_sneezerRow cX1_sneezerRow 2 (some (.array .int)) [.ref 0, .int v] (stW s we) (some (.ref k)) (stW s we) := by
  refine Runs.of (by decide) (Nat.le_of_ble_eq_true rfl) rfl ?_
  intro X g hret hnL
  refine v_iload_n (pc := 0) 1 g dX1_sneezerRow_0 rfl rfl ?_
  refine v_top (fun x1 e1 => ?_)
  by_cases t1_1 : x1.toInt = 1
  · refine v_tin (pc := 1) 1 32 g dX1_sneezerRow_1 t1_1 (by decide) (by decide) rfl rfl ?_
    rw [e1] at t1_1
    refine v_aload_n (pc := 32) 0 g dX1_sneezerRow_32 rfl rfl ?_
    refine v_get (pc := 33) g dX1_sneezerRow_33 fl_X1_34 rfl rfl ?_
    exact v_aret (pc := 36) g hret dX1_sneezerRow_36 (Or.inr ⟨_, rfl⟩) (by first | (have e : k = 5 := (by omega); subst e; exact ⟨rfl, rfl⟩) | (have e : k = 6 := (by omega); subst e; exact ⟨rfl, rfl⟩) | (have e : k = 7 := (by omega); subst e; exact ⟨rfl, rfl⟩) | (have e : k = 8 := (by omega); subst e; exact ⟨rfl, rfl⟩) | (have e : k = 9 := (by omega); subst e; exact ⟨rfl, rfl⟩))
  by_cases t1_2 : x1.toInt = 2
  · refine v_tin (pc := 1) 2 37 g dX1_sneezerRow_1 t1_2 (by decide) (by decide) rfl rfl ?_
    rw [e1] at t1_2
    refine v_aload_n (pc := 37) 0 g dX1_sneezerRow_37 rfl rfl ?_
    refine v_get (pc := 38) g dX1_sneezerRow_38 fl_X1_37 rfl rfl ?_
    exact v_aret (pc := 41) g hret dX1_sneezerRow_41 (Or.inr ⟨_, rfl⟩) (by first | (have e : k = 5 := (by omega); subst e; exact ⟨rfl, rfl⟩) | (have e : k = 6 := (by omega); subst e; exact ⟨rfl, rfl⟩) | (have e : k = 7 := (by omega); subst e; exact ⟨rfl, rfl⟩) | (have e : k = 8 := (by omega); subst e; exact ⟨rfl, rfl⟩) | (have e : k = 9 := (by omega); subst e; exact ⟨rfl, rfl⟩))
  by_cases t1_3 : x1.toInt = 3
  · refine v_tin (pc := 1) 3 42 g dX1_sneezerRow_1 t1_3 (by decide) (by decide) rfl rfl ?_
    rw [e1] at t1_3
    refine v_aload_n (pc := 42) 0 g dX1_sneezerRow_42 rfl rfl ?_
    refine v_get (pc := 43) g dX1_sneezerRow_43 fl_X1_40 rfl rfl ?_
    exact v_aret (pc := 46) g hret dX1_sneezerRow_46 (Or.inr ⟨_, rfl⟩) (by first | (have e : k = 5 := (by omega); subst e; exact ⟨rfl, rfl⟩) | (have e : k = 6 := (by omega); subst e; exact ⟨rfl, rfl⟩) | (have e : k = 7 := (by omega); subst e; exact ⟨rfl, rfl⟩) | (have e : k = 8 := (by omega); subst e; exact ⟨rfl, rfl⟩) | (have e : k = 9 := (by omega); subst e; exact ⟨rfl, rfl⟩))
  by_cases t1_4 : x1.toInt = 4
  · refine v_tin (pc := 1) 4 47 g dX1_sneezerRow_1 t1_4 (by decide) (by decide) rfl rfl ?_
    rw [e1] at t1_4
    refine v_aload_n (pc := 47) 0 g dX1_sneezerRow_47 rfl rfl ?_
    refine v_get (pc := 48) g dX1_sneezerRow_48 fl_X1_43 rfl rfl ?_
    exact v_aret (pc := 51) g hret dX1_sneezerRow_51 (Or.inr ⟨_, rfl⟩) (by first | (have e : k = 5 := (by omega); subst e; exact ⟨rfl, rfl⟩) | (have e : k = 6 := (by omega); subst e; exact ⟨rfl, rfl⟩) | (have e : k = 7 := (by omega); subst e; exact ⟨rfl, rfl⟩) | (have e : k = 8 := (by omega); subst e; exact ⟨rfl, rfl⟩) | (have e : k = 9 := (by omega); subst e; exact ⟨rfl, rfl⟩))
  refine v_tout (pc := 1) 52 g dX1_sneezerRow_1 (by omega) rfl ?_
  rw [e1] at t1_1
  rw [e1] at t1_2
  rw [e1] at t1_3
  rw [e1] at t1_4
  refine v_aload_n (pc := 52) 0 g dX1_sneezerRow_52 rfl rfl ?_
  refine v_get (pc := 53) g dX1_sneezerRow_53 fl_X1_46 rfl rfl ?_
  exact v_aret (pc := 56) g hret dX1_sneezerRow_56 (Or.inr ⟨_, rfl⟩) (by first | (have e : k = 5 := (by omega); subst e; exact ⟨rfl, rfl⟩) | (have e : k = 6 := (by omega); subst e; exact ⟨rfl, rfl⟩) | (have e : k = 7 := (by omega); subst e; exact ⟨rfl, rfl⟩) | (have e : k = 8 := (by omega); subst e; exact ⟨rfl, rfl⟩) | (have e : k = 9 := (by omega); subst e; exact ⟨rfl, rfl⟩))
set_option maxRecDepth 20000 in
set_option maxHeartbeats 2000000 in
theorem c_X1_become (s t : St) (ws wt : Int32) : RunD 1 yX1_become cX1_become 2 none [.ref 0, .ref 10] (stW t wt ++ stO 10 s ws) (none) (stW s wt ++ stO 10 s ws) := by
  refine Runs.of (by decide) (Nat.le_of_ble_eq_true rfl) rfl ?_
  intro X g hret hnL
  refine v_aload_n (pc := 0) 0 g dX1_become_0 rfl rfl ?_
  refine v_aload_n (pc := 1) 1 g dX1_become_1 rfl rfl ?_
  refine v_get (pc := 2) g dX1_become_2 fl_X1_9 rfl rfl ?_
  refine v_put (pc := 5) _ g dX1_become_5 fp_X1_9 rfl (Nat.le_of_ble_eq_true rfl) rfl rfl rfl rfl ?_
  refine v_aload_n (pc := 8) 0 g dX1_become_8 rfl rfl ?_
  refine v_aload_n (pc := 9) 1 g dX1_become_9 rfl rfl ?_
  refine v_get (pc := 10) g dX1_become_10 fl_X1_15 rfl rfl ?_
  refine v_put (pc := 13) _ g dX1_become_13 fp_X1_15 rfl (Nat.le_of_ble_eq_true rfl) rfl rfl rfl rfl ?_
  refine v_aload_n (pc := 16) 1 g dX1_become_16 rfl rfl ?_
  refine v_get (pc := 17) g dX1_become_17 fl_X1_18 rfl rfl ?_
  refine v_iconst (pc := 20) (v := 0) g dX1_become_20 (by decide) ?_
  refine v_aload_n (pc := 21) 0 g dX1_become_21 rfl rfl ?_
  refine v_get (pc := 22) g dX1_become_22 fl_X1_18 rfl rfl ?_
  refine v_iconst (pc := 25) (v := 0) g dX1_become_25 (by decide) ?_
  refine v_bipush (pc := 26) (v := 12) g dX1_become_26 (by decide) ?_
  refine v_acF (pc := 28) _ g dX1_become_28 lk_X1_52 (Nat.le_of_ble_eq_true rfl) rfl rfl rfl (Nat.le_of_ble_eq_true rfl) (Nat.le_of_ble_eq_true rfl) rfl ?_
  refine v_aload_n (pc := 31) 1 g dX1_become_31 rfl rfl ?_
  refine v_get (pc := 32) g dX1_become_32 fl_X1_22 rfl rfl ?_
  refine v_iconst (pc := 35) (v := 0) g dX1_become_35 (by decide) ?_
  refine v_aload_n (pc := 36) 0 g dX1_become_36 rfl rfl ?_
  refine v_get (pc := 37) g dX1_become_37 fl_X1_22 rfl rfl ?_
  refine v_iconst (pc := 40) (v := 0) g dX1_become_40 (by decide) ?_
  refine v_bipush (pc := 41) (v := 12) g dX1_become_41 (by decide) ?_
  refine v_acF (pc := 43) _ g dX1_become_43 lk_X1_52 (Nat.le_of_ble_eq_true rfl) rfl rfl rfl (Nat.le_of_ble_eq_true rfl) (Nat.le_of_ble_eq_true rfl) rfl ?_
  refine v_aload_n (pc := 46) 1 g dX1_become_46 rfl rfl ?_
  refine v_get (pc := 47) g dX1_become_47 fl_X1_25 rfl rfl ?_
  refine v_iconst (pc := 50) (v := 0) g dX1_become_50 (by decide) ?_
  refine v_aload_n (pc := 51) 0 g dX1_become_51 rfl rfl ?_
  refine v_get (pc := 52) g dX1_become_52 fl_X1_25 rfl rfl ?_
  refine v_iconst (pc := 55) (v := 0) g dX1_become_55 (by decide) ?_
  refine v_bipush (pc := 56) (v := 12) g dX1_become_56 (by decide) ?_
  refine v_acF (pc := 58) _ g dX1_become_58 lk_X1_52 (Nat.le_of_ble_eq_true rfl) rfl rfl rfl (Nat.le_of_ble_eq_true rfl) (Nat.le_of_ble_eq_true rfl) rfl ?_
  refine v_aload_n (pc := 61) 0 g dX1_become_61 rfl rfl ?_
  refine v_aload_n (pc := 62) 1 g dX1_become_62 rfl rfl ?_
  refine v_get (pc := 63) g dX1_become_63 fl_X1_28 rfl rfl ?_
  refine v_put (pc := 66) _ g dX1_become_66 fp_X1_28 rfl (Nat.le_of_ble_eq_true rfl) rfl rfl rfl rfl ?_
  refine v_aload_n (pc := 69) 1 g dX1_become_69 rfl rfl ?_
  refine v_get (pc := 70) g dX1_become_70 fl_X1_31 rfl rfl ?_
  refine v_iconst (pc := 73) (v := 0) g dX1_become_73 (by decide) ?_
  refine v_aload_n (pc := 74) 0 g dX1_become_74 rfl rfl ?_
  refine v_get (pc := 75) g dX1_become_75 fl_X1_31 rfl rfl ?_
  refine v_iconst (pc := 78) (v := 0) g dX1_become_78 (by decide) ?_
  refine v_bipush (pc := 79) (v := 8) g dX1_become_79 (by decide) ?_
  refine v_acF (pc := 81) _ g dX1_become_81 lk_X1_52 (Nat.le_of_ble_eq_true rfl) rfl rfl rfl (Nat.le_of_ble_eq_true rfl) (Nat.le_of_ble_eq_true rfl) rfl ?_
  refine v_aload_n (pc := 84) 1 g dX1_become_84 rfl rfl ?_
  refine v_get (pc := 85) g dX1_become_85 fl_X1_34 rfl rfl ?_
  refine v_iconst (pc := 88) (v := 0) g dX1_become_88 (by decide) ?_
  refine v_aload_n (pc := 89) 0 g dX1_become_89 rfl rfl ?_
  refine v_get (pc := 90) g dX1_become_90 fl_X1_34 rfl rfl ?_
  refine v_iconst (pc := 93) (v := 0) g dX1_become_93 (by decide) ?_
  refine v_bipush (pc := 94) (v := 8) g dX1_become_94 (by decide) ?_
  refine v_acF (pc := 96) _ g dX1_become_96 lk_X1_52 (Nat.le_of_ble_eq_true rfl) rfl rfl rfl (Nat.le_of_ble_eq_true rfl) (Nat.le_of_ble_eq_true rfl) rfl ?_
  refine v_aload_n (pc := 99) 1 g dX1_become_99 rfl rfl ?_
  refine v_get (pc := 100) g dX1_become_100 fl_X1_37 rfl rfl ?_
  refine v_iconst (pc := 103) (v := 0) g dX1_become_103 (by decide) ?_
  refine v_aload_n (pc := 104) 0 g dX1_become_104 rfl rfl ?_
  refine v_get (pc := 105) g dX1_become_105 fl_X1_37 rfl rfl ?_
  refine v_iconst (pc := 108) (v := 0) g dX1_become_108 (by decide) ?_
  refine v_bipush (pc := 109) (v := 8) g dX1_become_109 (by decide) ?_
  refine v_acF (pc := 111) _ g dX1_become_111 lk_X1_52 (Nat.le_of_ble_eq_true rfl) rfl rfl rfl (Nat.le_of_ble_eq_true rfl) (Nat.le_of_ble_eq_true rfl) rfl ?_
  refine v_aload_n (pc := 114) 1 g dX1_become_114 rfl rfl ?_
  refine v_get (pc := 115) g dX1_become_115 fl_X1_40 rfl rfl ?_
  refine v_iconst (pc := 118) (v := 0) g dX1_become_118 (by decide) ?_
  refine v_aload_n (pc := 119) 0 g dX1_become_119 rfl rfl ?_
  refine v_get (pc := 120) g dX1_become_120 fl_X1_40 rfl rfl ?_
  refine v_iconst (pc := 123) (v := 0) g dX1_become_123 (by decide) ?_
  refine v_bipush (pc := 124) (v := 8) g dX1_become_124 (by decide) ?_
  refine v_acF (pc := 126) _ g dX1_become_126 lk_X1_52 (Nat.le_of_ble_eq_true rfl) rfl rfl rfl (Nat.le_of_ble_eq_true rfl) (Nat.le_of_ble_eq_true rfl) rfl ?_
  refine v_aload_n (pc := 129) 1 g dX1_become_129 rfl rfl ?_
  refine v_get (pc := 130) g dX1_become_130 fl_X1_43 rfl rfl ?_
  refine v_iconst (pc := 133) (v := 0) g dX1_become_133 (by decide) ?_
  refine v_aload_n (pc := 134) 0 g dX1_become_134 rfl rfl ?_
  refine v_get (pc := 135) g dX1_become_135 fl_X1_43 rfl rfl ?_
  refine v_iconst (pc := 138) (v := 0) g dX1_become_138 (by decide) ?_
  refine v_bipush (pc := 139) (v := 8) g dX1_become_139 (by decide) ?_
  refine v_acF (pc := 141) _ g dX1_become_141 lk_X1_52 (Nat.le_of_ble_eq_true rfl) rfl rfl rfl (Nat.le_of_ble_eq_true rfl) (Nat.le_of_ble_eq_true rfl) rfl ?_
  refine v_aload_n (pc := 144) 1 g dX1_become_144 rfl rfl ?_
  refine v_get (pc := 145) g dX1_become_145 fl_X1_46 rfl rfl ?_
  refine v_iconst (pc := 148) (v := 0) g dX1_become_148 (by decide) ?_
  refine v_aload_n (pc := 149) 0 g dX1_become_149 rfl rfl ?_
  refine v_get (pc := 150) g dX1_become_150 fl_X1_46 rfl rfl ?_
  refine v_iconst (pc := 153) (v := 0) g dX1_become_153 (by decide) ?_
  refine v_bipush (pc := 154) (v := 8) g dX1_become_154 (by decide) ?_
  refine v_acF (pc := 156) _ g dX1_become_156 lk_X1_52 (Nat.le_of_ble_eq_true rfl) rfl rfl rfl (Nat.le_of_ble_eq_true rfl) (Nat.le_of_ble_eq_true rfl) rfl ?_
  exact v_vret (pc := 159) g hret dX1_become_159 (⟨rfl, rfl⟩)
