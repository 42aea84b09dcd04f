/-! ===== the reference: tokens ===== -/
def hsN (f : Nat → Int32) (b : Nat) : Nat → Int64
  | 0 => 0
  | k + 1 => if k < 12 then 27 * hsN f b k + (f (b + k)).toInt64 - 96 else -1
def rvN (f : Nat → Int32) (b : Nat) : Nat → Int32
  | 0 => 0
  | k + 1 => if rvN f b k ≤ 999 then 10 * rvN f b k + f (b + k) - 48 else 10000
def soT (tb : Nat → Int32) (tl b : Nat) : Nat := if tkT tb tl b = 4 then 3 else tkT tb tl b
def woT (tb : Nat → Int32) (tl b : Nat) : Int64 := if tkT tb tl b = 1 then hsN (byt tb tl) b (enT tb tl b - b) else 0
def vaT (tb : Nat → Int32) (tl b : Nat) : Int32 := if tkT tb tl b = 2 then rvN (byt tb tl) b (enT tb tl b - b) else byt tb tl b
/-! the hash tells the word -/
def dg (v : Int32) : Nat := v.toInt.toNat - 96
def hN (d : Nat → Nat) : Nat → Nat
  | 0 => 0
  | k + 1 => 27 * hN d k + d k
theorem hN_inj {d e : Nat → Nat} : ∀ n m, (∀ k, k < n → 1 ≤ d k ∧ d k ≤ 26) → (∀ k, k < m → 1 ≤ e k ∧ e k ≤ 26) → hN d n = hN e m → n = m ∧ ∀ k, k < n → d k = e k
  | 0, 0, _, _, _ => ⟨rfl, fun k hk => absurd hk (Nat.not_lt_zero _)⟩
  | 0, m + 1, _, he, h => by
    rw [hN, hN] at h
    have := he m (by omega)
    omega
  | n + 1, 0, hd, _, h => by
    rw [hN, hN] at h
    have := hd n (by omega)
    omega
  | n + 1, m + 1, hd, he, h => by
    rw [hN, hN] at h
    have h1 := hd n (by omega)
    have h2 := he m (by omega)
    obtain ⟨a, b⟩ := hN_inj n m (fun k hk => hd k (by omega)) (fun k hk => he k (by omega)) (by omega)
    subst a
    refine ⟨rfl, fun k hk => ?_⟩
    rcases Nat.lt_or_ge k n with q | q
    · exact b k q
    · rw [show k = n by omega]; omega
theorem hN_lt {d : Nat → Nat} : ∀ n, (∀ k, k < n → 1 ≤ d k ∧ d k ≤ 26) → hN d n < 27 ^ n
  | 0, _ => by show 0 < 27 ^ 0; decide
  | n + 1, h => by
    have h1 := hN_lt n (fun k hk => h k (by omega))
    have h2 := h n (by omega)
    rw [hN, Nat.pow_succ]
    omega
theorem lN_inj {a c : Nat} (ha : a < 2 ^ 63) (hc : c < 2 ^ 63) (h : lN a = lN c) : a = c := by
  have h1 := congrArg Int64.toInt h
  unfold lN at h1
  rw [Int64.toInt_ofNat_of_lt ha, Int64.toInt_ofNat_of_lt hc] at h1
  omega
theorem hsN_nat {f : Nat → Int32} {b : Nat} : ∀ n, n ≤ 12 → (∀ k, k < n → isL (f (b + k))) → hsN f b n = lN (hN (fun k => dg (f (b + k))) n)
  | 0, _, _ => rfl
  | n + 1, hn, h => by
    have ih := hsN_nat n (by omega) (fun k hk => h k (by omega))
    have hl := h n (by omega)
    obtain ⟨d, hd, ed⟩ := (show inR (f (b + n)) 0 ((122 : Nat) : Int) from ⟨by have := hl.1; omega, hl.2⟩).nat (by omega)
    have h97 : 97 ≤ d := by have := hl.1; rw [ed, nI_toInt (by omega)] at this; omega
    rw [hsN, if_pos (by omega), ih, hN]
    have e1 : dg (f (b + n)) = d - 96 := by unfold dg; rw [ed, nI_toInt (by omega)]; omega
    show 27 * lN _ + (f (b + n)).toInt64 - 96 = lN (27 * _ + dg (f (b + n)))
    rw [e1, ed, nI_l (by omega), show (27 : Int64) = lN 27 from rfl, show (96 : Int64) = lN 96 from rfl, lN_mul, lN_add, lN_sub (by omega)]
    congr 1
    omega
theorem hsN_big {f : Nat → Int32} {b : Nat} : ∀ n, 12 < n → hsN f b n = -1
  | 0, h => absurd h (by omega)
  | n + 1, h => by rw [hsN, if_neg (by omega)]
def HSN : List Nat := [1096106, 1758676, 65441295, 33861013, 40154, 7564648716, 10408481, 70312, 291828506, 307058, 380396, 3427, 237292]
def HS (i : Nat) : Int64 := lN (HSN.getD i 0)
theorem HSN_ok : ∀ i, i < 13 → HSN.getD i 0 = hN (fun k => dg (chS i k)) (lnS i) ∧ HSN.getD i 0 < 2 ^ 62 ∧ ∀ k, k < lnS i → isL (chS i k) := by decide +kernel
theorem dg_rng {v : Int32} (h : isL v) : 1 ≤ dg v ∧ dg v ≤ 26 := by
  unfold dg
  have h1 := h.1
  have h2 := h.2
  omega
theorem dg_inj {v u : Int32} (h : isL v) (q : isL u) (e : dg v = dg u) : v = u := by
  unfold dg at e
  have h1 := h.1
  have h3 := q.1
  exact i_eq.mpr (by omega)
theorem hN_congr {d e : Nat → Nat} : ∀ n, (∀ k, k < n → d k = e k) → hN d n = hN e n
  | 0, _ => rfl
  | n + 1, h => by rw [hN, hN, hN_congr n (fun k hk => h k (by omega)), h n (by omega)]
theorem so_1 {tb : Nat → Int32} {tl b : Nat} : nI (soT tb tl b) = 1 ↔ tkT tb tl b = 1 := by
  have h5 := tk_lt tb tl b
  unfold soT
  split
  · next h => rw [h]; exact ⟨fun z => absurd z (by decide), fun z => absurd z (by decide)⟩
  · exact ⟨fun z => nI_inj (b := 1) (by omega) (by omega) z, fun z => by rw [z]; rfl⟩
theorem isW_to {tb : Nat → Int32} {tl b i : Nat} (hi : i < 13) (h : isW tb tl b i = true) : tkT tb tl b = 1 ∧ woT tb tl b = HS i := by
  have k1 := (HSN_ok i hi).1
  have k3 := (HSN_ok i hi).2.2
  have h8 := lnS_lt i
  unfold isW at h
  rw [Bool.and_eq_true, decide_eq_true_iff, eqW_iff] at h
  obtain ⟨⟨t1, t2⟩, t3⟩ := h
  have e1 : woT tb tl b = hsN (byt tb tl) b (lnS i) := by
    unfold woT
    rw [if_pos t1, t2, Nat.add_sub_cancel_left]
  have e2 := hsN_nat (f := byt tb tl) (b := b) (lnS i) (by omega) (fun k hk => by rw [show byt tb tl (b + k) = chS i k from t3 k hk]; exact k3 k hk)
  have e3 : hN (fun k => dg (byt tb tl (b + k))) (lnS i) = hN (fun k => dg (chS i k)) (lnS i) := hN_congr _ (fun k hk => congrArg dg (t3 k hk))
  exact ⟨t1, e1.trans (e2.trans (congrArg lN (e3.trans k1.symm)))⟩
theorem let_all {tb : Nat → Int32} {tl b : Nat} (t1 : tkT tb tl b = 1) : ∀ k, k < enT tb tl b - b → isL (byt tb tl (b + k)) := fun k hk => by
  rw [en_1 t1] at hk
  exact of_decide_eq_true (sc_all (q := qL tb tl) (tl := tl) (p := b) (k := b + k) (by omega) (by omega))
theorem p12 : (27 : Nat) ^ 12 < 2 ^ 63 := by decide
theorem m1_ne {a : Nat} (h : a < 2 ^ 63) : ¬ (-1 : Int64) = lN a := by
  intro t2
  have h1 := congrArg Int64.toInt t2
  unfold lN at h1
  rw [Int64.toInt_ofNat_of_lt h] at h1
  have : (-1 : Int64).toInt = -1 := rfl
  omega
theorem isW_of {tb : Nat → Int32} {tl b i : Nat} (hR : tpR tb) (hb : b ≤ tl) (hi : i < 13) (t1 : tkT tb tl b = 1) (t2 : woT tb tl b = HS i) : isW tb tl b i = true := by
  have k1 := (HSN_ok i hi).1
  have k2 := (HSN_ok i hi).2.1
  have k3 := (HSN_ok i hi).2.2
  have h8 := lnS_lt i
  have hen := (en_rng hR hb).1
  have hL := let_all t1
  have e0 : hsN (byt tb tl) b (enT tb tl b - b) = lN (HSN.getD i 0) := by
    unfold woT HS at t2
    rw [if_pos t1] at t2
    exact t2
  generalize HSN.getD i 0 = q0 at k1 k2 e0
  rcases Nat.lt_or_ge 12 (enT tb tl b - b) with q | q
  · rw [hsN_big _ q] at e0
    exact absurd e0 (m1_ne (Nat.lt_trans k2 (by decide)))
  · have hd : ∀ k, k < enT tb tl b - b → 1 ≤ dg (byt tb tl (b + k)) ∧ dg (byt tb tl (b + k)) ≤ 26 := fun k hk => dg_rng (hL k hk)
    have hlt := hN_lt (d := fun k => dg (byt tb tl (b + k))) _ hd
    have hpow : 27 ^ (enT tb tl b - b) ≤ 27 ^ 12 := Nat.pow_le_pow_right (by omega) q
    have e := lN_inj (Nat.lt_of_lt_of_le hlt (Nat.le_trans hpow (Nat.le_of_lt p12))) (Nat.lt_trans k2 (by decide)) ((hsN_nat _ q hL).symm.trans e0)
    obtain ⟨e1, e2⟩ := hN_inj _ _ hd (fun k hk => dg_rng (k3 k hk)) (e.trans k1)
    unfold isW
    rw [Bool.and_eq_true, decide_eq_true_iff, eqW_iff]
    refine ⟨⟨t1, by omega⟩, fun k hk => ?_⟩
    exact dg_inj (hL k (by omega)) (k3 k hk) (e2 k (by omega))
theorem isW_iff {tb : Nat → Int32} {tl b i : Nat} (hR : tpR tb) (hb : b ≤ tl) (hi : i < 13) : isW tb tl b i = true ↔ nI (soT tb tl b) = 1 ∧ woT tb tl b = HS i := by
  rw [so_1]
  exact ⟨fun h => isW_to hi h, fun h => isW_of hR hb hi h.1 h.2⟩
/-! numbers: what each side has of a long one -/
theorem rv_cv {f : Nat → Int32} {b : Nat} : ∀ k, (∀ j, j < k → isD (f (b + j))) → ∃ c r : Nat, cvN f b k = nI c ∧ rvN f b k = nI r ∧ ((c = r ∧ r ≤ 999) ∨ (c = 1000 ∧ 1000 ≤ r ∧ r ≤ 10000))
  | 0, _ => ⟨0, 0, rfl, rfl, Or.inl ⟨rfl, by omega⟩⟩
  | k + 1, h => by
    obtain ⟨c, r, ec, er, hcr⟩ := rv_cv k (fun j hj => h j (by omega))
    have hd := h k (by omega)
    obtain ⟨d, hd2, ed⟩ := (show inR (f (b + k)) 0 ((57 : Nat) : Int) from ⟨by have := hd.1; omega, hd.2⟩).nat (by omega)
    have hd3 : 48 ≤ d := by have := hd.1; rw [ed, nI_toInt (by omega)] at this; omega
    rw [cvN, rvN, ec, er, ed, show (10 : Int32) = nI 10 from rfl, pk_mul, pk_mul, nI_add, nI_add, show (48 : Int32) = nI 48 from rfl, pk_sub (by omega), pk_sub (by omega), show (1000 : Int32) = nI 1000 from rfl, mn_nI (by omega) (by omega), show (999 : Int32) = nI 999 from rfl]
    by_cases q : r ≤ 999
    · rw [if_pos ((nI_leI (b := 999) (by omega) (by omega)).mpr q)]
      rcases hcr with ⟨e, _⟩ | ⟨_, e, _⟩
      · subst e
        refine ⟨_, _, rfl, rfl, ?_⟩
        split <;> omega
      · omega
    · rw [if_neg (fun z => q ((nI_leI (b := 999) (by omega) (by omega)).mp z))]
      refine ⟨_, 10000, rfl, rfl, ?_⟩
      split <;> omega
theorem so_2 {tb : Nat → Int32} {tl b : Nat} : nI (soT tb tl b) = 2 ↔ tkT tb tl b = 2 := by
  have h5 := tk_lt tb tl b
  unfold soT
  split
  · next h => rw [h]; exact ⟨fun z => absurd z (by decide), fun z => absurd z (by decide)⟩
  · exact ⟨fun z => nI_inj (b := 2) (by omega) (by omega) z, fun z => by rw [z]; rfl⟩
theorem so_0 {tb : Nat → Int32} {tl b : Nat} : nI (soT tb tl b) = 0 ↔ tkT tb tl b = 0 := by
  have h5 := tk_lt tb tl b
  unfold soT
  split
  · next h => rw [h]; exact ⟨fun z => absurd z (by decide), fun z => absurd z (by decide)⟩
  · exact ⟨fun z => nI_inj (b := 0) (by omega) (by omega) z, fun z => by rw [z]; rfl⟩
theorem so_3 {tb : Nat → Int32} {tl b : Nat} : (nI (soT tb tl b) = 3 ∧ vaT tb tl b = 59) ↔ tkT tb tl b = 3 := by
  have h5 := tk_lt tb tl b
  unfold soT vaT
  constructor
  · rintro ⟨h1, h2⟩
    by_cases h4 : tkT tb tl b = 4
    · rw [h4, if_neg (by decide)] at h2
      unfold tkT tk0 at h4
      rw [h2] at h4
      exact absurd h4 (by decide)
    · rw [if_neg h4] at h1
      exact nI_inj (b := 3) (by omega) (by omega) h1
  · intro h
    rw [h]
    refine ⟨rfl, ?_⟩
    rw [if_neg (by decide)]
    unfold tkT tk0 at h
    split at h
    · cases h
    · split at h
      · cases h
      · split at h
        · cases h
        · split at h
          · assumption
          · cases h
theorem dig_all {tb : Nat → Int32} {tl b : Nat} (h : tkT tb tl b = 2) : ∀ j, j < enT tb tl b - b → isD (byt tb tl (b + j)) := fun k hk => by
  rw [en_2 h] at hk
  exact of_decide_eq_true (sc_all (q := qD tb tl) (tl := tl) (p := b) (k := b + k) (by omega) (by omega))
theorem num_iff {tb : Nat → Int32} {tl b : Nat} {m : Int} (hm : m ≤ 99) : numT tb tl b m ↔ nI (soT tb tl b) = 2 ∧ inR (vaT tb tl b) 0 m := by
  rw [so_2]
  refine and_congr_right (fun h => ?_)
  obtain ⟨c, r, ec, er, hcr⟩ := rv_cv (f := byt tb tl) (b := b) (enT tb tl b - b) (dig_all h)
  unfold nvT vaT
  rw [if_pos h, ec, er]
  unfold inR
  rw [nI_toInt (by omega), nI_toInt (by omega)]
  omega
theorem num_va {tb : Nat → Int32} {tl b : Nat} {m : Int} (hm : m ≤ 99) (h : numT tb tl b m) : vaT tb tl b = nvT tb tl b := by
  obtain ⟨c, r, ec, er, hcr⟩ := rv_cv (f := byt tb tl) (b := b) (enT tb tl b - b) (dig_all h.1)
  have h2 := h.2
  unfold nvT at h2 ⊢
  unfold vaT
  rw [if_pos h.1, er]
  rw [ec] at h2 ⊢
  have := h2.2
  rw [nI_toInt (by omega)] at this
  rw [show c = r by omega]
theorem ftI {P : Prop} [Decidable P] : fits .boolean (.int (bI P)) = true := by
  by_cases h : P
  · rw [bI_1 h]; rfl
  · rw [bI_0 h]; rfl
set_option maxRecDepth 20000 in
set_option maxHeartbeats 2000000 in
theorem c_X5_byteAt (r : Nat → Int32) {fo : Nat → Int32} {of : Int32} {tr : Nat → Int32} {b1 : Nat → Int32} {ta : Nat → Int32} {tm : Nat} {so : Int32} {be : Int32} {te : Int32} {wo : Int64} {va : Int32} {gd : Int32} {bi : Nat → Int32} {si : Nat → Int32} {sh : Nat → Int64} {le : Nat → Int64} {im : Nat → Int32} {bf : Nat → Int32} {kp : Int32} (k : Nat) (hl : tm ≤ 120) (hk : k < 1000) : RunD 0 yX5_byteAt cX5_byteAt 2 (some .int) [.ref 0, .int (nI k)] (mW r fo of tr b1 ta tm so be te wo va gd bi si sh le im bf kp) (some (.int (byt ta tm k))) (mW r fo of tr b1 ta tm so be te wo va gd bi si sh le im bf kp) := by
  refine Runs.of (by decide) (Nat.le_of_ble_eq_true rfl) rfl ?_
  intro X g hret hnL
  refine v_iload_n (pc := 0) 1 g dX5_byteAt_0 rfl rfl ?_
  refine v_aload_n (pc := 1) 0 g dX5_byteAt_1 rfl rfl ?_
  refine v_get (pc := 2) g dX5_byteAt_2 fl_X5_170 rfl rfl ?_
  refine v_icmp_ge (pc := 5) 17 g dX5_byteAt_5 rfl (fun c5 => ?_) (fun c5 => ?_)
  · have e5 : tm ≤ k := (nI_leI (by omega) (by omega)).mp c5
    refine v_iconst (pc := 17) (v := (-1)) g dX5_byteAt_17 (by decide) ?_
    exact v_iret (pc := 18) g hret dX5_byteAt_18 (by first | exact ⟨so_i (byt_lt e5).symm, rfl⟩ | exact ⟨so_i (byt_ge e5).symm, rfl⟩)
  · have e5 : k < tm := Nat.not_le.mp (fun z => c5 ((nI_leI (by omega) (by omega)).mpr z))
    refine v_aload_n (pc := 8) 0 g dX5_byteAt_8 rfl rfl ?_
    refine v_get (pc := 9) g dX5_byteAt_9 fl_X5_22 rfl rfl ?_
    refine v_iload_n (pc := 12) 1 g dX5_byteAt_12 rfl rfl ?_
    refine v_ialdN (pc := 13) _ g dX5_byteAt_13 rfl rfl (by omega) (Nat.le_of_ble_eq_true rfl) ?_
    refine v_goto (pc := 14) 18 g dX5_byteAt_14 rfl ?_
    exact v_iret (pc := 18) g hret dX5_byteAt_18 (by first | exact ⟨so_i (byt_lt e5).symm, rfl⟩ | exact ⟨so_i (byt_ge e5).symm, rfl⟩)
set_option maxRecDepth 20000 in
set_option maxHeartbeats 2000000 in
theorem c_X5_adv0 (r : Nat → Int32) {fo : Nat → Int32} {of : Int32} {tr : Nat → Int32} {b1 : Nat → Int32} {ta : Nat → Int32} {tm : Nat} {so : Int32} {be : Int32} {wo : Int64} {va : Int32} {gd : Int32} {bi : Nat → Int32} {si : Nat → Int32} {sh : Nat → Int64} {le : Nat → Int64} {im : Nat → Int32} {bf : Nat → Int32} {kp : Int32} (p b : Nat) (hl : tm ≤ 120) (hp : p ≤ tm) (hb : bgT ta tm p = b) (hT : tkT ta tm b = 0) : RunD 2 yX5_advance cX5_advance 2 none [.ref 0] (mW r fo of tr b1 ta tm so be (nI p) wo va gd bi si sh le im bf kp) (none) (mW r fo of tr b1 ta tm (nI (soT ta tm b)) (nI b) (nI (enT ta tm b)) (woT ta tm b) (vaT ta tm b) gd bi si sh le im bf kp) := by
  refine Runs.of (by decide) (Nat.le_of_ble_eq_true rfl) rfl ?_
  intro X g hret hnL
  refine v_aload_n (pc := 0) 0 g dX5_advance_0 rfl rfl ?_
  refine v_aload_n (pc := 1) 0 g dX5_advance_1 rfl rfl ?_
  refine v_get (pc := 2) g dX5_advance_2 fl_X5_173 rfl rfl ?_
  refine v_put (pc := 5) _ g dX5_advance_5 fp_X5_176 rfl (Nat.le_of_ble_eq_true rfl) rfl rfl rfl rfl ?_
  have L8 : ∀ (fu : Nat) (k : Nat), k ≤ tm → bgT ta tm p = bgT ta tm k → tm - k < fu → V X 8 [some (.ref 0), none] [] (mW r fo of tr b1 ta tm so (nI k) (nI p) wo va gd bi si sh le im bf kp) := by
    intro fu
    induction fu with
    | zero => intro k hk hq hm; exact absurd hm (Nat.not_lt_zero _)
    | succ fu ih =>
      intro k hk hq hm
      refine v_aload_n (pc := 8) 0 g dX5_advance_8 rfl rfl ?_
      refine v_aload_n (pc := 9) 0 g dX5_advance_9 rfl rfl ?_
      refine v_get (pc := 10) g dX5_advance_10 fl_X5_176 rfl rfl ?_
      refine v_cVd (pc := 13) g dX5_advance_13 lk_X5_179 (c_X5_byteAt r k hl (by omega)) (Nat.le_of_ble_eq_true rfl) rfl rfl rfl rfl (Nat.le_of_ble_eq_true rfl) ?_
      refine v_bipush (pc := 16) (v := 32) g dX5_advance_16 (by decide) ?_
      refine v_icmp_ne (pc := 18) 34 g dX5_advance_18 rfl (fun c18 => ?_) (fun c18 => ?_)
      · have eb : k = b := by rw [← hb, hq]; unfold bgT; rw [sc_f (decide_eq_false c18)]
        subst eb
        refine v_aload_n (pc := 34) 0 g dX5_advance_34 rfl rfl ?_
        refine v_aload_n (pc := 35) 0 g dX5_advance_35 rfl rfl ?_
        refine v_get (pc := 36) g dX5_advance_36 fl_X5_176 rfl rfl ?_
        refine v_put (pc := 39) _ g dX5_advance_39 fp_X5_173 rfl (Nat.le_of_ble_eq_true rfl) rfl rfl rfl rfl ?_
        refine v_aload_n (pc := 42) 0 g dX5_advance_42 rfl rfl ?_
        refine v_aload_n (pc := 43) 0 g dX5_advance_43 rfl rfl ?_
        refine v_get (pc := 44) g dX5_advance_44 fl_X5_176 rfl rfl ?_
        refine v_cVd (pc := 47) g dX5_advance_47 lk_X5_179 (c_X5_byteAt r k hl (by omega)) (Nat.le_of_ble_eq_true rfl) rfl rfl rfl rfl (Nat.le_of_ble_eq_true rfl) ?_
        refine v_istore_n (pc := 50) 1 _ g dX5_advance_50 rfl (Nat.le_of_ble_eq_true rfl) hnL.symm rfl ?_
        refine v_aload_n (pc := 51) 0 g dX5_advance_51 rfl rfl ?_
        refine v_iload_n (pc := 52) 1 g dX5_advance_52 rfl rfl ?_
        refine v_if_ge (pc := 53) 60 g dX5_advance_53 rfl (fun c53 => ?_) (fun c53 => ?_)
        · exact absurd hT (by have h0 := i_le.mp c53; have z0 : (0 : Int32).toInt = 0 := rfl; unfold tkT tk0; rw [if_neg (by omega)]; (repeat' split) <;> decide)
        · refine v_iconst (pc := 56) (v := 0) g dX5_advance_56 (by decide) ?_
          refine v_goto (pc := 57) 83 g dX5_advance_57 rfl ?_
          refine v_put (pc := 83) _ g dX5_advance_83 fp_X5_188 rfl (Nat.le_of_ble_eq_true rfl) rfl rfl rfl rfl ?_
          refine v_aload_n (pc := 86) 0 g dX5_advance_86 rfl rfl ?_
          refine v_lconst (pc := 87) (v := 0) g dX5_advance_87 (by decide) ?_
          refine v_put (pc := 88) _ g dX5_advance_88 fp_X5_191 rfl (Nat.le_of_ble_eq_true rfl) rfl rfl rfl rfl ?_
          refine v_aload_n (pc := 91) 0 g dX5_advance_91 rfl rfl ?_
          refine v_aload_n (pc := 92) 0 g dX5_advance_92 rfl rfl ?_
          refine v_get (pc := 93) g dX5_advance_93 fl_X5_188 rfl rfl ?_
          refine v_iconst (pc := 96) (v := 2) g dX5_advance_96 (by decide) ?_
          refine v_icmp_ne (pc := 97) 104 g dX5_advance_97 rfl (fun c97 => ?_) (fun c97 => ?_)
          · refine v_iload_n (pc := 104) 1 g dX5_advance_104 rfl rfl ?_
            refine v_put (pc := 105) _ g dX5_advance_105 fp_X5_195 rfl (Nat.le_of_ble_eq_true rfl) rfl rfl rfl rfl ?_
            refine v_aload_n (pc := 108) 0 g dX5_advance_108 rfl rfl ?_
            refine v_get (pc := 109) g dX5_advance_109 fl_X5_188 rfl rfl ?_
            refine v_iconst (pc := 112) (v := 3) g dX5_advance_112 (by decide) ?_
            refine v_icmp_ne (pc := 113) 126 g dX5_advance_113 rfl (fun c113 => ?_) (fun c113 => ?_)
            · refine v_aload_n (pc := 126) 0 g dX5_advance_126 rfl rfl ?_
              refine v_get (pc := 127) g dX5_advance_127 fl_X5_188 rfl rfl ?_
              refine v_iconst (pc := 130) (v := 1) g dX5_advance_130 (by decide) ?_
              refine v_icmp_ne (pc := 131) 207 g dX5_advance_131 rfl (fun c131 => ?_) (fun c131 => ?_)
              · refine v_aload_n (pc := 207) 0 g dX5_advance_207 rfl rfl ?_
                refine v_get (pc := 208) g dX5_advance_208 fl_X5_188 rfl rfl ?_
                refine v_iconst (pc := 211) (v := 2) g dX5_advance_211 (by decide) ?_
                refine v_icmp_ne (pc := 212) 281 g dX5_advance_212 rfl (fun c212 => ?_) (fun c212 => ?_)
                · exact v_vret (pc := 281) g hret dX5_advance_281 (⟨rfl, by unfold soT woT vaT; rw [en_0 hT, hT]; rfl⟩)
                · exact absurd c212 (by decide)
              · exact absurd c131 (by decide)
            · exact absurd c113 (by decide)
          · exact absurd c97 (by decide)
      · have ek : k < tm := by rcases Nat.lt_or_ge k tm with z | z; exact z; exact absurd c18 (by rw [byt_ge z]; decide)
        have eq : bgT ta tm k = bgT ta tm (k + 1) := sc_t ek (decide_eq_true c18)
        refine v_aload_n (pc := 21) 0 g dX5_advance_21 rfl rfl ?_
        refine v_dup (pc := 22) g dX5_advance_22 rfl ?_
        refine v_get (pc := 23) g dX5_advance_23 fl_X5_176 rfl rfl ?_
        refine v_iconst (pc := 26) (v := 1) g dX5_advance_26 (by decide) ?_
        refine v_iadd (pc := 27) g dX5_advance_27 ?_
        rw [nI_1]
        refine v_put (pc := 28) _ g dX5_advance_28 fp_X5_176 rfl (Nat.le_of_ble_eq_true rfl) rfl rfl rfl rfl ?_
        refine v_goto (pc := 31) 8 g dX5_advance_31 rfl ?_
        exact ih (k + 1) (by omega) (by rw [hq, eq]) (by omega)
  exact L8 (tm - p + 1) p hp rfl (by omega)
set_option maxRecDepth 20000 in
set_option maxHeartbeats 2000000 in
theorem c_X5_adv3 (r : Nat → Int32) {fo : Nat → Int32} {of : Int32} {tr : Nat → Int32} {b1 : Nat → Int32} {ta : Nat → Int32} {tm : Nat} {so : Int32} {be : Int32} {wo : Int64} {va : Int32} {gd : Int32} {bi : Nat → Int32} {si : Nat → Int32} {sh : Nat → Int64} {le : Nat → Int64} {im : Nat → Int32} {bf : Nat → Int32} {kp : Int32} (p b : Nat) (hl : tm ≤ 120) (hp : p ≤ tm) (hb : bgT ta tm p = b) (hT : 3 ≤ tkT ta tm b) : RunD 2 yX5_advance cX5_advance 2 none [.ref 0] (mW r fo of tr b1 ta tm so be (nI p) wo va gd bi si sh le im bf kp) (none) (mW r fo of tr b1 ta tm (nI (soT ta tm b)) (nI b) (nI (enT ta tm b)) (woT ta tm b) (vaT ta tm b) gd bi si sh le im bf kp) := by
  refine Runs.of (by decide) (Nat.le_of_ble_eq_true rfl) rfl ?_
  intro X g hret hnL
  refine v_aload_n (pc := 0) 0 g dX5_advance_0 rfl rfl ?_
  refine v_aload_n (pc := 1) 0 g dX5_advance_1 rfl rfl ?_
  refine v_get (pc := 2) g dX5_advance_2 fl_X5_173 rfl rfl ?_
  refine v_put (pc := 5) _ g dX5_advance_5 fp_X5_176 rfl (Nat.le_of_ble_eq_true rfl) rfl rfl rfl rfl ?_
  have L8 : ∀ (fu : Nat) (k : Nat), k ≤ tm → bgT ta tm p = bgT ta tm k → tm - k < fu → V X 8 [some (.ref 0), none] [] (mW r fo of tr b1 ta tm so (nI k) (nI p) wo va gd bi si sh le im bf kp) := by
    intro fu
    induction fu with
    | zero => intro k hk hq hm; exact absurd hm (Nat.not_lt_zero _)
    | succ fu ih =>
      intro k hk hq hm
      refine v_aload_n (pc := 8) 0 g dX5_advance_8 rfl rfl ?_
      refine v_aload_n (pc := 9) 0 g dX5_advance_9 rfl rfl ?_
      refine v_get (pc := 10) g dX5_advance_10 fl_X5_176 rfl rfl ?_
      refine v_cVd (pc := 13) g dX5_advance_13 lk_X5_179 (c_X5_byteAt r k hl (by omega)) (Nat.le_of_ble_eq_true rfl) rfl rfl rfl rfl (Nat.le_of_ble_eq_true rfl) ?_
      refine v_bipush (pc := 16) (v := 32) g dX5_advance_16 (by decide) ?_
      refine v_icmp_ne (pc := 18) 34 g dX5_advance_18 rfl (fun c18 => ?_) (fun c18 => ?_)
      · have eb : k = b := by rw [← hb, hq]; unfold bgT; rw [sc_f (decide_eq_false c18)]
        subst eb
        refine v_aload_n (pc := 34) 0 g dX5_advance_34 rfl rfl ?_
        refine v_aload_n (pc := 35) 0 g dX5_advance_35 rfl rfl ?_
        refine v_get (pc := 36) g dX5_advance_36 fl_X5_176 rfl rfl ?_
        refine v_put (pc := 39) _ g dX5_advance_39 fp_X5_173 rfl (Nat.le_of_ble_eq_true rfl) rfl rfl rfl rfl ?_
        refine v_aload_n (pc := 42) 0 g dX5_advance_42 rfl rfl ?_
        refine v_aload_n (pc := 43) 0 g dX5_advance_43 rfl rfl ?_
        refine v_get (pc := 44) g dX5_advance_44 fl_X5_176 rfl rfl ?_
        refine v_cVd (pc := 47) g dX5_advance_47 lk_X5_179 (c_X5_byteAt r k hl (by omega)) (Nat.le_of_ble_eq_true rfl) rfl rfl rfl rfl (Nat.le_of_ble_eq_true rfl) ?_
        refine v_istore_n (pc := 50) 1 _ g dX5_advance_50 rfl (Nat.le_of_ble_eq_true rfl) hnL.symm rfl ?_
        refine v_aload_n (pc := 51) 0 g dX5_advance_51 rfl rfl ?_
        refine v_iload_n (pc := 52) 1 g dX5_advance_52 rfl rfl ?_
        refine v_if_ge (pc := 53) 60 g dX5_advance_53 rfl (fun c53 => ?_) (fun c53 => ?_)
        · refine v_iload_n (pc := 60) 1 g dX5_advance_60 rfl rfl ?_
          refine v_cSd (pc := 61) g dX5_advance_61 lk_X5_182 ((c_X5_isLetter _).any rfl rfl _) (Nat.le_of_ble_eq_true rfl) rfl rfl (Nat.le_of_ble_eq_true rfl) ?_
          refine v_ifb_eq (pc := 64) 71 g dX5_advance_64 rfl (fun c64 => ?_) (fun c64 => ?_)
          · refine v_iload_n (pc := 71) 1 g dX5_advance_71 rfl rfl ?_
            refine v_cSd (pc := 72) g dX5_advance_72 lk_X5_185 ((c_X5_isDigit _).any rfl rfl _) (Nat.le_of_ble_eq_true rfl) rfl rfl (Nat.le_of_ble_eq_true rfl) ?_
            refine v_ifb_eq (pc := 75) 82 g dX5_advance_75 rfl (fun c75 => ?_) (fun c75 => ?_)
            · refine v_iconst (pc := 82) (v := 3) g dX5_advance_82 (by decide) ?_
              refine v_put (pc := 83) _ g dX5_advance_83 fp_X5_188 rfl (Nat.le_of_ble_eq_true rfl) rfl rfl rfl rfl ?_
              refine v_aload_n (pc := 86) 0 g dX5_advance_86 rfl rfl ?_
              refine v_lconst (pc := 87) (v := 0) g dX5_advance_87 (by decide) ?_
              refine v_put (pc := 88) _ g dX5_advance_88 fp_X5_191 rfl (Nat.le_of_ble_eq_true rfl) rfl rfl rfl rfl ?_
              refine v_aload_n (pc := 91) 0 g dX5_advance_91 rfl rfl ?_
              refine v_aload_n (pc := 92) 0 g dX5_advance_92 rfl rfl ?_
              refine v_get (pc := 93) g dX5_advance_93 fl_X5_188 rfl rfl ?_
              refine v_iconst (pc := 96) (v := 2) g dX5_advance_96 (by decide) ?_
              refine v_icmp_ne (pc := 97) 104 g dX5_advance_97 rfl (fun c97 => ?_) (fun c97 => ?_)
              · refine v_iload_n (pc := 104) 1 g dX5_advance_104 rfl rfl ?_
                refine v_put (pc := 105) _ g dX5_advance_105 fp_X5_195 rfl (Nat.le_of_ble_eq_true rfl) rfl rfl rfl rfl ?_
                refine v_aload_n (pc := 108) 0 g dX5_advance_108 rfl rfl ?_
                refine v_get (pc := 109) g dX5_advance_109 fl_X5_188 rfl rfl ?_
                refine v_iconst (pc := 112) (v := 3) g dX5_advance_112 (by decide) ?_
                refine v_icmp_ne (pc := 113) 126 g dX5_advance_113 rfl (fun c113 => ?_) (fun c113 => ?_)
                · exact absurd rfl c113
                · refine v_aload_n (pc := 116) 0 g dX5_advance_116 rfl rfl ?_
                  refine v_dup (pc := 117) g dX5_advance_117 rfl ?_
                  refine v_get (pc := 118) g dX5_advance_118 fl_X5_173 rfl rfl ?_
                  refine v_iconst (pc := 121) (v := 1) g dX5_advance_121 (by decide) ?_
                  refine v_iadd (pc := 122) g dX5_advance_122 ?_
                  rw [nI_1]
                  refine v_put (pc := 123) _ g dX5_advance_123 fp_X5_173 rfl (Nat.le_of_ble_eq_true rfl) rfl rfl rfl rfl ?_
                  refine v_aload_n (pc := 126) 0 g dX5_advance_126 rfl rfl ?_
                  refine v_get (pc := 127) g dX5_advance_127 fl_X5_188 rfl rfl ?_
                  refine v_iconst (pc := 130) (v := 1) g dX5_advance_130 (by decide) ?_
                  refine v_icmp_ne (pc := 131) 207 g dX5_advance_131 rfl (fun c131 => ?_) (fun c131 => ?_)
                  · refine v_aload_n (pc := 207) 0 g dX5_advance_207 rfl rfl ?_
                    refine v_get (pc := 208) g dX5_advance_208 fl_X5_188 rfl rfl ?_
                    refine v_iconst (pc := 211) (v := 2) g dX5_advance_211 (by decide) ?_
                    refine v_icmp_ne (pc := 212) 281 g dX5_advance_212 rfl (fun c212 => ?_) (fun c212 => ?_)
                    · exact v_vret (pc := 281) g hret dX5_advance_281 (⟨rfl, by have h5 := tk_lt ta tm k; have e3 : soT ta tm k = 3 := (by unfold soT; split <;> omega); unfold woT vaT; rw [en_3 hT, e3, if_neg (by omega), if_neg (by omega)]; rfl⟩)
                    · exact absurd c212 (by decide)
                  · exact absurd c131 (by decide)
              · exact absurd c97 (by decide)
            · exact absurd (tk_2 (tb := ta) (tl := tm) (b := k) |>.mpr (decide_eq_true c75)) (by omega)
          · exact absurd (tk_1 (tb := ta) (tl := tm) (b := k) |>.mpr (decide_eq_true c64)) (by omega)
        · exact absurd (tk0_0 (v := byt ta tm k) (by have := i_lt.mp (Int32.not_le.mp c53); have z0 : (0 : Int32).toInt = 0 := rfl; omega)) (by show ¬ tkT ta tm k = 0; omega)
      · have ek : k < tm := by rcases Nat.lt_or_ge k tm with z | z; exact z; exact absurd c18 (by rw [byt_ge z]; decide)
        have eq : bgT ta tm k = bgT ta tm (k + 1) := sc_t ek (decide_eq_true c18)
        refine v_aload_n (pc := 21) 0 g dX5_advance_21 rfl rfl ?_
        refine v_dup (pc := 22) g dX5_advance_22 rfl ?_
        refine v_get (pc := 23) g dX5_advance_23 fl_X5_176 rfl rfl ?_
        refine v_iconst (pc := 26) (v := 1) g dX5_advance_26 (by decide) ?_
        refine v_iadd (pc := 27) g dX5_advance_27 ?_
        rw [nI_1]
        refine v_put (pc := 28) _ g dX5_advance_28 fp_X5_176 rfl (Nat.le_of_ble_eq_true rfl) rfl rfl rfl rfl ?_
        refine v_goto (pc := 31) 8 g dX5_advance_31 rfl ?_
        exact ih (k + 1) (by omega) (by rw [hq, eq]) (by omega)
  exact L8 (tm - p + 1) p hp rfl (by omega)
set_option maxRecDepth 20000 in
set_option maxHeartbeats 2000000 in
theorem c_X5_adv1 (r : Nat → Int32) {fo : Nat → Int32} {of : Int32} {tr : Nat → Int32} {b1 : Nat → Int32} {ta : Nat → Int32} {tm : Nat} {so : Int32} {be : Int32} {wo : Int64} {va : Int32} {gd : Int32} {bi : Nat → Int32} {si : Nat → Int32} {sh : Nat → Int64} {le : Nat → Int64} {im : Nat → Int32} {bf : Nat → Int32} {kp : Int32} (p b : Nat) (hl : tm ≤ 120) (hp : p ≤ tm) (hb : bgT ta tm p = b) (hT : tkT ta tm b = 1) : RunD 2 yX5_advance cX5_advance 2 none [.ref 0] (mW r fo of tr b1 ta tm so be (nI p) wo va gd bi si sh le im bf kp) (none) (mW r fo of tr b1 ta tm (nI (soT ta tm b)) (nI b) (nI (enT ta tm b)) (woT ta tm b) (vaT ta tm b) gd bi si sh le im bf kp) := by
  refine Runs.of (by decide) (Nat.le_of_ble_eq_true rfl) rfl ?_
  intro X g hret hnL
  refine v_aload_n (pc := 0) 0 g dX5_advance_0 rfl rfl ?_
  refine v_aload_n (pc := 1) 0 g dX5_advance_1 rfl rfl ?_
  refine v_get (pc := 2) g dX5_advance_2 fl_X5_173 rfl rfl ?_
  refine v_put (pc := 5) _ g dX5_advance_5 fp_X5_176 rfl (Nat.le_of_ble_eq_true rfl) rfl rfl rfl rfl ?_
  have L8 : ∀ (fu : Nat) (k : Nat), k ≤ tm → bgT ta tm p = bgT ta tm k → tm - k < fu → V X 8 [some (.ref 0), none] [] (mW r fo of tr b1 ta tm so (nI k) (nI p) wo va gd bi si sh le im bf kp) := by
    intro fu
    induction fu with
    | zero => intro k hk hq hm; exact absurd hm (Nat.not_lt_zero _)
    | succ fu ih =>
      intro k hk hq hm
      refine v_aload_n (pc := 8) 0 g dX5_advance_8 rfl rfl ?_
      refine v_aload_n (pc := 9) 0 g dX5_advance_9 rfl rfl ?_
      refine v_get (pc := 10) g dX5_advance_10 fl_X5_176 rfl rfl ?_
      refine v_cVd (pc := 13) g dX5_advance_13 lk_X5_179 (c_X5_byteAt r k hl (by omega)) (Nat.le_of_ble_eq_true rfl) rfl rfl rfl rfl (Nat.le_of_ble_eq_true rfl) ?_
      refine v_bipush (pc := 16) (v := 32) g dX5_advance_16 (by decide) ?_
      refine v_icmp_ne (pc := 18) 34 g dX5_advance_18 rfl (fun c18 => ?_) (fun c18 => ?_)
      · have eb : k = b := by rw [← hb, hq]; unfold bgT; rw [sc_f (decide_eq_false c18)]
        subst eb
        refine v_aload_n (pc := 34) 0 g dX5_advance_34 rfl rfl ?_
        refine v_aload_n (pc := 35) 0 g dX5_advance_35 rfl rfl ?_
        refine v_get (pc := 36) g dX5_advance_36 fl_X5_176 rfl rfl ?_
        refine v_put (pc := 39) _ g dX5_advance_39 fp_X5_173 rfl (Nat.le_of_ble_eq_true rfl) rfl rfl rfl rfl ?_
        refine v_aload_n (pc := 42) 0 g dX5_advance_42 rfl rfl ?_
        refine v_aload_n (pc := 43) 0 g dX5_advance_43 rfl rfl ?_
        refine v_get (pc := 44) g dX5_advance_44 fl_X5_176 rfl rfl ?_
        refine v_cVd (pc := 47) g dX5_advance_47 lk_X5_179 (c_X5_byteAt r k hl (by omega)) (Nat.le_of_ble_eq_true rfl) rfl rfl rfl rfl (Nat.le_of_ble_eq_true rfl) ?_
        refine v_istore_n (pc := 50) 1 _ g dX5_advance_50 rfl (Nat.le_of_ble_eq_true rfl) hnL.symm rfl ?_
        refine v_aload_n (pc := 51) 0 g dX5_advance_51 rfl rfl ?_
        refine v_iload_n (pc := 52) 1 g dX5_advance_52 rfl rfl ?_
        refine v_if_ge (pc := 53) 60 g dX5_advance_53 rfl (fun c53 => ?_) (fun c53 => ?_)
        · refine v_iload_n (pc := 60) 1 g dX5_advance_60 rfl rfl ?_
          refine v_cSd (pc := 61) g dX5_advance_61 lk_X5_182 ((c_X5_isLetter _).any rfl rfl _) (Nat.le_of_ble_eq_true rfl) rfl rfl (Nat.le_of_ble_eq_true rfl) ?_
          refine v_ifb_eq (pc := 64) 71 g dX5_advance_64 rfl (fun c64 => ?_) (fun c64 => ?_)
          · exact absurd (of_decide_eq_true (tk_1.mp hT)) c64
          · refine v_iconst (pc := 67) (v := 1) g dX5_advance_67 (by decide) ?_
            refine v_goto (pc := 68) 83 g dX5_advance_68 rfl ?_
            refine v_put (pc := 83) _ g dX5_advance_83 fp_X5_188 rfl (Nat.le_of_ble_eq_true rfl) rfl rfl rfl rfl ?_
            refine v_aload_n (pc := 86) 0 g dX5_advance_86 rfl rfl ?_
            refine v_lconst (pc := 87) (v := 0) g dX5_advance_87 (by decide) ?_
            refine v_put (pc := 88) _ g dX5_advance_88 fp_X5_191 rfl (Nat.le_of_ble_eq_true rfl) rfl rfl rfl rfl ?_
            refine v_aload_n (pc := 91) 0 g dX5_advance_91 rfl rfl ?_
            refine v_aload_n (pc := 92) 0 g dX5_advance_92 rfl rfl ?_
            refine v_get (pc := 93) g dX5_advance_93 fl_X5_188 rfl rfl ?_
            refine v_iconst (pc := 96) (v := 2) g dX5_advance_96 (by decide) ?_
            refine v_icmp_ne (pc := 97) 104 g dX5_advance_97 rfl (fun c97 => ?_) (fun c97 => ?_)
            · refine v_iload_n (pc := 104) 1 g dX5_advance_104 rfl rfl ?_
              refine v_put (pc := 105) _ g dX5_advance_105 fp_X5_195 rfl (Nat.le_of_ble_eq_true rfl) rfl rfl rfl rfl ?_
              refine v_aload_n (pc := 108) 0 g dX5_advance_108 rfl rfl ?_
              refine v_get (pc := 109) g dX5_advance_109 fl_X5_188 rfl rfl ?_
              refine v_iconst (pc := 112) (v := 3) g dX5_advance_112 (by decide) ?_
              refine v_icmp_ne (pc := 113) 126 g dX5_advance_113 rfl (fun c113 => ?_) (fun c113 => ?_)
              · have L126 : ∀ (fu : Nat) (j : Nat), k ≤ j → j ≤ tm → sc (qL ta tm) tm k = sc (qL ta tm) tm j → tm - j < fu → V X 126 [some (.ref 0), some (.int (byt ta tm k))] [] (mW r fo of tr b1 ta tm 1 (nI k) (nI j) (hsN (byt ta tm) k (j - k)) (byt ta tm k) gd bi si sh le im bf kp) := by
                  intro fu
                  induction fu with
                  | zero => intro j hkj hj hq2 hm; exact absurd hm (Nat.not_lt_zero _)
                  | succ fu ih2 =>
                    intro j hkj hj hq2 hm
                    refine v_aload_n (pc := 126) 0 g dX5_advance_126 rfl rfl ?_
                    refine v_get (pc := 127) g dX5_advance_127 fl_X5_188 rfl rfl ?_
                    refine v_iconst (pc := 130) (v := 1) g dX5_advance_130 (by decide) ?_
                    refine v_icmp_ne (pc := 131) 207 g dX5_advance_131 rfl (fun c131 => ?_) (fun c131 => ?_)
                    · exact absurd rfl c131
                    · refine v_aload_n (pc := 134) 0 g dX5_advance_134 rfl rfl ?_
                      refine v_aload_n (pc := 135) 0 g dX5_advance_135 rfl rfl ?_
                      refine v_get (pc := 136) g dX5_advance_136 fl_X5_173 rfl rfl ?_
                      refine v_cVd (pc := 139) g dX5_advance_139 lk_X5_179 (c_X5_byteAt r j hl (by omega)) (Nat.le_of_ble_eq_true rfl) rfl rfl rfl rfl (Nat.le_of_ble_eq_true rfl) ?_
                      refine v_cSd (pc := 142) g dX5_advance_142 lk_X5_182 ((c_X5_isLetter _).any rfl rfl _) (Nat.le_of_ble_eq_true rfl) rfl rfl (Nat.le_of_ble_eq_true rfl) ?_
                      refine v_ifb_eq (pc := 145) 207 g dX5_advance_145 rfl (fun c145 => ?_) (fun c145 => ?_)
                      · have ej : sc (qL ta tm) tm k = j := by rw [hq2, sc_f (decide_eq_false c145)]
                        refine v_aload_n (pc := 207) 0 g dX5_advance_207 rfl rfl ?_
                        refine v_get (pc := 208) g dX5_advance_208 fl_X5_188 rfl rfl ?_
                        refine v_iconst (pc := 211) (v := 2) g dX5_advance_211 (by decide) ?_
                        refine v_icmp_ne (pc := 212) 281 g dX5_advance_212 rfl (fun c212 => ?_) (fun c212 => ?_)
                        · exact v_vret (pc := 281) g hret dX5_advance_281 (⟨rfl, by have e1 : soT ta tm k = 1 := (by unfold soT; rw [hT]; rfl); unfold woT vaT; rw [en_1 hT, e1, if_pos hT, if_neg (by omega), ej]; rfl⟩)
                        · exact absurd c212 (by decide)
                      · have el : j < tm := by rcases Nat.lt_or_ge j tm with z | z; exact z; exact absurd c145 (by rw [byt_ge z]; decide)
                        have ej : sc (qL ta tm) tm k = sc (qL ta tm) tm (j + 1) := by rw [hq2]; exact sc_t el (decide_eq_true c145)
                        refine v_aload_n (pc := 148) 0 g dX5_advance_148 rfl rfl ?_
                        refine v_aload_n (pc := 149) 0 g dX5_advance_149 rfl rfl ?_
                        refine v_get (pc := 150) g dX5_advance_150 fl_X5_173 rfl rfl ?_
                        refine v_aload_n (pc := 153) 0 g dX5_advance_153 rfl rfl ?_
                        refine v_get (pc := 154) g dX5_advance_154 fl_X5_176 rfl rfl ?_
                        refine v_isub (pc := 157) g dX5_advance_157 ?_
                        rw [pk_sub hkj]
                        refine v_bipush (pc := 158) (v := 12) g dX5_advance_158 (by decide) ?_
                        refine v_icmp_ge (pc := 160) 188 g dX5_advance_160 rfl (fun c160 => ?_) (fun c160 => ?_)
                        · have e160 : ¬ j - k < 12 := Nat.not_lt.mpr ((nI_leI (a := 12) (by omega) (by omega)).mp c160)
                          refine v_ldc2 (pc := 188) g dX5_advance_188 co_X5_202 ?_
                          refine v_stE [.long (hsN (byt ta tm) k (j - k + 1)), .ref 0] (by rw [hsN]; first | (rw [if_pos e160, show k + (j - k) = j by omega]; done) | (rw [if_neg e160]; done)) ?_
                          refine v_put (pc := 191) _ g dX5_advance_191 fp_X5_191 rfl (Nat.le_of_ble_eq_true rfl) rfl rfl rfl rfl ?_
                          refine v_aload_n (pc := 194) 0 g dX5_advance_194 rfl rfl ?_
                          refine v_dup (pc := 195) g dX5_advance_195 rfl ?_
                          refine v_get (pc := 196) g dX5_advance_196 fl_X5_173 rfl rfl ?_
                          refine v_iconst (pc := 199) (v := 1) g dX5_advance_199 (by decide) ?_
                          refine v_iadd (pc := 200) g dX5_advance_200 ?_
                          rw [nI_1]
                          refine v_put (pc := 201) _ g dX5_advance_201 fp_X5_173 rfl (Nat.le_of_ble_eq_true rfl) rfl rfl rfl rfl ?_
                          refine v_goto (pc := 204) 126 g dX5_advance_204 rfl ?_
                          refine v_w (mW r fo of tr b1 ta tm 1 (nI k) (nI (j + 1)) (hsN (byt ta tm) k (j + 1 - k)) (byt ta tm k) gd bi si sh le im bf kp) (by rw [show j + 1 - k = j - k + 1 by omega]; rfl) ?_
                          exact ih2 (j + 1) (by omega) (by omega) ej (by omega)
                        · have e160 : j - k < 12 := Nat.not_le.mp (fun z => c160 ((nI_leI (a := 12) (by omega) (by omega)).mpr z))
                          refine v_ldc2 (pc := 163) g dX5_advance_163 co_X5_198 ?_
                          refine v_aload_n (pc := 166) 0 g dX5_advance_166 rfl rfl ?_
                          refine v_get (pc := 167) g dX5_advance_167 fl_X5_191 rfl rfl ?_
                          refine v_lmul (pc := 170) g dX5_advance_170 ?_
                          refine v_aload_n (pc := 171) 0 g dX5_advance_171 rfl rfl ?_
                          refine v_aload_n (pc := 172) 0 g dX5_advance_172 rfl rfl ?_
                          refine v_get (pc := 173) g dX5_advance_173 fl_X5_173 rfl rfl ?_
                          refine v_cVd (pc := 176) g dX5_advance_176 lk_X5_179 (c_X5_byteAt r j hl (by omega)) (Nat.le_of_ble_eq_true rfl) rfl rfl rfl rfl (Nat.le_of_ble_eq_true rfl) ?_
                          refine v_i2l (pc := 179) g dX5_advance_179 ?_
                          refine v_ladd (pc := 180) g dX5_advance_180 ?_
                          refine v_ldc2 (pc := 181) g dX5_advance_181 co_X5_200 ?_
                          refine v_lsub (pc := 184) g dX5_advance_184 ?_
                          refine v_goto (pc := 185) 191 g dX5_advance_185 rfl ?_
                          refine v_stE [.long (hsN (byt ta tm) k (j - k + 1)), .ref 0] (by rw [hsN]; first | (rw [if_pos e160, show k + (j - k) = j by omega]; done) | (rw [if_neg e160]; done)) ?_
                          refine v_put (pc := 191) _ g dX5_advance_191 fp_X5_191 rfl (Nat.le_of_ble_eq_true rfl) rfl rfl rfl rfl ?_
                          refine v_aload_n (pc := 194) 0 g dX5_advance_194 rfl rfl ?_
                          refine v_dup (pc := 195) g dX5_advance_195 rfl ?_
                          refine v_get (pc := 196) g dX5_advance_196 fl_X5_173 rfl rfl ?_
                          refine v_iconst (pc := 199) (v := 1) g dX5_advance_199 (by decide) ?_
                          refine v_iadd (pc := 200) g dX5_advance_200 ?_
                          rw [nI_1]
                          refine v_put (pc := 201) _ g dX5_advance_201 fp_X5_173 rfl (Nat.le_of_ble_eq_true rfl) rfl rfl rfl rfl ?_
                          refine v_goto (pc := 204) 126 g dX5_advance_204 rfl ?_
                          refine v_w (mW r fo of tr b1 ta tm 1 (nI k) (nI (j + 1)) (hsN (byt ta tm) k (j + 1 - k)) (byt ta tm k) gd bi si sh le im bf kp) (by rw [show j + 1 - k = j - k + 1 by omega]; rfl) ?_
                          exact ih2 (j + 1) (by omega) (by omega) ej (by omega)
                refine v_w (mW r fo of tr b1 ta tm 1 (nI k) (nI k) (hsN (byt ta tm) k (k - k)) (byt ta tm k) gd bi si sh le im bf kp) (by rw [Nat.sub_self]; rfl) ?_
                exact L126 (tm - k + 1) k (Nat.le_refl _) hk rfl (by omega)
              · exact absurd c113 (by decide)
            · exact absurd c97 (by decide)
        · exact absurd (tk0_0 (v := byt ta tm k) (by have := i_lt.mp (Int32.not_le.mp c53); have z0 : (0 : Int32).toInt = 0 := rfl; omega)) (by show ¬ tkT ta tm k = 0; omega)
      · have ek : k < tm := by rcases Nat.lt_or_ge k tm with z | z; exact z; exact absurd c18 (by rw [byt_ge z]; decide)
        have eq : bgT ta tm k = bgT ta tm (k + 1) := sc_t ek (decide_eq_true c18)
        refine v_aload_n (pc := 21) 0 g dX5_advance_21 rfl rfl ?_
        refine v_dup (pc := 22) g dX5_advance_22 rfl ?_
        refine v_get (pc := 23) g dX5_advance_23 fl_X5_176 rfl rfl ?_
        refine v_iconst (pc := 26) (v := 1) g dX5_advance_26 (by decide) ?_
        refine v_iadd (pc := 27) g dX5_advance_27 ?_
        rw [nI_1]
        refine v_put (pc := 28) _ g dX5_advance_28 fp_X5_176 rfl (Nat.le_of_ble_eq_true rfl) rfl rfl rfl rfl ?_
        refine v_goto (pc := 31) 8 g dX5_advance_31 rfl ?_
        exact ih (k + 1) (by omega) (by rw [hq, eq]) (by omega)
  exact L8 (tm - p + 1) p hp rfl (by omega)
set_option maxRecDepth 20000 in
set_option maxHeartbeats 2000000 in
theorem c_X5_adv2 (r : Nat → Int32) {fo : Nat → Int32} {of : Int32} {tr : Nat → Int32} {b1 : Nat → Int32} {ta : Nat → Int32} {tm : Nat} {so : Int32} {be : Int32} {wo : Int64} {va : Int32} {gd : Int32} {bi : Nat → Int32} {si : Nat → Int32} {sh : Nat → Int64} {le : Nat → Int64} {im : Nat → Int32} {bf : Nat → Int32} {kp : Int32} (p b : Nat) (hl : tm ≤ 120) (hp : p ≤ tm) (hb : bgT ta tm p = b) (hT : tkT ta tm b = 2) : RunD 2 yX5_advance cX5_advance 2 none [.ref 0] (mW r fo of tr b1 ta tm so be (nI p) wo va gd bi si sh le im bf kp) (none) (mW r fo of tr b1 ta tm (nI (soT ta tm b)) (nI b) (nI (enT ta tm b)) (woT ta tm b) (vaT ta tm b) gd bi si sh le im bf kp) := by
  refine Runs.of (by decide) (Nat.le_of_ble_eq_true rfl) rfl ?_
  intro X g hret hnL
  refine v_aload_n (pc := 0) 0 g dX5_advance_0 rfl rfl ?_
  refine v_aload_n (pc := 1) 0 g dX5_advance_1 rfl rfl ?_
  refine v_get (pc := 2) g dX5_advance_2 fl_X5_173 rfl rfl ?_
  refine v_put (pc := 5) _ g dX5_advance_5 fp_X5_176 rfl (Nat.le_of_ble_eq_true rfl) rfl rfl rfl rfl ?_
  have L8 : ∀ (fu : Nat) (k : Nat), k ≤ tm → bgT ta tm p = bgT ta tm k → tm - k < fu → V X 8 [some (.ref 0), none] [] (mW r fo of tr b1 ta tm so (nI k) (nI p) wo va gd bi si sh le im bf kp) := by
    intro fu
    induction fu with
    | zero => intro k hk hq hm; exact absurd hm (Nat.not_lt_zero _)
    | succ fu ih =>
      intro k hk hq hm
      refine v_aload_n (pc := 8) 0 g dX5_advance_8 rfl rfl ?_
      refine v_aload_n (pc := 9) 0 g dX5_advance_9 rfl rfl ?_
      refine v_get (pc := 10) g dX5_advance_10 fl_X5_176 rfl rfl ?_
      refine v_cVd (pc := 13) g dX5_advance_13 lk_X5_179 (c_X5_byteAt r k hl (by omega)) (Nat.le_of_ble_eq_true rfl) rfl rfl rfl rfl (Nat.le_of_ble_eq_true rfl) ?_
      refine v_bipush (pc := 16) (v := 32) g dX5_advance_16 (by decide) ?_
      refine v_icmp_ne (pc := 18) 34 g dX5_advance_18 rfl (fun c18 => ?_) (fun c18 => ?_)
      · have eb : k = b := by rw [← hb, hq]; unfold bgT; rw [sc_f (decide_eq_false c18)]
        subst eb
        refine v_aload_n (pc := 34) 0 g dX5_advance_34 rfl rfl ?_
        refine v_aload_n (pc := 35) 0 g dX5_advance_35 rfl rfl ?_
        refine v_get (pc := 36) g dX5_advance_36 fl_X5_176 rfl rfl ?_
        refine v_put (pc := 39) _ g dX5_advance_39 fp_X5_173 rfl (Nat.le_of_ble_eq_true rfl) rfl rfl rfl rfl ?_
        refine v_aload_n (pc := 42) 0 g dX5_advance_42 rfl rfl ?_
        refine v_aload_n (pc := 43) 0 g dX5_advance_43 rfl rfl ?_
        refine v_get (pc := 44) g dX5_advance_44 fl_X5_176 rfl rfl ?_
        refine v_cVd (pc := 47) g dX5_advance_47 lk_X5_179 (c_X5_byteAt r k hl (by omega)) (Nat.le_of_ble_eq_true rfl) rfl rfl rfl rfl (Nat.le_of_ble_eq_true rfl) ?_
        refine v_istore_n (pc := 50) 1 _ g dX5_advance_50 rfl (Nat.le_of_ble_eq_true rfl) hnL.symm rfl ?_
        refine v_aload_n (pc := 51) 0 g dX5_advance_51 rfl rfl ?_
        refine v_iload_n (pc := 52) 1 g dX5_advance_52 rfl rfl ?_
        refine v_if_ge (pc := 53) 60 g dX5_advance_53 rfl (fun c53 => ?_) (fun c53 => ?_)
        · refine v_iload_n (pc := 60) 1 g dX5_advance_60 rfl rfl ?_
          refine v_cSd (pc := 61) g dX5_advance_61 lk_X5_182 ((c_X5_isLetter _).any rfl rfl _) (Nat.le_of_ble_eq_true rfl) rfl rfl (Nat.le_of_ble_eq_true rfl) ?_
          refine v_ifb_eq (pc := 64) 71 g dX5_advance_64 rfl (fun c64 => ?_) (fun c64 => ?_)
          · refine v_iload_n (pc := 71) 1 g dX5_advance_71 rfl rfl ?_
            refine v_cSd (pc := 72) g dX5_advance_72 lk_X5_185 ((c_X5_isDigit _).any rfl rfl _) (Nat.le_of_ble_eq_true rfl) rfl rfl (Nat.le_of_ble_eq_true rfl) ?_
            refine v_ifb_eq (pc := 75) 82 g dX5_advance_75 rfl (fun c75 => ?_) (fun c75 => ?_)
            · exact absurd (of_decide_eq_true (tk_2.mp hT)) c75
            · refine v_iconst (pc := 78) (v := 2) g dX5_advance_78 (by decide) ?_
              refine v_goto (pc := 79) 83 g dX5_advance_79 rfl ?_
              refine v_put (pc := 83) _ g dX5_advance_83 fp_X5_188 rfl (Nat.le_of_ble_eq_true rfl) rfl rfl rfl rfl ?_
              refine v_aload_n (pc := 86) 0 g dX5_advance_86 rfl rfl ?_
              refine v_lconst (pc := 87) (v := 0) g dX5_advance_87 (by decide) ?_
              refine v_put (pc := 88) _ g dX5_advance_88 fp_X5_191 rfl (Nat.le_of_ble_eq_true rfl) rfl rfl rfl rfl ?_
              refine v_aload_n (pc := 91) 0 g dX5_advance_91 rfl rfl ?_
              refine v_aload_n (pc := 92) 0 g dX5_advance_92 rfl rfl ?_
              refine v_get (pc := 93) g dX5_advance_93 fl_X5_188 rfl rfl ?_
              refine v_iconst (pc := 96) (v := 2) g dX5_advance_96 (by decide) ?_
              refine v_icmp_ne (pc := 97) 104 g dX5_advance_97 rfl (fun c97 => ?_) (fun c97 => ?_)
              · exact absurd rfl c97
              · refine v_iconst (pc := 100) (v := 0) g dX5_advance_100 (by decide) ?_
                refine v_goto (pc := 101) 105 g dX5_advance_101 rfl ?_
                refine v_put (pc := 105) _ g dX5_advance_105 fp_X5_195 rfl (Nat.le_of_ble_eq_true rfl) rfl rfl rfl rfl ?_
                refine v_aload_n (pc := 108) 0 g dX5_advance_108 rfl rfl ?_
                refine v_get (pc := 109) g dX5_advance_109 fl_X5_188 rfl rfl ?_
                refine v_iconst (pc := 112) (v := 3) g dX5_advance_112 (by decide) ?_
                refine v_icmp_ne (pc := 113) 126 g dX5_advance_113 rfl (fun c113 => ?_) (fun c113 => ?_)
                · refine v_aload_n (pc := 126) 0 g dX5_advance_126 rfl rfl ?_
                  refine v_get (pc := 127) g dX5_advance_127 fl_X5_188 rfl rfl ?_
                  refine v_iconst (pc := 130) (v := 1) g dX5_advance_130 (by decide) ?_
                  refine v_icmp_ne (pc := 131) 207 g dX5_advance_131 rfl (fun c131 => ?_) (fun c131 => ?_)
                  · have L207 : ∀ (fu : Nat) (j : Nat), k ≤ j → j ≤ tm → sc (qD ta tm) tm k = sc (qD ta tm) tm j → tm - j < fu → V X 207 [some (.ref 0), some (.int (byt ta tm k))] [] (mW r fo of tr b1 ta tm 2 (nI k) (nI j) 0 (rvN (byt ta tm) k (j - k)) gd bi si sh le im bf kp) := by
                      intro fu
                      induction fu with
                      | zero => intro j hkj hj hq2 hm; exact absurd hm (Nat.not_lt_zero _)
                      | succ fu ih2 =>
                        intro j hkj hj hq2 hm
                        refine v_aload_n (pc := 207) 0 g dX5_advance_207 rfl rfl ?_
                        refine v_get (pc := 208) g dX5_advance_208 fl_X5_188 rfl rfl ?_
                        refine v_iconst (pc := 211) (v := 2) g dX5_advance_211 (by decide) ?_
                        refine v_icmp_ne (pc := 212) 281 g dX5_advance_212 rfl (fun c212 => ?_) (fun c212 => ?_)
                        · exact absurd rfl c212
                        · refine v_aload_n (pc := 215) 0 g dX5_advance_215 rfl rfl ?_
                          refine v_aload_n (pc := 216) 0 g dX5_advance_216 rfl rfl ?_
                          refine v_get (pc := 217) g dX5_advance_217 fl_X5_173 rfl rfl ?_
                          refine v_cVd (pc := 220) g dX5_advance_220 lk_X5_179 (c_X5_byteAt r j hl (by omega)) (Nat.le_of_ble_eq_true rfl) rfl rfl rfl rfl (Nat.le_of_ble_eq_true rfl) ?_
                          refine v_cSd (pc := 223) g dX5_advance_223 lk_X5_185 ((c_X5_isDigit _).any rfl rfl _) (Nat.le_of_ble_eq_true rfl) rfl rfl (Nat.le_of_ble_eq_true rfl) ?_
                          refine v_ifb_eq (pc := 226) 281 g dX5_advance_226 rfl (fun c226 => ?_) (fun c226 => ?_)
                          · have ej : sc (qD ta tm) tm k = j := by rw [hq2, sc_f (decide_eq_false c226)]
                            exact v_vret (pc := 281) g hret dX5_advance_281 (⟨rfl, by have e1 : soT ta tm k = 2 := (by unfold soT; rw [hT]; rfl); unfold woT vaT; rw [en_2 hT, e1, if_pos hT, if_neg (by omega), ej]; rfl⟩)
                          · have el : j < tm := by rcases Nat.lt_or_ge j tm with z | z; exact z; exact absurd c226 (by rw [byt_ge z]; decide)
                            have ej : sc (qD ta tm) tm k = sc (qD ta tm) tm (j + 1) := by rw [hq2]; exact sc_t el (decide_eq_true c226)
                            refine v_aload_n (pc := 229) 0 g dX5_advance_229 rfl rfl ?_
                            refine v_aload_n (pc := 230) 0 g dX5_advance_230 rfl rfl ?_
                            refine v_get (pc := 231) g dX5_advance_231 fl_X5_195 rfl rfl ?_
                            refine v_sipush (pc := 234) (v := 999) g dX5_advance_234 (by decide) ?_
                            refine v_icmp_le (pc := 237) 246 g dX5_advance_237 rfl (fun c237 => ?_) (fun c237 => ?_)
                            · refine v_bipush (pc := 246) (v := 10) g dX5_advance_246 (by decide) ?_
                              refine v_aload_n (pc := 248) 0 g dX5_advance_248 rfl rfl ?_
                              refine v_get (pc := 249) g dX5_advance_249 fl_X5_195 rfl rfl ?_
                              refine v_imul (pc := 252) g dX5_advance_252 ?_
                              refine v_aload_n (pc := 253) 0 g dX5_advance_253 rfl rfl ?_
                              refine v_aload_n (pc := 254) 0 g dX5_advance_254 rfl rfl ?_
                              refine v_get (pc := 255) g dX5_advance_255 fl_X5_173 rfl rfl ?_
                              refine v_cVd (pc := 258) g dX5_advance_258 lk_X5_179 (c_X5_byteAt r j hl (by omega)) (Nat.le_of_ble_eq_true rfl) rfl rfl rfl rfl (Nat.le_of_ble_eq_true rfl) ?_
                              refine v_iadd (pc := 261) g dX5_advance_261 ?_
                              refine v_bipush (pc := 262) (v := 48) g dX5_advance_262 (by decide) ?_
                              refine v_isub (pc := 264) g dX5_advance_264 ?_
                              refine v_stE [.int (rvN (byt ta tm) k (j - k + 1)), .ref 0] (by rw [rvN]; first | (rw [if_pos c237, show k + (j - k) = j by omega]; done) | (rw [if_neg c237]; done)) ?_
                              refine v_put (pc := 265) _ g dX5_advance_265 fp_X5_195 rfl (Nat.le_of_ble_eq_true rfl) rfl rfl rfl rfl ?_
                              refine v_aload_n (pc := 268) 0 g dX5_advance_268 rfl rfl ?_
                              refine v_dup (pc := 269) g dX5_advance_269 rfl ?_
                              refine v_get (pc := 270) g dX5_advance_270 fl_X5_173 rfl rfl ?_
                              refine v_iconst (pc := 273) (v := 1) g dX5_advance_273 (by decide) ?_
                              refine v_iadd (pc := 274) g dX5_advance_274 ?_
                              rw [nI_1]
                              refine v_put (pc := 275) _ g dX5_advance_275 fp_X5_173 rfl (Nat.le_of_ble_eq_true rfl) rfl rfl rfl rfl ?_
                              refine v_goto (pc := 278) 207 g dX5_advance_278 rfl ?_
                              refine v_w (mW r fo of tr b1 ta tm 2 (nI k) (nI (j + 1)) 0 (rvN (byt ta tm) k (j + 1 - k)) gd bi si sh le im bf kp) (by rw [show j + 1 - k = j - k + 1 by omega]; rfl) ?_
                              exact ih2 (j + 1) (by omega) (by omega) ej (by omega)
                            · refine v_sipush (pc := 240) (v := 10000) g dX5_advance_240 (by decide) ?_
                              refine v_goto (pc := 243) 265 g dX5_advance_243 rfl ?_
                              refine v_stE [.int (rvN (byt ta tm) k (j - k + 1)), .ref 0] (by rw [rvN]; first | (rw [if_pos c237, show k + (j - k) = j by omega]; done) | (rw [if_neg c237]; done)) ?_
                              refine v_put (pc := 265) _ g dX5_advance_265 fp_X5_195 rfl (Nat.le_of_ble_eq_true rfl) rfl rfl rfl rfl ?_
                              refine v_aload_n (pc := 268) 0 g dX5_advance_268 rfl rfl ?_
                              refine v_dup (pc := 269) g dX5_advance_269 rfl ?_
                              refine v_get (pc := 270) g dX5_advance_270 fl_X5_173 rfl rfl ?_
                              refine v_iconst (pc := 273) (v := 1) g dX5_advance_273 (by decide) ?_
                              refine v_iadd (pc := 274) g dX5_advance_274 ?_
                              rw [nI_1]
                              refine v_put (pc := 275) _ g dX5_advance_275 fp_X5_173 rfl (Nat.le_of_ble_eq_true rfl) rfl rfl rfl rfl ?_
                              refine v_goto (pc := 278) 207 g dX5_advance_278 rfl ?_
                              refine v_w (mW r fo of tr b1 ta tm 2 (nI k) (nI (j + 1)) 0 (rvN (byt ta tm) k (j + 1 - k)) gd bi si sh le im bf kp) (by rw [show j + 1 - k = j - k + 1 by omega]; rfl) ?_
                              exact ih2 (j + 1) (by omega) (by omega) ej (by omega)
                    refine v_w (mW r fo of tr b1 ta tm 2 (nI k) (nI k) 0 (rvN (byt ta tm) k (k - k)) gd bi si sh le im bf kp) (by rw [Nat.sub_self]; rfl) ?_
                    exact L207 (tm - k + 1) k (Nat.le_refl _) hk rfl (by omega)
                  · exact absurd c131 (by decide)
                · exact absurd c113 (by decide)
          · exact absurd (tk_1 (tb := ta) (tl := tm) (b := k) |>.mpr (decide_eq_true c64)) (by omega)
        · exact absurd (tk0_0 (v := byt ta tm k) (by have := i_lt.mp (Int32.not_le.mp c53); have z0 : (0 : Int32).toInt = 0 := rfl; omega)) (by show ¬ tkT ta tm k = 0; omega)
      · have ek : k < tm := by rcases Nat.lt_or_ge k tm with z | z; exact z; exact absurd c18 (by rw [byt_ge z]; decide)
        have eq : bgT ta tm k = bgT ta tm (k + 1) := sc_t ek (decide_eq_true c18)
        refine v_aload_n (pc := 21) 0 g dX5_advance_21 rfl rfl ?_
        refine v_dup (pc := 22) g dX5_advance_22 rfl ?_
        refine v_get (pc := 23) g dX5_advance_23 fl_X5_176 rfl rfl ?_
        refine v_iconst (pc := 26) (v := 1) g dX5_advance_26 (by decide) ?_
        refine v_iadd (pc := 27) g dX5_advance_27 ?_
        rw [nI_1]
        refine v_put (pc := 28) _ g dX5_advance_28 fp_X5_176 rfl (Nat.le_of_ble_eq_true rfl) rfl rfl rfl rfl ?_
        refine v_goto (pc := 31) 8 g dX5_advance_31 rfl ?_
        exact ih (k + 1) (by omega) (by rw [hq, eq]) (by omega)
  exact L8 (tm - p + 1) p hp rfl (by omega)
theorem c_X5_advance (r : Nat → Int32) {fo : Nat → Int32} {of : Int32} {tr : Nat → Int32} {b1 : Nat → Int32} {ta : Nat → Int32} {tm : Nat} {so : Int32} {be : Int32} {wo : Int64} {va : Int32} {gd : Int32} {bi : Nat → Int32} {si : Nat → Int32} {sh : Nat → Int64} {le : Nat → Int64} {im : Nat → Int32} {bf : Nat → Int32} {kp : Int32} (p b : Nat) (hl : tm ≤ 120) (hp : p ≤ tm) (hb : bgT ta tm p = b) : RunD 2 yX5_advance cX5_advance 2 none [.ref 0] (mW r fo of tr b1 ta tm so be (nI p) wo va gd bi si sh le im bf kp) none (mW r fo of tr b1 ta tm (nI (soT ta tm b)) (nI b) (nI (enT ta tm b)) (woT ta tm b) (vaT ta tm b) gd bi si sh le im bf kp) := by
  have h5 := tk_lt ta tm b
  rcases (show tkT ta tm b = 0 ∨ tkT ta tm b = 1 ∨ tkT ta tm b = 2 ∨ 3 ≤ tkT ta tm b by omega) with h | h | h | h
  · exact c_X5_adv0 r p b hl hp hb h
  · exact c_X5_adv1 r p b hl hp hb h
  · exact c_X5_adv2 r p b hl hp hb h
  · exact c_X5_adv3 r p b hl hp hb h
