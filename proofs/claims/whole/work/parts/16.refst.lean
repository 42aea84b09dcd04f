/-! ===== the reference: its street ===== -/
theorem ix_p (i k : Nat) : (39 : Int32) + 6 * nI i + nI k = nI (39 + 6 * i + k) := by
  rw [show (6 : Int32) = nI 6 from rfl, show (39 : Int32) = nI 39 from rfl, pk_mul, nI_add, nI_add]
theorem ix_h (i k : Nat) : (3 : Int32) + 3 * nI i + nI k = nI (3 + 3 * i + k) := by
  rw [show (3 : Int32) = nI 3 from rfl, pk_mul, nI_add, nI_add]
theorem bits_cong {p q : Nat → Bool} : ∀ {n : Nat}, (∀ i, i < n → p i = q i) → bitsN p n = bitsN q n
  | 0, _ => rfl
  | n + 1, h => by rw [bitsN, bitsN, bits_cong (fun i hi => h i (by omega)), h n (by omega)]
theorem held_mx {z : Int32} (h : z.toInt ≤ 99) : heldI z 0 99 = mx 0 z := by
  unfold heldI mx
  by_cases h1 : z < 0
  · rw [if_pos h1, if_neg (by rw [i_lt] at *; omega)]
  · rw [if_neg h1, if_neg (by rw [i_lt]; have : (99 : Int32).toInt = 99 := rfl; omega)]
    by_cases h2 : 0 < z
    · rw [if_pos h2]
    · rw [if_neg h2, i_eq]
      rw [i_lt] at h1 h2
      omega
theorem held_mn {z m : Int32} (h : 0 ≤ z.toInt) : heldI z 0 m = mn m z := by
  unfold heldI mn
  have h0 : (0 : Int32).toInt = 0 := rfl
  rw [if_neg (by rw [i_lt]; omega)]
  by_cases h1 : m < z
  · rw [if_pos h1, if_neg (by rw [i_lt] at *; omega)]
  · rw [if_neg h1]
    by_cases h2 : z < m
    · rw [if_pos h2]
    · rw [if_neg h2, i_eq]
      rw [i_lt] at h1 h2
      omega
theorem held_plain {s : St} (h : Inv s) (i : Nat) : heldI (sCo s i / 4 - sDr s) 0 99 = plainT s i := by
  refine held_mx ?_
  obtain ⟨c, hc, ec⟩ := (h.co i).nat (m := 99) (by omega)
  obtain ⟨d, hd, ed⟩ := h.dr.nat (m := 9) (by omega)
  rw [ec, ed, show (4 : Int32) = nI 4 from rfl, pk_div (by omega) (by omega) (by omega), pk_sub_toInt (by omega) (by omega)]
  omega
theorem held_re {s : St} (h : Inv s) (k : Nat) : heldI (sRe s k + 1) 0 9999 = mn 9999 (sRe s k + 1) := by
  refine held_mn ?_
  obtain ⟨c, hc, ec⟩ := (h.re k).nat (m := 9999) (by omega)
  have e : nI c + 1 = nI (c + 1) := nI_1 c
  rw [ec, e, nI_toInt (by omega)]; omega
theorem held_go {s : St} (h : Inv s) (k : Nat) : heldI (sGo s k + 1) 0 9999 = mn 9999 (sGo s k + 1) := by
  refine held_mn ?_
  obtain ⟨c, hc, ec⟩ := (h.go k).nat (m := 9999) (by omega)
  have e : nI c + 1 = nI (c + 1) := nI_1 c
  rw [ec, e, nI_toInt (by omega)]; omega
theorem held_ti {s : St} (h : Inv s) (k : Nat) : heldI (sTi s k + tkl s k) 0 99 = mn 99 (sTi s k + tkl s k) := by
  refine held_mn ?_
  obtain ⟨c, hc, ec⟩ := (h.ti k).nat (m := 99) (by omega)
  obtain ⟨t, ht, et⟩ := tkl_nat h k
  rw [ec, et, nI_add, nI_toInt (by omega)]; omega
theorem held_co {s : St} (h : Inv s) (k : Nat) : heldI (sCo s k + 6) 0 99 = mn 99 (sCo s k + 6) := by
  refine held_mn ?_
  obtain ⟨c, hc, ec⟩ := (h.co k).nat (m := 99) (by omega)
  have e : nI c + 6 = nI (c + 6) := nI_add c 6
  rw [ec, e, nI_toInt (by omega)]; omega
theorem held_he {s : St} (h : Inv s) (k : Nat) : heldI (sCo s k - hea s k) 0 99 = mx 0 (sCo s k - hea s k) := by
  refine held_mx ?_
  obtain ⟨c, hc, ec⟩ := (h.co k).nat (m := 99) (by omega)
  obtain ⟨t, ht, et⟩ := hea_nat h k
  rw [ec, et, pk_sub_toInt (by omega) (by omega)]; omega
theorem far_in {p q : Int32} (hp : inR p 0 11) (hq : inR q 0 11) : inR (p - q) (-1) 1 ↔ (-1 ≤ p.toInt - q.toInt ∧ p.toInt - q.toInt ≤ 1) := by
  obtain ⟨a, ha, rfl⟩ := hp.nat (m := 11) (by omega)
  obtain ⟨b, hb, rfl⟩ := hq.nat (m := 11) (by omega)
  unfold inR
  rw [nI_toInt (by omega), nI_toInt (by omega), pk_sub_toInt (by omega) (by omega)]
theorem upd_self {f : Nat → Int32} {k : Nat} {x : Int32} (h : f k = x) : upd f k x = f := by
  funext j
  by_cases e : j = k
  · subst e; rw [upd_eq, h]
  · rw [upd_ne e]
theorem lgt1_s {s : St} {h l : Int32} (q : ¬ sLa s h.toNatClampNeg < l) : lgt1 s h l = s := by
  by_cases c : inR h 0 11 ∧ sBo s h.toNatClampNeg = 1
  · rw [lgt1_t c, mx, if_neg q, upd_self rfl]; rfl
  · exact lgt1_f c
theorem fil_0 {α : Type} (f g : Nat → α) : (fun j => if j < 0 then f j else g j) = g := by funext j; rw [if_neg (by omega)]
def fil {α : Type} (f g : Nat → α) (k : Nat) : Nat → α := fun j => if j < k then f j else g j
theorem fil_up (f g : Nat → Int32) (k : Nat) : upd (fil f g k) k (f k) = fil f g (k + 1) := by
  funext j
  unfold fil
  by_cases e : j = k
  · subst e; rw [upd_eq, if_pos (by omega)]
  · rw [upd_ne e]
    by_cases h : j < k
    · rw [if_pos h, if_pos (by omega)]
    · rw [if_neg h, if_neg (by omega)]
theorem fil_upL (f g : Nat → Int64) (k : Nat) : vp_updL (fil f g k) k (f k) = fil f g (k + 1) := by
  funext j
  unfold vp_updL
  by_cases e : j = k
  · subst e; rw [if_pos rfl, fil, if_pos (by omega)]
  · rw [if_neg e, fil, fil]
    by_cases h : j < k
    · rw [if_pos h, if_pos (by omega)]
    · rw [if_neg h, if_neg (by omega)]
set_option maxRecDepth 20000 in
set_option maxHeartbeats 2000000 in
theorem c_X5_its (r : Nat → Int32) {fo : Nat → Int32} {of : Int32} {tr : Nat → Int32} {b1 : Nat → Int32} {ta : Nat → Int32} {tm : Nat} {so : Int32} {be : Int32} {te : Int32} {wo : Int64} {va : Int32} {gd : Int32} {bi : Nat → Int32} {si : Nat → Int32} {sh : Nat → Int64} {le : Nat → Int64} {im : Nat → Int32} {bf : Nat → Int32} {kp : Int32} (i k : Nat) (hi : i < 8) (hk : k < 6) : RunD 0 yX5_its cX5_its 3 (some .int) [.ref 0, .int (nI i), .int (nI k)] (mW r fo of tr b1 ta tm so be te wo va gd bi si sh le im bf kp) (some (.int (r (39 + 6 * i + k)))) (mW r fo of tr b1 ta tm so be te wo va gd bi si sh le im bf kp) := by
  refine Runs.of (by decide) (Nat.le_of_ble_eq_true rfl) rfl ?_
  intro X g hret hnL
  refine v_aload_n (pc := 0) 0 g dX5_its_0 rfl rfl ?_
  refine v_get (pc := 1) g dX5_its_1 fl_X5_7 rfl rfl ?_
  refine v_bipush (pc := 4) (v := 39) g dX5_its_4 (by decide) ?_
  refine v_bipush (pc := 6) (v := 6) g dX5_its_6 (by decide) ?_
  refine v_iload_n (pc := 8) 1 g dX5_its_8 rfl rfl ?_
  refine v_imul (pc := 9) g dX5_its_9 ?_
  refine v_iadd (pc := 10) g dX5_its_10 ?_
  refine v_iload_n (pc := 11) 2 g dX5_its_11 rfl rfl ?_
  refine v_iadd (pc := 12) g dX5_its_12 ?_
  refine v_ialdN (pc := 13) _ g dX5_its_13 rfl (ix_p i k) (by omega) (Nat.le_of_ble_eq_true rfl) ?_
  exact v_iret (pc := 14) g hret dX5_its_14 (⟨rfl, rfl⟩)
set_option maxRecDepth 20000 in
set_option maxHeartbeats 2000000 in
theorem c_X5_puts (r : Nat → Int32) {fo : Nat → Int32} {of : Int32} {tr : Nat → Int32} {b1 : Nat → Int32} {ta : Nat → Int32} {tm : Nat} {so : Int32} {be : Int32} {te : Int32} {wo : Int64} {va : Int32} {gd : Int32} {bi : Nat → Int32} {si : Nat → Int32} {sh : Nat → Int64} {le : Nat → Int64} {im : Nat → Int32} {bf : Nat → Int32} {kp : Int32} (i k : Nat) (v : Int32) (hi : i < 8) (hk : k < 6) : RunD 0 yX5_puts cX5_puts 4 none [.ref 0, .int (nI i), .int (nI k), .int v] (mW r fo of tr b1 ta tm so be te wo va gd bi si sh le im bf kp) (none) (mW (upd r (39 + 6 * i + k) v) fo of tr b1 ta tm so be te wo va gd bi si sh le im bf kp) := by
  refine Runs.of (by decide) (Nat.le_of_ble_eq_true rfl) rfl ?_
  intro X g hret hnL
  refine v_aload_n (pc := 0) 0 g dX5_puts_0 rfl rfl ?_
  refine v_get (pc := 1) g dX5_puts_1 fl_X5_7 rfl rfl ?_
  refine v_bipush (pc := 4) (v := 39) g dX5_puts_4 (by decide) ?_
  refine v_bipush (pc := 6) (v := 6) g dX5_puts_6 (by decide) ?_
  refine v_iload_n (pc := 8) 1 g dX5_puts_8 rfl rfl ?_
  refine v_imul (pc := 9) g dX5_puts_9 ?_
  refine v_iadd (pc := 10) g dX5_puts_10 ?_
  refine v_iload_n (pc := 11) 2 g dX5_puts_11 rfl rfl ?_
  refine v_iadd (pc := 12) g dX5_puts_12 ?_
  refine v_iload_n (pc := 13) 3 g dX5_puts_13 rfl rfl ?_
  refine v_iastN (pc := 14) _ _ g dX5_puts_14 rfl (ix_p i k) (by omega) (Nat.le_of_ble_eq_true rfl) rfl ?_
  exact v_vret (pc := 15) g hret dX5_puts_15 (⟨rfl, rfl⟩)
set_option maxRecDepth 20000 in
set_option maxHeartbeats 2000000 in
theorem c_X5_stands (r : Nat → Int32) {fo : Nat → Int32} {of : Int32} {tr : Nat → Int32} {b1 : Nat → Int32} {ta : Nat → Int32} {tm : Nat} {so : Int32} {be : Int32} {te : Int32} {wo : Int64} {va : Int32} {gd : Int32} {bi : Nat → Int32} {si : Nat → Int32} {sh : Nat → Int64} {le : Nat → Int64} {im : Nat → Int32} {bf : Nat → Int32} {kp : Int32} (i k : Nat) (hi : i < 12) (hk : k < 3) : RunD 0 yX5_stands cX5_stands 3 (some .int) [.ref 0, .int (nI i), .int (nI k)] (mW r fo of tr b1 ta tm so be te wo va gd bi si sh le im bf kp) (some (.int (r (3 + 3 * i + k)))) (mW r fo of tr b1 ta tm so be te wo va gd bi si sh le im bf kp) := by
  refine Runs.of (by decide) (Nat.le_of_ble_eq_true rfl) rfl ?_
  intro X g hret hnL
  refine v_aload_n (pc := 0) 0 g dX5_stands_0 rfl rfl ?_
  refine v_get (pc := 1) g dX5_stands_1 fl_X5_7 rfl rfl ?_
  refine v_iconst (pc := 4) (v := 3) g dX5_stands_4 (by decide) ?_
  refine v_iconst (pc := 5) (v := 3) g dX5_stands_5 (by decide) ?_
  refine v_iload_n (pc := 6) 1 g dX5_stands_6 rfl rfl ?_
  refine v_imul (pc := 7) g dX5_stands_7 ?_
  refine v_iadd (pc := 8) g dX5_stands_8 ?_
  refine v_iload_n (pc := 9) 2 g dX5_stands_9 rfl rfl ?_
  refine v_iadd (pc := 10) g dX5_stands_10 ?_
  refine v_ialdN (pc := 11) _ g dX5_stands_11 rfl (ix_h i k) (by omega) (Nat.le_of_ble_eq_true rfl) ?_
  exact v_iret (pc := 12) g hret dX5_stands_12 (⟨rfl, rfl⟩)
set_option maxRecDepth 20000 in
set_option maxHeartbeats 2000000 in
theorem c_X5_rests (r : Nat → Int32) {fo : Nat → Int32} {of : Int32} {tr : Nat → Int32} {b1 : Nat → Int32} {ta : Nat → Int32} {tm : Nat} {so : Int32} {be : Int32} {te : Int32} {wo : Int64} {va : Int32} {gd : Int32} {bi : Nat → Int32} {si : Nat → Int32} {sh : Nat → Int64} {le : Nat → Int64} {im : Nat → Int32} {bf : Nat → Int32} {kp : Int32} (i k : Nat) (v : Int32) (hi : i < 12) (hk : k < 3) : RunD 0 yX5_rests cX5_rests 4 none [.ref 0, .int (nI i), .int (nI k), .int v] (mW r fo of tr b1 ta tm so be te wo va gd bi si sh le im bf kp) (none) (mW (upd r (3 + 3 * i + k) v) fo of tr b1 ta tm so be te wo va gd bi si sh le im bf kp) := by
  refine Runs.of (by decide) (Nat.le_of_ble_eq_true rfl) rfl ?_
  intro X g hret hnL
  refine v_aload_n (pc := 0) 0 g dX5_rests_0 rfl rfl ?_
  refine v_get (pc := 1) g dX5_rests_1 fl_X5_7 rfl rfl ?_
  refine v_iconst (pc := 4) (v := 3) g dX5_rests_4 (by decide) ?_
  refine v_iconst (pc := 5) (v := 3) g dX5_rests_5 (by decide) ?_
  refine v_iload_n (pc := 6) 1 g dX5_rests_6 rfl rfl ?_
  refine v_imul (pc := 7) g dX5_rests_7 ?_
  refine v_iadd (pc := 8) g dX5_rests_8 ?_
  refine v_iload_n (pc := 9) 2 g dX5_rests_9 rfl rfl ?_
  refine v_iadd (pc := 10) g dX5_rests_10 ?_
  refine v_iload_n (pc := 11) 3 g dX5_rests_11 rfl rfl ?_
  refine v_iastN (pc := 12) _ _ g dX5_rests_12 rfl (ix_h i k) (by omega) (Nat.le_of_ble_eq_true rfl) rfl ?_
  exact v_vret (pc := 13) g hret dX5_rests_13 (⟨rfl, rfl⟩)
set_option maxRecDepth 20000 in
set_option maxHeartbeats 2000000 in
theorem c_X5_becomes (r : Nat → Int32) {fo : Nat → Int32} {of : Int32} {tr : Nat → Int32} {b1 : Nat → Int32} {ta : Nat → Int32} {tm : Nat} {so : Int32} {be : Int32} {te : Int32} {wo : Int64} {va : Int32} {gd : Int32} {bi : Nat → Int32} {si : Nat → Int32} {sh : Nat → Int64} {le : Nat → Int64} {im : Nat → Int32} {bf : Nat → Int32} {kp : Int32} (j : Nat) (v : Int32) (hj : j < 87) : RunD 0 yX5_becomes cX5_becomes 4 (some .int) [.ref 0, .int (nI j), .int v] (mW r fo of tr b1 ta tm so be te wo va gd bi si sh le im bf kp) (some (.int (r j))) (mW (upd r j v) fo of tr b1 ta tm so be te wo va gd bi si sh le im bf kp) := by
  refine Runs.of (by decide) (Nat.le_of_ble_eq_true rfl) rfl ?_
  intro X g hret hnL
  refine v_aload_n (pc := 0) 0 g dX5_becomes_0 rfl rfl ?_
  refine v_get (pc := 1) g dX5_becomes_1 fl_X5_7 rfl rfl ?_
  refine v_iload_n (pc := 4) 1 g dX5_becomes_4 rfl rfl ?_
  refine v_ialdN (pc := 5) _ g dX5_becomes_5 rfl rfl (by omega) (Nat.le_of_ble_eq_true rfl) ?_
  refine v_istore_n (pc := 6) 3 _ g dX5_becomes_6 rfl (Nat.le_of_ble_eq_true rfl) hnL.symm rfl ?_
  refine v_aload_n (pc := 7) 0 g dX5_becomes_7 rfl rfl ?_
  refine v_get (pc := 8) g dX5_becomes_8 fl_X5_7 rfl rfl ?_
  refine v_iload_n (pc := 11) 1 g dX5_becomes_11 rfl rfl ?_
  refine v_iload_n (pc := 12) 2 g dX5_becomes_12 rfl rfl ?_
  refine v_iastN (pc := 13) _ _ g dX5_becomes_13 rfl rfl (by omega) (Nat.le_of_ble_eq_true rfl) rfl ?_
  refine v_iload_n (pc := 14) 3 g dX5_becomes_14 rfl rfl ?_
  exact v_iret (pc := 15) g hret dX5_becomes_15 (⟨rfl, rfl⟩)
theorem c_st_La (s : St) {fo : Nat → Int32} {of : Int32} {tr : Nat → Int32} {b1 : Nat → Int32} {ta : Nat → Int32} {tm : Nat} {so : Int32} {be : Int32} {te : Int32} {wo : Int64} {va : Int32} {gd : Int32} {bi : Nat → Int32} {si : Nat → Int32} {sh : Nat → Int64} {le : Nat → Int64} {im : Nat → Int32} {bf : Nat → Int32} {kp : Int32} (i : Nat) (hi : i < 12) : RunD 0 yX5_stands cX5_stands 3 (some .int) [.ref 0, .int (nI i), .int 0] (mW (rowOf s) fo of tr b1 ta tm so be te wo va gd bi si sh le im bf kp) (some (.int (sLa s i))) (mW (rowOf s) fo of tr b1 ta tm so be te wo va gd bi si sh le im bf kp) := by
  have h := c_X5_stands (rowOf s) i 0 hi (by omega) (fo := fo) (of := of) (tr := tr) (b1 := b1) (ta := ta) (tm := tm) (so := so) (be := be) (te := te) (wo := wo) (va := va) (gd := gd) (bi := bi) (si := si) (sh := sh) (le := le) (im := im) (bf := bf) (kp := kp)
  rw [row_La s hi] at h
  exact h
theorem c_re_La (s : St) {fo : Nat → Int32} {of : Int32} {tr : Nat → Int32} {b1 : Nat → Int32} {ta : Nat → Int32} {tm : Nat} {so : Int32} {be : Int32} {te : Int32} {wo : Int64} {va : Int32} {gd : Int32} {bi : Nat → Int32} {si : Nat → Int32} {sh : Nat → Int64} {le : Nat → Int64} {im : Nat → Int32} {bf : Nat → Int32} {kp : Int32} (i : Nat) (v : Int32) (hi : i < 12) : RunD 0 yX5_rests cX5_rests 4 none [.ref 0, .int (nI i), .int 0, .int v] (mW (rowOf s) fo of tr b1 ta tm so be te wo va gd bi si sh le im bf kp) (none) (mW (rowOf (pLa s (upd (sLa s) i v))) fo of tr b1 ta tm so be te wo va gd bi si sh le im bf kp) := by
  have h := c_X5_rests (rowOf s) i 0 v hi (by omega) (fo := fo) (of := of) (tr := tr) (b1 := b1) (ta := ta) (tm := tm) (so := so) (be := be) (te := te) (wo := wo) (va := va) (gd := gd) (bi := bi) (si := si) (sh := sh) (le := le) (im := im) (bf := bf) (kp := kp)
  rw [rup_La s hi] at h
  exact h
theorem c_st_Bo (s : St) {fo : Nat → Int32} {of : Int32} {tr : Nat → Int32} {b1 : Nat → Int32} {ta : Nat → Int32} {tm : Nat} {so : Int32} {be : Int32} {te : Int32} {wo : Int64} {va : Int32} {gd : Int32} {bi : Nat → Int32} {si : Nat → Int32} {sh : Nat → Int64} {le : Nat → Int64} {im : Nat → Int32} {bf : Nat → Int32} {kp : Int32} (i : Nat) (hi : i < 12) : RunD 0 yX5_stands cX5_stands 3 (some .int) [.ref 0, .int (nI i), .int 1] (mW (rowOf s) fo of tr b1 ta tm so be te wo va gd bi si sh le im bf kp) (some (.int (sBo s i))) (mW (rowOf s) fo of tr b1 ta tm so be te wo va gd bi si sh le im bf kp) := by
  have h := c_X5_stands (rowOf s) i 1 hi (by omega) (fo := fo) (of := of) (tr := tr) (b1 := b1) (ta := ta) (tm := tm) (so := so) (be := be) (te := te) (wo := wo) (va := va) (gd := gd) (bi := bi) (si := si) (sh := sh) (le := le) (im := im) (bf := bf) (kp := kp)
  rw [row_Bo s hi] at h
  exact h
theorem c_re_Bo (s : St) {fo : Nat → Int32} {of : Int32} {tr : Nat → Int32} {b1 : Nat → Int32} {ta : Nat → Int32} {tm : Nat} {so : Int32} {be : Int32} {te : Int32} {wo : Int64} {va : Int32} {gd : Int32} {bi : Nat → Int32} {si : Nat → Int32} {sh : Nat → Int64} {le : Nat → Int64} {im : Nat → Int32} {bf : Nat → Int32} {kp : Int32} (i : Nat) (v : Int32) (hi : i < 12) : RunD 0 yX5_rests cX5_rests 4 none [.ref 0, .int (nI i), .int 1, .int v] (mW (rowOf s) fo of tr b1 ta tm so be te wo va gd bi si sh le im bf kp) (none) (mW (rowOf (pBo s (upd (sBo s) i v))) fo of tr b1 ta tm so be te wo va gd bi si sh le im bf kp) := by
  have h := c_X5_rests (rowOf s) i 1 v hi (by omega) (fo := fo) (of := of) (tr := tr) (b1 := b1) (ta := ta) (tm := tm) (so := so) (be := be) (te := te) (wo := wo) (va := va) (gd := gd) (bi := bi) (si := si) (sh := sh) (le := le) (im := im) (bf := bf) (kp := kp)
  rw [rup_Bo s hi] at h
  exact h
theorem c_st_Re (s : St) {fo : Nat → Int32} {of : Int32} {tr : Nat → Int32} {b1 : Nat → Int32} {ta : Nat → Int32} {tm : Nat} {so : Int32} {be : Int32} {te : Int32} {wo : Int64} {va : Int32} {gd : Int32} {bi : Nat → Int32} {si : Nat → Int32} {sh : Nat → Int64} {le : Nat → Int64} {im : Nat → Int32} {bf : Nat → Int32} {kp : Int32} (i : Nat) (hi : i < 12) : RunD 0 yX5_stands cX5_stands 3 (some .int) [.ref 0, .int (nI i), .int 2] (mW (rowOf s) fo of tr b1 ta tm so be te wo va gd bi si sh le im bf kp) (some (.int (sRe s i))) (mW (rowOf s) fo of tr b1 ta tm so be te wo va gd bi si sh le im bf kp) := by
  have h := c_X5_stands (rowOf s) i 2 hi (by omega) (fo := fo) (of := of) (tr := tr) (b1 := b1) (ta := ta) (tm := tm) (so := so) (be := be) (te := te) (wo := wo) (va := va) (gd := gd) (bi := bi) (si := si) (sh := sh) (le := le) (im := im) (bf := bf) (kp := kp)
  rw [row_Re s hi] at h
  exact h
theorem c_re_Re (s : St) {fo : Nat → Int32} {of : Int32} {tr : Nat → Int32} {b1 : Nat → Int32} {ta : Nat → Int32} {tm : Nat} {so : Int32} {be : Int32} {te : Int32} {wo : Int64} {va : Int32} {gd : Int32} {bi : Nat → Int32} {si : Nat → Int32} {sh : Nat → Int64} {le : Nat → Int64} {im : Nat → Int32} {bf : Nat → Int32} {kp : Int32} (i : Nat) (v : Int32) (hi : i < 12) : RunD 0 yX5_rests cX5_rests 4 none [.ref 0, .int (nI i), .int 2, .int v] (mW (rowOf s) fo of tr b1 ta tm so be te wo va gd bi si sh le im bf kp) (none) (mW (rowOf (pRe s (upd (sRe s) i v))) fo of tr b1 ta tm so be te wo va gd bi si sh le im bf kp) := by
  have h := c_X5_rests (rowOf s) i 2 v hi (by omega) (fo := fo) (of := of) (tr := tr) (b1 := b1) (ta := ta) (tm := tm) (so := so) (be := be) (te := te) (wo := wo) (va := va) (gd := gd) (bi := bi) (si := si) (sh := sh) (le := le) (im := im) (bf := bf) (kp := kp)
  rw [rup_Re s hi] at h
  exact h
theorem c_stv_La (s : St) {fo : Nat → Int32} {of : Int32} {tr : Nat → Int32} {b1 : Nat → Int32} {ta : Nat → Int32} {tm : Nat} {so : Int32} {be : Int32} {te : Int32} {wo : Int64} {va : Int32} {gd : Int32} {bi : Nat → Int32} {si : Nat → Int32} {sh : Nat → Int64} {le : Nat → Int64} {im : Nat → Int32} {bf : Nat → Int32} {kp : Int32} (v : Int32) (i : Nat) (hv : v = nI i) (hi : i < 12) : RunD 0 yX5_stands cX5_stands 3 (some .int) [.ref 0, .int v, .int 0] (mW (rowOf s) fo of tr b1 ta tm so be te wo va gd bi si sh le im bf kp) (some (.int (sLa s i))) (mW (rowOf s) fo of tr b1 ta tm so be te wo va gd bi si sh le im bf kp) := by subst hv; exact c_st_La s i hi
theorem c_rev_La (s : St) {fo : Nat → Int32} {of : Int32} {tr : Nat → Int32} {b1 : Nat → Int32} {ta : Nat → Int32} {tm : Nat} {so : Int32} {be : Int32} {te : Int32} {wo : Int64} {va : Int32} {gd : Int32} {bi : Nat → Int32} {si : Nat → Int32} {sh : Nat → Int64} {le : Nat → Int64} {im : Nat → Int32} {bf : Nat → Int32} {kp : Int32} (v : Int32) (i : Nat) (x : Int32) (hv : v = nI i) (hi : i < 12) : RunD 0 yX5_rests cX5_rests 4 none [.ref 0, .int v, .int 0, .int x] (mW (rowOf s) fo of tr b1 ta tm so be te wo va gd bi si sh le im bf kp) none (mW (rowOf (pLa s (upd (sLa s) i x))) fo of tr b1 ta tm so be te wo va gd bi si sh le im bf kp) := by subst hv; exact c_re_La s i x hi
theorem c_stv_Bo (s : St) {fo : Nat → Int32} {of : Int32} {tr : Nat → Int32} {b1 : Nat → Int32} {ta : Nat → Int32} {tm : Nat} {so : Int32} {be : Int32} {te : Int32} {wo : Int64} {va : Int32} {gd : Int32} {bi : Nat → Int32} {si : Nat → Int32} {sh : Nat → Int64} {le : Nat → Int64} {im : Nat → Int32} {bf : Nat → Int32} {kp : Int32} (v : Int32) (i : Nat) (hv : v = nI i) (hi : i < 12) : RunD 0 yX5_stands cX5_stands 3 (some .int) [.ref 0, .int v, .int 1] (mW (rowOf s) fo of tr b1 ta tm so be te wo va gd bi si sh le im bf kp) (some (.int (sBo s i))) (mW (rowOf s) fo of tr b1 ta tm so be te wo va gd bi si sh le im bf kp) := by subst hv; exact c_st_Bo s i hi
theorem c_rev_Bo (s : St) {fo : Nat → Int32} {of : Int32} {tr : Nat → Int32} {b1 : Nat → Int32} {ta : Nat → Int32} {tm : Nat} {so : Int32} {be : Int32} {te : Int32} {wo : Int64} {va : Int32} {gd : Int32} {bi : Nat → Int32} {si : Nat → Int32} {sh : Nat → Int64} {le : Nat → Int64} {im : Nat → Int32} {bf : Nat → Int32} {kp : Int32} (v : Int32) (i : Nat) (x : Int32) (hv : v = nI i) (hi : i < 12) : RunD 0 yX5_rests cX5_rests 4 none [.ref 0, .int v, .int 1, .int x] (mW (rowOf s) fo of tr b1 ta tm so be te wo va gd bi si sh le im bf kp) none (mW (rowOf (pBo s (upd (sBo s) i x))) fo of tr b1 ta tm so be te wo va gd bi si sh le im bf kp) := by subst hv; exact c_re_Bo s i x hi
theorem c_stv_Re (s : St) {fo : Nat → Int32} {of : Int32} {tr : Nat → Int32} {b1 : Nat → Int32} {ta : Nat → Int32} {tm : Nat} {so : Int32} {be : Int32} {te : Int32} {wo : Int64} {va : Int32} {gd : Int32} {bi : Nat → Int32} {si : Nat → Int32} {sh : Nat → Int64} {le : Nat → Int64} {im : Nat → Int32} {bf : Nat → Int32} {kp : Int32} (v : Int32) (i : Nat) (hv : v = nI i) (hi : i < 12) : RunD 0 yX5_stands cX5_stands 3 (some .int) [.ref 0, .int v, .int 2] (mW (rowOf s) fo of tr b1 ta tm so be te wo va gd bi si sh le im bf kp) (some (.int (sRe s i))) (mW (rowOf s) fo of tr b1 ta tm so be te wo va gd bi si sh le im bf kp) := by subst hv; exact c_st_Re s i hi
theorem c_rev_Re (s : St) {fo : Nat → Int32} {of : Int32} {tr : Nat → Int32} {b1 : Nat → Int32} {ta : Nat → Int32} {tm : Nat} {so : Int32} {be : Int32} {te : Int32} {wo : Int64} {va : Int32} {gd : Int32} {bi : Nat → Int32} {si : Nat → Int32} {sh : Nat → Int64} {le : Nat → Int64} {im : Nat → Int32} {bf : Nat → Int32} {kp : Int32} (v : Int32) (i : Nat) (x : Int32) (hv : v = nI i) (hi : i < 12) : RunD 0 yX5_rests cX5_rests 4 none [.ref 0, .int v, .int 2, .int x] (mW (rowOf s) fo of tr b1 ta tm so be te wo va gd bi si sh le im bf kp) none (mW (rowOf (pRe s (upd (sRe s) i x))) fo of tr b1 ta tm so be te wo va gd bi si sh le im bf kp) := by subst hv; exact c_re_Re s i x hi
theorem c_it_Ki (s : St) {fo : Nat → Int32} {of : Int32} {tr : Nat → Int32} {b1 : Nat → Int32} {ta : Nat → Int32} {tm : Nat} {so : Int32} {be : Int32} {te : Int32} {wo : Int64} {va : Int32} {gd : Int32} {bi : Nat → Int32} {si : Nat → Int32} {sh : Nat → Int64} {le : Nat → Int64} {im : Nat → Int32} {bf : Nat → Int32} {kp : Int32} (i : Nat) (hi : i < 8) : RunD 0 yX5_its cX5_its 3 (some .int) [.ref 0, .int (nI i), .int 0] (mW (rowOf s) fo of tr b1 ta tm so be te wo va gd bi si sh le im bf kp) (some (.int (sKi s i))) (mW (rowOf s) fo of tr b1 ta tm so be te wo va gd bi si sh le im bf kp) := by
  have h := c_X5_its (rowOf s) i 0 hi (by omega) (fo := fo) (of := of) (tr := tr) (b1 := b1) (ta := ta) (tm := tm) (so := so) (be := be) (te := te) (wo := wo) (va := va) (gd := gd) (bi := bi) (si := si) (sh := sh) (le := le) (im := im) (bf := bf) (kp := kp)
  rw [row_Ki s i] at h
  exact h
theorem c_pu_Ki (s : St) {fo : Nat → Int32} {of : Int32} {tr : Nat → Int32} {b1 : Nat → Int32} {ta : Nat → Int32} {tm : Nat} {so : Int32} {be : Int32} {te : Int32} {wo : Int64} {va : Int32} {gd : Int32} {bi : Nat → Int32} {si : Nat → Int32} {sh : Nat → Int64} {le : Nat → Int64} {im : Nat → Int32} {bf : Nat → Int32} {kp : Int32} (i : Nat) (v : Int32) (hi : i < 8) : RunD 0 yX5_puts cX5_puts 4 none [.ref 0, .int (nI i), .int 0, .int v] (mW (rowOf s) fo of tr b1 ta tm so be te wo va gd bi si sh le im bf kp) (none) (mW (rowOf (pKi s (upd (sKi s) i v))) fo of tr b1 ta tm so be te wo va gd bi si sh le im bf kp) := by
  have h := c_X5_puts (rowOf s) i 0 v hi (by omega) (fo := fo) (of := of) (tr := tr) (b1 := b1) (ta := ta) (tm := tm) (so := so) (be := be) (te := te) (wo := wo) (va := va) (gd := gd) (bi := bi) (si := si) (sh := sh) (le := le) (im := im) (bf := bf) (kp := kp)
  rw [rup_Ki s i] at h
  exact h
theorem c_it_At (s : St) {fo : Nat → Int32} {of : Int32} {tr : Nat → Int32} {b1 : Nat → Int32} {ta : Nat → Int32} {tm : Nat} {so : Int32} {be : Int32} {te : Int32} {wo : Int64} {va : Int32} {gd : Int32} {bi : Nat → Int32} {si : Nat → Int32} {sh : Nat → Int64} {le : Nat → Int64} {im : Nat → Int32} {bf : Nat → Int32} {kp : Int32} (i : Nat) (hi : i < 8) : RunD 0 yX5_its cX5_its 3 (some .int) [.ref 0, .int (nI i), .int 1] (mW (rowOf s) fo of tr b1 ta tm so be te wo va gd bi si sh le im bf kp) (some (.int (sAt s i))) (mW (rowOf s) fo of tr b1 ta tm so be te wo va gd bi si sh le im bf kp) := by
  have h := c_X5_its (rowOf s) i 1 hi (by omega) (fo := fo) (of := of) (tr := tr) (b1 := b1) (ta := ta) (tm := tm) (so := so) (be := be) (te := te) (wo := wo) (va := va) (gd := gd) (bi := bi) (si := si) (sh := sh) (le := le) (im := im) (bf := bf) (kp := kp)
  rw [row_At s i] at h
  exact h
theorem c_pu_At (s : St) {fo : Nat → Int32} {of : Int32} {tr : Nat → Int32} {b1 : Nat → Int32} {ta : Nat → Int32} {tm : Nat} {so : Int32} {be : Int32} {te : Int32} {wo : Int64} {va : Int32} {gd : Int32} {bi : Nat → Int32} {si : Nat → Int32} {sh : Nat → Int64} {le : Nat → Int64} {im : Nat → Int32} {bf : Nat → Int32} {kp : Int32} (i : Nat) (v : Int32) (hi : i < 8) : RunD 0 yX5_puts cX5_puts 4 none [.ref 0, .int (nI i), .int 1, .int v] (mW (rowOf s) fo of tr b1 ta tm so be te wo va gd bi si sh le im bf kp) (none) (mW (rowOf (pAt s (upd (sAt s) i v))) fo of tr b1 ta tm so be te wo va gd bi si sh le im bf kp) := by
  have h := c_X5_puts (rowOf s) i 1 v hi (by omega) (fo := fo) (of := of) (tr := tr) (b1 := b1) (ta := ta) (tm := tm) (so := so) (be := be) (te := te) (wo := wo) (va := va) (gd := gd) (bi := bi) (si := si) (sh := sh) (le := le) (im := im) (bf := bf) (kp := kp)
  rw [rup_At s i] at h
  exact h
theorem c_it_Fa (s : St) {fo : Nat → Int32} {of : Int32} {tr : Nat → Int32} {b1 : Nat → Int32} {ta : Nat → Int32} {tm : Nat} {so : Int32} {be : Int32} {te : Int32} {wo : Int64} {va : Int32} {gd : Int32} {bi : Nat → Int32} {si : Nat → Int32} {sh : Nat → Int64} {le : Nat → Int64} {im : Nat → Int32} {bf : Nat → Int32} {kp : Int32} (i : Nat) (hi : i < 8) : RunD 0 yX5_its cX5_its 3 (some .int) [.ref 0, .int (nI i), .int 2] (mW (rowOf s) fo of tr b1 ta tm so be te wo va gd bi si sh le im bf kp) (some (.int (sFa s i))) (mW (rowOf s) fo of tr b1 ta tm so be te wo va gd bi si sh le im bf kp) := by
  have h := c_X5_its (rowOf s) i 2 hi (by omega) (fo := fo) (of := of) (tr := tr) (b1 := b1) (ta := ta) (tm := tm) (so := so) (be := be) (te := te) (wo := wo) (va := va) (gd := gd) (bi := bi) (si := si) (sh := sh) (le := le) (im := im) (bf := bf) (kp := kp)
  rw [row_Fa s i] at h
  exact h
theorem c_pu_Fa (s : St) {fo : Nat → Int32} {of : Int32} {tr : Nat → Int32} {b1 : Nat → Int32} {ta : Nat → Int32} {tm : Nat} {so : Int32} {be : Int32} {te : Int32} {wo : Int64} {va : Int32} {gd : Int32} {bi : Nat → Int32} {si : Nat → Int32} {sh : Nat → Int64} {le : Nat → Int64} {im : Nat → Int32} {bf : Nat → Int32} {kp : Int32} (i : Nat) (v : Int32) (hi : i < 8) : RunD 0 yX5_puts cX5_puts 4 none [.ref 0, .int (nI i), .int 2, .int v] (mW (rowOf s) fo of tr b1 ta tm so be te wo va gd bi si sh le im bf kp) (none) (mW (rowOf (pFa s (upd (sFa s) i v))) fo of tr b1 ta tm so be te wo va gd bi si sh le im bf kp) := by
  have h := c_X5_puts (rowOf s) i 2 v hi (by omega) (fo := fo) (of := of) (tr := tr) (b1 := b1) (ta := ta) (tm := tm) (so := so) (be := be) (te := te) (wo := wo) (va := va) (gd := gd) (bi := bi) (si := si) (sh := sh) (le := le) (im := im) (bf := bf) (kp := kp)
  rw [rup_Fa s i] at h
  exact h
theorem c_it_Co (s : St) {fo : Nat → Int32} {of : Int32} {tr : Nat → Int32} {b1 : Nat → Int32} {ta : Nat → Int32} {tm : Nat} {so : Int32} {be : Int32} {te : Int32} {wo : Int64} {va : Int32} {gd : Int32} {bi : Nat → Int32} {si : Nat → Int32} {sh : Nat → Int64} {le : Nat → Int64} {im : Nat → Int32} {bf : Nat → Int32} {kp : Int32} (i : Nat) (hi : i < 8) : RunD 0 yX5_its cX5_its 3 (some .int) [.ref 0, .int (nI i), .int 3] (mW (rowOf s) fo of tr b1 ta tm so be te wo va gd bi si sh le im bf kp) (some (.int (sCo s i))) (mW (rowOf s) fo of tr b1 ta tm so be te wo va gd bi si sh le im bf kp) := by
  have h := c_X5_its (rowOf s) i 3 hi (by omega) (fo := fo) (of := of) (tr := tr) (b1 := b1) (ta := ta) (tm := tm) (so := so) (be := be) (te := te) (wo := wo) (va := va) (gd := gd) (bi := bi) (si := si) (sh := sh) (le := le) (im := im) (bf := bf) (kp := kp)
  rw [row_Co s i] at h
  exact h
theorem c_pu_Co (s : St) {fo : Nat → Int32} {of : Int32} {tr : Nat → Int32} {b1 : Nat → Int32} {ta : Nat → Int32} {tm : Nat} {so : Int32} {be : Int32} {te : Int32} {wo : Int64} {va : Int32} {gd : Int32} {bi : Nat → Int32} {si : Nat → Int32} {sh : Nat → Int64} {le : Nat → Int64} {im : Nat → Int32} {bf : Nat → Int32} {kp : Int32} (i : Nat) (v : Int32) (hi : i < 8) : RunD 0 yX5_puts cX5_puts 4 none [.ref 0, .int (nI i), .int 3, .int v] (mW (rowOf s) fo of tr b1 ta tm so be te wo va gd bi si sh le im bf kp) (none) (mW (rowOf (pCo s (upd (sCo s) i v))) fo of tr b1 ta tm so be te wo va gd bi si sh le im bf kp) := by
  have h := c_X5_puts (rowOf s) i 3 v hi (by omega) (fo := fo) (of := of) (tr := tr) (b1 := b1) (ta := ta) (tm := tm) (so := so) (be := be) (te := te) (wo := wo) (va := va) (gd := gd) (bi := bi) (si := si) (sh := sh) (le := le) (im := im) (bf := bf) (kp := kp)
  rw [rup_Co s i] at h
  exact h
theorem c_it_Ti (s : St) {fo : Nat → Int32} {of : Int32} {tr : Nat → Int32} {b1 : Nat → Int32} {ta : Nat → Int32} {tm : Nat} {so : Int32} {be : Int32} {te : Int32} {wo : Int64} {va : Int32} {gd : Int32} {bi : Nat → Int32} {si : Nat → Int32} {sh : Nat → Int64} {le : Nat → Int64} {im : Nat → Int32} {bf : Nat → Int32} {kp : Int32} (i : Nat) (hi : i < 8) : RunD 0 yX5_its cX5_its 3 (some .int) [.ref 0, .int (nI i), .int 4] (mW (rowOf s) fo of tr b1 ta tm so be te wo va gd bi si sh le im bf kp) (some (.int (sTi s i))) (mW (rowOf s) fo of tr b1 ta tm so be te wo va gd bi si sh le im bf kp) := by
  have h := c_X5_its (rowOf s) i 4 hi (by omega) (fo := fo) (of := of) (tr := tr) (b1 := b1) (ta := ta) (tm := tm) (so := so) (be := be) (te := te) (wo := wo) (va := va) (gd := gd) (bi := bi) (si := si) (sh := sh) (le := le) (im := im) (bf := bf) (kp := kp)
  rw [row_Ti s i] at h
  exact h
theorem c_pu_Ti (s : St) {fo : Nat → Int32} {of : Int32} {tr : Nat → Int32} {b1 : Nat → Int32} {ta : Nat → Int32} {tm : Nat} {so : Int32} {be : Int32} {te : Int32} {wo : Int64} {va : Int32} {gd : Int32} {bi : Nat → Int32} {si : Nat → Int32} {sh : Nat → Int64} {le : Nat → Int64} {im : Nat → Int32} {bf : Nat → Int32} {kp : Int32} (i : Nat) (v : Int32) (hi : i < 8) : RunD 0 yX5_puts cX5_puts 4 none [.ref 0, .int (nI i), .int 4, .int v] (mW (rowOf s) fo of tr b1 ta tm so be te wo va gd bi si sh le im bf kp) (none) (mW (rowOf (pTi s (upd (sTi s) i v))) fo of tr b1 ta tm so be te wo va gd bi si sh le im bf kp) := by
  have h := c_X5_puts (rowOf s) i 4 v hi (by omega) (fo := fo) (of := of) (tr := tr) (b1 := b1) (ta := ta) (tm := tm) (so := so) (be := be) (te := te) (wo := wo) (va := va) (gd := gd) (bi := bi) (si := si) (sh := sh) (le := le) (im := im) (bf := bf) (kp := kp)
  rw [rup_Ti s i] at h
  exact h
theorem c_it_Go (s : St) {fo : Nat → Int32} {of : Int32} {tr : Nat → Int32} {b1 : Nat → Int32} {ta : Nat → Int32} {tm : Nat} {so : Int32} {be : Int32} {te : Int32} {wo : Int64} {va : Int32} {gd : Int32} {bi : Nat → Int32} {si : Nat → Int32} {sh : Nat → Int64} {le : Nat → Int64} {im : Nat → Int32} {bf : Nat → Int32} {kp : Int32} (i : Nat) (hi : i < 8) : RunD 0 yX5_its cX5_its 3 (some .int) [.ref 0, .int (nI i), .int 5] (mW (rowOf s) fo of tr b1 ta tm so be te wo va gd bi si sh le im bf kp) (some (.int (sGo s i))) (mW (rowOf s) fo of tr b1 ta tm so be te wo va gd bi si sh le im bf kp) := by
  have h := c_X5_its (rowOf s) i 5 hi (by omega) (fo := fo) (of := of) (tr := tr) (b1 := b1) (ta := ta) (tm := tm) (so := so) (be := be) (te := te) (wo := wo) (va := va) (gd := gd) (bi := bi) (si := si) (sh := sh) (le := le) (im := im) (bf := bf) (kp := kp)
  rw [row_Go s i] at h
  exact h
theorem c_pu_Go (s : St) {fo : Nat → Int32} {of : Int32} {tr : Nat → Int32} {b1 : Nat → Int32} {ta : Nat → Int32} {tm : Nat} {so : Int32} {be : Int32} {te : Int32} {wo : Int64} {va : Int32} {gd : Int32} {bi : Nat → Int32} {si : Nat → Int32} {sh : Nat → Int64} {le : Nat → Int64} {im : Nat → Int32} {bf : Nat → Int32} {kp : Int32} (i : Nat) (v : Int32) (hi : i < 8) : RunD 0 yX5_puts cX5_puts 4 none [.ref 0, .int (nI i), .int 5, .int v] (mW (rowOf s) fo of tr b1 ta tm so be te wo va gd bi si sh le im bf kp) (none) (mW (rowOf (pGo s (upd (sGo s) i v))) fo of tr b1 ta tm so be te wo va gd bi si sh le im bf kp) := by
  have h := c_X5_puts (rowOf s) i 5 v hi (by omega) (fo := fo) (of := of) (tr := tr) (b1 := b1) (ta := ta) (tm := tm) (so := so) (be := be) (te := te) (wo := wo) (va := va) (gd := gd) (bi := bi) (si := si) (sh := sh) (le := le) (im := im) (bf := bf) (kp := kp)
  rw [rup_Go s i] at h
  exact h
set_option maxRecDepth 20000 in
set_option maxHeartbeats 2000000 in
theorem c_X5_isOne (s : St) {fo : Nat → Int32} {of : Int32} {tr : Nat → Int32} {b1 : Nat → Int32} {ta : Nat → Int32} {tm : Nat} {so : Int32} {be : Int32} {te : Int32} {wo : Int64} {va : Int32} {gd : Int32} {bi : Nat → Int32} {si : Nat → Int32} {sh : Nat → Int64} {le : Nat → Int64} {im : Nat → Int32} {bf : Nat → Int32} {kp : Int32} (v : Int32) (hn : sN s ≤ 8) : RunD 1 yX5_isOne cX5_isOne 2 (some .boolean) [.ref 0, .int v] (mW (rowOf s) fo of tr b1 ta tm so be te wo va gd bi si sh le im bf kp) (some (.int (bI (inR v 0 (sN s - 1))))) (mW (rowOf s) fo of tr b1 ta tm so be te wo va gd bi si sh le im bf kp) := by
  refine Runs.of (by decide) (Nat.le_of_ble_eq_true rfl) rfl ?_
  intro X g hret hnL
  refine v_iload_n (pc := 0) 1 g dX5_isOne_0 rfl rfl ?_
  refine v_iconst (pc := 1) (v := 0) g dX5_isOne_1 (by decide) ?_
  refine v_aload_n (pc := 2) 0 g dX5_isOne_2 rfl rfl ?_
  refine v_get (pc := 3) g dX5_isOne_3 fl_X5_7 rfl rfl ?_
  refine v_iconst (pc := 6) (v := 2) g dX5_isOne_6 (by decide) ?_
  refine v_ialdN (pc := 7) _ g dX5_isOne_7 rfl rfl (Nat.le_of_ble_eq_true rfl) (Nat.le_of_ble_eq_true rfl) ?_
  refine v_iconst (pc := 8) (v := 1) g dX5_isOne_8 (by decide) ?_
  refine v_isub (pc := 9) g dX5_isOne_9 ?_
  refine v_cSd (pc := 10) g dX5_isOne_10 lk_X5_45 ((c_X5_in _ _ _ 0 (sN s - 1) rfl (by show (nI (sN s) - nI 1).toInt = _; rw [pk_sub_toInt (by omega) (by omega)]; rfl)).any rfl rfl _) (Nat.le_of_ble_eq_true rfl) rfl rfl (Nat.le_of_ble_eq_true rfl) ?_
  exact v_zret (pc := 13) g hret dX5_isOne_13 (by first | exact nb1 | exact nb0 | exact nbI) (⟨rfl, rfl⟩)
set_option maxRecDepth 20000 in
set_option maxHeartbeats 2000000 in
theorem c_X5_setOf (r : Nat → Int32) {fo : Nat → Int32} {of : Int32} {tr : Nat → Int32} {b1 : Nat → Int32} {ta : Nat → Int32} {tm : Nat} {so : Int32} {be : Int32} {te : Int32} {wo : Int64} {va : Int32} {gd : Int32} {bi : Nat → Int32} {si : Nat → Int32} {sh : Nat → Int64} {le : Nat → Int64} {im : Nat → Int32} {bf : Nat → Int32} {kp : Int32} (m : Nat) (hm2 : m < 3) : RunD 1 yX5_setOf cX5_setOf 4 (some .int) [.ref 0, .int (nI m)] (mW r fo of tr b1 ta tm so be te wo va gd bi si sh le im bf kp) (some (.int (bitsN (fun h => decide (0 < r (3 + 3 * h + m))) (12)))) (mW r fo of tr b1 ta tm so be te wo va gd bi si sh le im bf kp) := by
  refine Runs.of (by decide) (Nat.le_of_ble_eq_true rfl) rfl ?_
  intro X g hret hnL
  refine v_iconst (pc := 0) (v := 0) g dX5_setOf_0 (by decide) ?_
  refine v_istore_n (pc := 1) 2 _ g dX5_setOf_1 rfl (Nat.le_of_ble_eq_true rfl) hnL.symm rfl ?_
  refine v_iconst (pc := 2) (v := 0) g dX5_setOf_2 (by decide) ?_
  refine v_istore_n (pc := 3) 3 _ g dX5_setOf_3 rfl (Nat.le_of_ble_eq_true rfl) hnL.symm rfl ?_
  have L4 : ∀ (fu : Nat) (k : Nat), k ≤ 12 → 12 - k < fu → V X 4 [some (.ref 0), some (.int (nI m)), some (.int (bitsN (fun h => decide (0 < r (3 + 3 * h + m))) (k))), some (.int (nI (k)))] [] (mW r fo of tr b1 ta tm so be te wo va gd bi si sh le im bf kp) := by
    intro fu
    induction fu with
    | zero => intro k hk hm; exact absurd hm (Nat.not_lt_zero _)
    | succ fu ih =>
      intro k hk hm
      refine v_iload_n (pc := 4) 3 g dX5_setOf_4 rfl rfl ?_
      refine v_bipush (pc := 5) (v := 12) g dX5_setOf_5 (by decide) ?_
      refine v_icmp_ge (pc := 7) 35 g dX5_setOf_7 rfl (fun c7 => ?_) (fun c7 => ?_)
      · have e7 : k = 12 := ge_t (n := 12) rfl hk (by omega) c7
        subst e7
        refine v_iload_n (pc := 35) 2 g dX5_setOf_35 rfl rfl ?_
        exact v_iret (pc := 36) g hret dX5_setOf_36 (⟨rfl, rfl⟩)
      · have e7 : k < 12 := ge_f (n := 12) rfl hk (by omega) c7
        refine v_iload_n (pc := 10) 2 g dX5_setOf_10 rfl rfl ?_
        refine v_aload_n (pc := 11) 0 g dX5_setOf_11 rfl rfl ?_
        refine v_iload_n (pc := 12) 3 g dX5_setOf_12 rfl rfl ?_
        refine v_iload_n (pc := 13) 1 g dX5_setOf_13 rfl rfl ?_
        refine v_cVd (pc := 14) g dX5_setOf_14 lk_X5_49 (c_X5_stands r k m (by omega) hm2) (Nat.le_of_ble_eq_true rfl) rfl rfl rfl rfl (Nat.le_of_ble_eq_true rfl) ?_
        refine v_if_le (pc := 17) 26 g dX5_setOf_17 rfl (fun c17 => ?_) (fun c17 => ?_)
        · refine v_iconst (pc := 26) (v := 0) g dX5_setOf_26 (by decide) ?_
          refine v_ior (pc := 27) g dX5_setOf_27 ?_
          try rw [Int32.or_zero]
          refine v_istore_n (pc := 28) 2 _ g dX5_setOf_28 rfl (Nat.le_of_ble_eq_true rfl) hnL.symm rfl ?_
          refine v_iincN (pc := 29) g dX5_setOf_29 rfl hnL.symm ?_
          refine v_goto (pc := 32) 4 g dX5_setOf_32 rfl ?_
          refine v_loE [some (.ref 0), some (.int (nI m)), some (.int (bitsN (fun h => decide (0 < r (3 + 3 * h + m))) (k + 1))), some (.int (nI (k + 1)))] (by first | (rw [bits_t (p := (fun h => decide (0 < r (3 + 3 * h + m)))) (decide_eq_true (Int32.not_le.mp c17))]; rfl) | (rw [bits_f (p := (fun h => decide (0 < r (3 + 3 * h + m)))) (decide_eq_false (Int32.not_lt.mpr c17))]; rfl)) ?_
          exact ih (k + 1) (by omega) (by omega)
        · refine v_iconst (pc := 20) (v := 1) g dX5_setOf_20 (by decide) ?_
          refine v_iload_n (pc := 21) 3 g dX5_setOf_21 rfl rfl ?_
          refine v_ishl (pc := 22) g dX5_setOf_22 ?_
          refine v_goto (pc := 23) 27 g dX5_setOf_23 rfl ?_
          refine v_ior (pc := 27) g dX5_setOf_27 ?_
          try rw [Int32.or_zero]
          refine v_istore_n (pc := 28) 2 _ g dX5_setOf_28 rfl (Nat.le_of_ble_eq_true rfl) hnL.symm rfl ?_
          refine v_iincN (pc := 29) g dX5_setOf_29 rfl hnL.symm ?_
          refine v_goto (pc := 32) 4 g dX5_setOf_32 rfl ?_
          refine v_loE [some (.ref 0), some (.int (nI m)), some (.int (bitsN (fun h => decide (0 < r (3 + 3 * h + m))) (k + 1))), some (.int (nI (k + 1)))] (by first | (rw [bits_t (p := (fun h => decide (0 < r (3 + 3 * h + m)))) (decide_eq_true (Int32.not_le.mp c17))]; rfl) | (rw [bits_f (p := (fun h => decide (0 < r (3 + 3 * h + m)))) (decide_eq_false (Int32.not_lt.mpr c17))]; rfl)) ?_
          exact ih (k + 1) (by omega) (by omega)
  exact L4 (12 + 1) 0 (Nat.zero_le _) (by omega)
theorem c_se_La (s : St) {fo : Nat → Int32} {of : Int32} {tr : Nat → Int32} {b1 : Nat → Int32} {ta : Nat → Int32} {tm : Nat} {so : Int32} {be : Int32} {te : Int32} {wo : Int64} {va : Int32} {gd : Int32} {bi : Nat → Int32} {si : Nat → Int32} {sh : Nat → Int64} {le : Nat → Int64} {im : Nat → Int32} {bf : Nat → Int32} {kp : Int32} : RunD 1 yX5_setOf cX5_setOf 4 (some .int) [.ref 0, .int 0] (mW (rowOf s) fo of tr b1 ta tm so be te wo va gd bi si sh le im bf kp) (some (.int (burning s))) (mW (rowOf s) fo of tr b1 ta tm so be te wo va gd bi si sh le im bf kp) := by
  have h := c_X5_setOf (rowOf s) 0 (by omega) (fo := fo) (of := of) (tr := tr) (b1 := b1) (ta := ta) (tm := tm) (so := so) (be := be) (te := te) (wo := wo) (va := va) (gd := gd) (bi := bi) (si := si) (sh := sh) (le := le) (im := im) (bf := bf) (kp := kp)
  rw [bits_cong (q := fBur s) (fun i hi => by rw [row_La s hi]; rfl)] at h
  exact h
theorem c_se_Bo (s : St) {fo : Nat → Int32} {of : Int32} {tr : Nat → Int32} {b1 : Nat → Int32} {ta : Nat → Int32} {tm : Nat} {so : Int32} {be : Int32} {te : Int32} {wo : Int64} {va : Int32} {gd : Int32} {bi : Nat → Int32} {si : Nat → Int32} {sh : Nat → Int64} {le : Nat → Int64} {im : Nat → Int32} {bf : Nat → Int32} {kp : Int32} (hI : Inv s) : RunD 1 yX5_setOf cX5_setOf 4 (some .int) [.ref 0, .int 1] (mW (rowOf s) fo of tr b1 ta tm so be te wo va gd bi si sh le im bf kp) (some (.int (openB s))) (mW (rowOf s) fo of tr b1 ta tm so be te wo va gd bi si sh le im bf kp) := by
  have h := c_X5_setOf (rowOf s) 1 (by omega) (fo := fo) (of := of) (tr := tr) (b1 := b1) (ta := ta) (tm := tm) (so := so) (be := be) (te := te) (wo := wo) (va := va) (gd := gd) (bi := bi) (si := si) (sh := sh) (le := le) (im := im) (bf := bf) (kp := kp)
  rw [bits_cong (q := fOpn s) (fun i hi => by
    rw [row_Bo s hi]
    obtain ⟨b, hb, eb⟩ := (hI.bo i).nat (m := 1) (by omega)
    unfold fOpn
    rw [eb]
    rcases (show b = 0 ∨ b = 1 by omega) with rfl | rfl <;> decide)] at h
  exact h
set_option maxRecDepth 20000 in
set_option maxHeartbeats 2000000 in
theorem c_X5_lampsMany (s : St) {fo : Nat → Int32} {of : Int32} {tr : Nat → Int32} {b1 : Nat → Int32} {ta : Nat → Int32} {tm : Nat} {so : Int32} {be : Int32} {te : Int32} {wo : Int64} {va : Int32} {gd : Int32} {bi : Nat → Int32} {si : Nat → Int32} {sh : Nat → Int64} {le : Nat → Int64} {im : Nat → Int32} {bf : Nat → Int32} {kp : Int32} : RunD 1 yX5_lampsMany cX5_lampsMany 3 (some .int) [.ref 0] (mW (rowOf s) fo of tr b1 ta tm so be te wo va gd bi si sh le im bf kp) (some (.int (lampsN s))) (mW (rowOf s) fo of tr b1 ta tm so be te wo va gd bi si sh le im bf kp) := by
  refine Runs.of (by decide) (Nat.le_of_ble_eq_true rfl) rfl ?_
  intro X g hret hnL
  refine v_iconst (pc := 0) (v := 0) g dX5_lampsMany_0 (by decide) ?_
  refine v_istore_n (pc := 1) 1 _ g dX5_lampsMany_1 rfl (Nat.le_of_ble_eq_true rfl) hnL.symm rfl ?_
  refine v_iconst (pc := 2) (v := 0) g dX5_lampsMany_2 (by decide) ?_
  refine v_istore_n (pc := 3) 2 _ g dX5_lampsMany_3 rfl (Nat.le_of_ble_eq_true rfl) hnL.symm rfl ?_
  have L4 : ∀ (fu : Nat) (k : Nat), k ≤ 12 → 12 - k < fu → V X 4 [some (.ref 0), some (.int (cntN (fBur s) (k))), some (.int (nI (k)))] [] (mW (rowOf s) fo of tr b1 ta tm so be te wo va gd bi si sh le im bf kp) := by
    intro fu
    induction fu with
    | zero => intro k hk hm; exact absurd hm (Nat.not_lt_zero _)
    | succ fu ih =>
      intro k hk hm
      refine v_iload_n (pc := 4) 2 g dX5_lampsMany_4 rfl rfl ?_
      refine v_bipush (pc := 5) (v := 12) g dX5_lampsMany_5 (by decide) ?_
      refine v_icmp_ge (pc := 7) 33 g dX5_lampsMany_7 rfl (fun c7 => ?_) (fun c7 => ?_)
      · have e7 : k = 12 := ge_t (n := 12) rfl hk (by omega) c7
        subst e7
        refine v_iload_n (pc := 33) 1 g dX5_lampsMany_33 rfl rfl ?_
        exact v_iret (pc := 34) g hret dX5_lampsMany_34 (⟨rfl, rfl⟩)
      · have e7 : k < 12 := ge_f (n := 12) rfl hk (by omega) c7
        refine v_iload_n (pc := 10) 1 g dX5_lampsMany_10 rfl rfl ?_
        refine v_aload_n (pc := 11) 0 g dX5_lampsMany_11 rfl rfl ?_
        refine v_iload_n (pc := 12) 2 g dX5_lampsMany_12 rfl rfl ?_
        refine v_iconst (pc := 13) (v := 0) g dX5_lampsMany_13 (by decide) ?_
        refine v_cVd (pc := 14) g dX5_lampsMany_14 lk_X5_49 (c_st_La s k (by omega)) (Nat.le_of_ble_eq_true rfl) rfl rfl rfl rfl (Nat.le_of_ble_eq_true rfl) ?_
        refine v_if_le (pc := 17) 24 g dX5_lampsMany_17 rfl (fun c17 => ?_) (fun c17 => ?_)
        · refine v_iconst (pc := 24) (v := 0) g dX5_lampsMany_24 (by decide) ?_
          refine v_iadd (pc := 25) g dX5_lampsMany_25 ?_
          try rw [Int32.add_zero]
          refine v_istore_n (pc := 26) 1 _ g dX5_lampsMany_26 rfl (Nat.le_of_ble_eq_true rfl) hnL.symm rfl ?_
          refine v_iincN (pc := 27) g dX5_lampsMany_27 rfl hnL.symm ?_
          refine v_goto (pc := 30) 4 g dX5_lampsMany_30 rfl ?_
          refine v_loE [some (.ref 0), some (.int (cntN (fBur s) (k + 1))), some (.int (nI (k + 1)))] (by first | (rw [cnt_t (p := fBur s) (decide_eq_true (Int32.not_le.mp c17))]; rfl) | (rw [cnt_f (p := fBur s) (decide_eq_false (Int32.not_lt.mpr c17))]; rfl)) ?_
          exact ih (k + 1) (by omega) (by omega)
        · refine v_iconst (pc := 20) (v := 1) g dX5_lampsMany_20 (by decide) ?_
          refine v_goto (pc := 21) 25 g dX5_lampsMany_21 rfl ?_
          refine v_iadd (pc := 25) g dX5_lampsMany_25 ?_
          try rw [Int32.add_zero]
          refine v_istore_n (pc := 26) 1 _ g dX5_lampsMany_26 rfl (Nat.le_of_ble_eq_true rfl) hnL.symm rfl ?_
          refine v_iincN (pc := 27) g dX5_lampsMany_27 rfl hnL.symm ?_
          refine v_goto (pc := 30) 4 g dX5_lampsMany_30 rfl ?_
          refine v_loE [some (.ref 0), some (.int (cntN (fBur s) (k + 1))), some (.int (nI (k + 1)))] (by first | (rw [cnt_t (p := fBur s) (decide_eq_true (Int32.not_le.mp c17))]; rfl) | (rw [cnt_f (p := fBur s) (decide_eq_false (Int32.not_lt.mpr c17))]; rfl)) ?_
          exact ih (k + 1) (by omega) (by omega)
  exact L4 (12 + 1) 0 (Nat.zero_le _) (by omega)
set_option maxRecDepth 20000 in
set_option maxHeartbeats 2000000 in
theorem c_X5_readOfAll (s : St) {fo : Nat → Int32} {of : Int32} {tr : Nat → Int32} {b1 : Nat → Int32} {ta : Nat → Int32} {tm : Nat} {so : Int32} {be : Int32} {te : Int32} {wo : Int64} {va : Int32} {gd : Int32} {bi : Nat → Int32} {si : Nat → Int32} {sh : Nat → Int64} {le : Nat → Int64} {im : Nat → Int32} {bf : Nat → Int32} {kp : Int32} : RunD 1 yX5_readOfAll cX5_readOfAll 3 (some .int) [.ref 0] (mW (rowOf s) fo of tr b1 ta tm so be te wo va gd bi si sh le im bf kp) (some (.int (readAll s))) (mW (rowOf s) fo of tr b1 ta tm so be te wo va gd bi si sh le im bf kp) := by
  refine Runs.of (by decide) (Nat.le_of_ble_eq_true rfl) rfl ?_
  intro X g hret hnL
  refine v_iconst (pc := 0) (v := 0) g dX5_readOfAll_0 (by decide) ?_
  refine v_istore_n (pc := 1) 1 _ g dX5_readOfAll_1 rfl (Nat.le_of_ble_eq_true rfl) hnL.symm rfl ?_
  refine v_iconst (pc := 2) (v := 0) g dX5_readOfAll_2 (by decide) ?_
  refine v_istore_n (pc := 3) 2 _ g dX5_readOfAll_3 rfl (Nat.le_of_ble_eq_true rfl) hnL.symm rfl ?_
  have L4 : ∀ (fu : Nat) (k : Nat), k ≤ 12 → 12 - k < fu → V X 4 [some (.ref 0), some (.int (sumN (sRe s) (k))), some (.int (nI (k)))] [] (mW (rowOf s) fo of tr b1 ta tm so be te wo va gd bi si sh le im bf kp) := by
    intro fu
    induction fu with
    | zero => intro k hk hm; exact absurd hm (Nat.not_lt_zero _)
    | succ fu ih =>
      intro k hk hm
      refine v_iload_n (pc := 4) 2 g dX5_readOfAll_4 rfl rfl ?_
      refine v_bipush (pc := 5) (v := 12) g dX5_readOfAll_5 (by decide) ?_
      refine v_icmp_ge (pc := 7) 25 g dX5_readOfAll_7 rfl (fun c7 => ?_) (fun c7 => ?_)
      · have e7 : k = 12 := ge_t (n := 12) rfl hk (by omega) c7
        subst e7
        refine v_iload_n (pc := 25) 1 g dX5_readOfAll_25 rfl rfl ?_
        exact v_iret (pc := 26) g hret dX5_readOfAll_26 (⟨rfl, rfl⟩)
      · have e7 : k < 12 := ge_f (n := 12) rfl hk (by omega) c7
        refine v_iload_n (pc := 10) 1 g dX5_readOfAll_10 rfl rfl ?_
        refine v_aload_n (pc := 11) 0 g dX5_readOfAll_11 rfl rfl ?_
        refine v_iload_n (pc := 12) 2 g dX5_readOfAll_12 rfl rfl ?_
        refine v_iconst (pc := 13) (v := 2) g dX5_readOfAll_13 (by decide) ?_
        refine v_cVd (pc := 14) g dX5_readOfAll_14 lk_X5_49 (c_st_Re s k (by omega)) (Nat.le_of_ble_eq_true rfl) rfl rfl rfl rfl (Nat.le_of_ble_eq_true rfl) ?_
        refine v_iadd (pc := 17) g dX5_readOfAll_17 ?_
        refine v_istore_n (pc := 18) 1 _ g dX5_readOfAll_18 rfl (Nat.le_of_ble_eq_true rfl) hnL.symm rfl ?_
        refine v_iincN (pc := 19) g dX5_readOfAll_19 rfl hnL.symm ?_
        refine v_goto (pc := 22) 4 g dX5_readOfAll_22 rfl ?_
        refine v_loE [some (.ref 0), some (.int (sumN (sRe s) (k + 1))), some (.int (nI (k + 1)))] rfl ?_
        exact ih (k + 1) (by omega) (by omega)
  exact L4 (12 + 1) 0 (Nat.zero_le _) (by omega)
set_option maxRecDepth 20000 in
set_option maxHeartbeats 2000000 in
theorem c_X5_tickles (s : St) {fo : Nat → Int32} {of : Int32} {tr : Nat → Int32} {b1 : Nat → Int32} {ta : Nat → Int32} {tm : Nat} {so : Int32} {be : Int32} {te : Int32} {wo : Int64} {va : Int32} {gd : Int32} {bi : Nat → Int32} {si : Nat → Int32} {sh : Nat → Int64} {le : Nat → Int64} {im : Nat → Int32} {bf : Nat → Int32} {kp : Int32} (i : Nat) (hI : Inv s) (hi : i < 8) : RunD 1 yX5_tickles cX5_tickles 3 (some .int) [.ref 0, .int (nI i)] (mW (rowOf s) fo of tr b1 ta tm so be te wo va gd bi si sh le im bf kp) (some (.int (tkl s i))) (mW (rowOf s) fo of tr b1 ta tm so be te wo va gd bi si sh le im bf kp) := by
  refine Runs.of (by decide) (Nat.le_of_ble_eq_true rfl) rfl ?_
  intro X g hret hnL
  refine v_aload_n (pc := 0) 0 g dX5_tickles_0 rfl rfl ?_
  refine v_iload_n (pc := 1) 1 g dX5_tickles_1 rfl rfl ?_
  refine v_iconst (pc := 2) (v := 3) g dX5_tickles_2 (by decide) ?_
  refine v_cVd (pc := 3) g dX5_tickles_3 lk_X5_53 (c_it_Co s i hi) (Nat.le_of_ble_eq_true rfl) rfl rfl rfl rfl (Nat.le_of_ble_eq_true rfl) ?_
  refine v_iconst (pc := 6) (v := 4) g dX5_tickles_6 (by decide) ?_
  refine v_idiv (pc := 7) g dX5_tickles_7 (by decide) ?_
  refine v_aload_n (pc := 8) 0 g dX5_tickles_8 rfl rfl ?_
  refine v_get (pc := 9) g dX5_tickles_9 fl_X5_7 rfl rfl ?_
  refine v_iconst (pc := 12) (v := 1) g dX5_tickles_12 (by decide) ?_
  refine v_ialdN (pc := 13) _ g dX5_tickles_13 rfl rfl (Nat.le_of_ble_eq_true rfl) (Nat.le_of_ble_eq_true rfl) ?_
  rw [row_Dr]
  refine v_isub (pc := 14) g dX5_tickles_14 ?_
  refine v_iconst (pc := 15) (v := 0) g dX5_tickles_15 (by decide) ?_
  refine v_bipush (pc := 16) (v := 99) g dX5_tickles_16 (by decide) ?_
  refine v_cSd (pc := 18) g dX5_tickles_18 lk_X5_56 ((c_X5_held _ _ _).any rfl rfl _) (Nat.le_of_ble_eq_true rfl) rfl rfl (Nat.le_of_ble_eq_true rfl) ?_
  rw [held_plain hI i]
  refine v_istore_n (pc := 21) 2 _ g dX5_tickles_21 rfl (Nat.le_of_ble_eq_true rfl) hnL.symm rfl ?_
  refine v_aload_n (pc := 22) 0 g dX5_tickles_22 rfl rfl ?_
  refine v_iload_n (pc := 23) 1 g dX5_tickles_23 rfl rfl ?_
  refine v_iconst (pc := 24) (v := 0) g dX5_tickles_24 (by decide) ?_
  refine v_cVd (pc := 25) g dX5_tickles_25 lk_X5_53 (c_it_Ki s i hi) (Nat.le_of_ble_eq_true rfl) rfl rfl rfl rfl (Nat.le_of_ble_eq_true rfl) ?_
  refine v_top (fun x28 e28 => ?_)
  by_cases t28_1 : x28.toInt = 1
  · refine v_tin (pc := 28) 1 64 g dX5_tickles_28 t28_1 (by decide) (by decide) rfl rfl ?_
    rw [e28] at t28_1
    refine v_iload_n (pc := 64) 2 g dX5_tickles_64 rfl rfl ?_
    refine v_iconst (pc := 65) (v := 2) g dX5_tickles_65 (by decide) ?_
    refine v_idiv (pc := 66) g dX5_tickles_66 (by decide) ?_
    exact v_iret (pc := 67) g hret dX5_tickles_67 (⟨so_i (by unfold tkl kSel; simp only [*, reduceIte, Int.reduceEq]; try rfl), rfl⟩)
  by_cases t28_2 : x28.toInt = 2
  · refine v_tin (pc := 28) 2 74 g dX5_tickles_28 t28_2 (by decide) (by decide) rfl rfl ?_
    rw [e28] at t28_2
    refine v_iload_n (pc := 74) 2 g dX5_tickles_74 rfl rfl ?_
    refine v_iconst (pc := 75) (v := 3) g dX5_tickles_75 (by decide) ?_
    refine v_iadd (pc := 76) g dX5_tickles_76 ?_
    exact v_iret (pc := 77) g hret dX5_tickles_77 (⟨so_i (by unfold tkl kSel; simp only [*, reduceIte, Int.reduceEq]; try rfl), rfl⟩)
  by_cases t28_3 : x28.toInt = 3
  · refine v_tin (pc := 28) 3 104 g dX5_tickles_28 t28_3 (by decide) (by decide) rfl rfl ?_
    rw [e28] at t28_3
    refine v_iconst (pc := 104) (v := 0) g dX5_tickles_104 (by decide) ?_
    exact v_iret (pc := 105) g hret dX5_tickles_105 (⟨so_i (by unfold tkl kSel; simp only [*, reduceIte, Int.reduceEq]; try rfl), rfl⟩)
  by_cases t28_4 : x28.toInt = 4
  · refine v_tin (pc := 28) 4 68 g dX5_tickles_28 t28_4 (by decide) (by decide) rfl rfl ?_
    rw [e28] at t28_4
    refine v_iload_n (pc := 68) 2 g dX5_tickles_68 rfl rfl ?_
    refine v_iconst (pc := 69) (v := 2) g dX5_tickles_69 (by decide) ?_
    refine v_idiv (pc := 70) g dX5_tickles_70 (by decide) ?_
    refine v_iconst (pc := 71) (v := 1) g dX5_tickles_71 (by decide) ?_
    refine v_iadd (pc := 72) g dX5_tickles_72 ?_
    exact v_iret (pc := 73) g hret dX5_tickles_73 (⟨so_i (by unfold tkl kSel; simp only [*, reduceIte, Int.reduceEq]; try rfl), rfl⟩)
  by_cases t28_5 : x28.toInt = 5
  · refine v_tin (pc := 28) 5 78 g dX5_tickles_28 t28_5 (by decide) (by decide) rfl rfl ?_
    rw [e28] at t28_5
    refine v_aload_n (pc := 78) 0 g dX5_tickles_78 rfl rfl ?_
    refine v_aload_n (pc := 79) 0 g dX5_tickles_79 rfl rfl ?_
    refine v_iload_n (pc := 80) 1 g dX5_tickles_80 rfl rfl ?_
    refine v_iconst (pc := 81) (v := 1) g dX5_tickles_81 (by decide) ?_
    refine v_cVd (pc := 82) g dX5_tickles_82 lk_X5_53 (c_it_At s i hi) (Nat.le_of_ble_eq_true rfl) rfl rfl rfl rfl (Nat.le_of_ble_eq_true rfl) ?_
    obtain ⟨ej, hj⟩ := (hI.at i).clamp (m := 11) (by omega)
    refine v_iconst (pc := 85) (v := 0) g dX5_tickles_85 (by decide) ?_
    refine v_cVd (pc := 86) g dX5_tickles_86 lk_X5_49 (c_stv_La s _ _ ej (by omega)) (Nat.le_of_ble_eq_true rfl) rfl rfl rfl rfl (Nat.le_of_ble_eq_true rfl) ?_
    clear ej
    refine v_if_le (pc := 89) 100 g dX5_tickles_89 rfl (fun c89 => ?_) (fun c89 => ?_)
    · have c89 := Int32.not_lt.mpr c89
      refine v_iload_n (pc := 100) 2 g dX5_tickles_100 rfl rfl ?_
      refine v_iconst (pc := 101) (v := 3) g dX5_tickles_101 (by decide) ?_
      refine v_iadd (pc := 102) g dX5_tickles_102 ?_
      exact v_iret (pc := 103) g hret dX5_tickles_103 (⟨so_i (by unfold tkl kSel; simp only [*, reduceIte, Int.reduceEq]; try rfl), rfl⟩)
    · have c89 := Int32.not_le.mp c89
      refine v_iconst (pc := 92) (v := 2) g dX5_tickles_92 (by decide) ?_
      refine v_iload_n (pc := 93) 2 g dX5_tickles_93 rfl rfl ?_
      refine v_iconst (pc := 94) (v := 3) g dX5_tickles_94 (by decide) ?_
      refine v_iadd (pc := 95) g dX5_tickles_95 ?_
      refine v_imul (pc := 96) g dX5_tickles_96 ?_
      refine v_goto (pc := 97) 103 g dX5_tickles_97 rfl ?_
      exact v_iret (pc := 103) g hret dX5_tickles_103 (⟨so_i (by unfold tkl kSel; simp only [*, reduceIte, Int.reduceEq]; try rfl), rfl⟩)
  refine v_tout (pc := 28) 106 g dX5_tickles_28 (by omega) rfl ?_
  rw [e28] at t28_1
  rw [e28] at t28_2
  rw [e28] at t28_3
  rw [e28] at t28_4
  rw [e28] at t28_5
  refine v_iload_n (pc := 106) 2 g dX5_tickles_106 rfl rfl ?_
  exact v_iret (pc := 107) g hret dX5_tickles_107 (⟨so_i (by unfold tkl kSel; simp only [*, reduceIte, Int.reduceEq]; try rfl), rfl⟩)
set_option maxRecDepth 20000 in
set_option maxHeartbeats 2000000 in
theorem c_X5_holds (s : St) {fo : Nat → Int32} {of : Int32} {tr : Nat → Int32} {b1 : Nat → Int32} {ta : Nat → Int32} {tm : Nat} {so : Int32} {be : Int32} {te : Int32} {wo : Int64} {va : Int32} {gd : Int32} {bi : Nat → Int32} {si : Nat → Int32} {sh : Nat → Int64} {le : Nat → Int64} {im : Nat → Int32} {bf : Nat → Int32} {kp : Int32} (i : Nat) (hi : i < 8) : RunD 2 yX5_holds cX5_holds 2 (some .int) [.ref 0, .int (nI i)] (mW (rowOf s) fo of tr b1 ta tm so be te wo va gd bi si sh le im bf kp) (some (.int (hld s i))) (mW (rowOf s) fo of tr b1 ta tm so be te wo va gd bi si sh le im bf kp) := by
  refine Runs.of (by decide) (Nat.le_of_ble_eq_true rfl) rfl ?_
  intro X g hret hnL
  refine v_aload_n (pc := 0) 0 g dX5_holds_0 rfl rfl ?_
  refine v_iload_n (pc := 1) 1 g dX5_holds_1 rfl rfl ?_
  refine v_iconst (pc := 2) (v := 0) g dX5_holds_2 (by decide) ?_
  refine v_cVd (pc := 3) g dX5_holds_3 lk_X5_53 (c_it_Ki s i hi) (Nat.le_of_ble_eq_true rfl) rfl rfl rfl rfl (Nat.le_of_ble_eq_true rfl) ?_
  refine v_top (fun x6 e6 => ?_)
  by_cases t6_1 : x6.toInt = 1
  · refine v_tin (pc := 6) 1 40 g dX5_holds_6 t6_1 (by decide) (by decide) rfl rfl ?_
    rw [e6] at t6_1
    refine v_bipush (pc := 40) (v := 90) g dX5_holds_40 (by decide) ?_
    exact v_iret (pc := 42) g hret dX5_holds_42 (⟨so_i (by unfold hld kSel; simp only [*, reduceIte, Int.reduceEq]; try rfl), rfl⟩)
  by_cases t6_2 : x6.toInt = 2
  · refine v_tin (pc := 6) 2 53 g dX5_holds_6 t6_2 (by decide) (by decide) rfl rfl ?_
    rw [e6] at t6_2
    refine v_bipush (pc := 53) (v := 20) g dX5_holds_53 (by decide) ?_
    exact v_iret (pc := 55) g hret dX5_holds_55 (⟨so_i (by unfold hld kSel; simp only [*, reduceIte, Int.reduceEq]; try rfl), rfl⟩)
  by_cases t6_3 : x6.toInt = 3
  · refine v_tin (pc := 6) 3 56 g dX5_holds_6 t6_3 (by decide) (by decide) rfl rfl ?_
    rw [e6] at t6_3
    refine v_bipush (pc := 56) (v := 99) g dX5_holds_56 (by decide) ?_
    exact v_iret (pc := 58) g hret dX5_holds_58 (⟨so_i (by unfold hld kSel; simp only [*, reduceIte, Int.reduceEq]; try rfl), rfl⟩)
  by_cases t6_4 : x6.toInt = 4
  · refine v_tin (pc := 6) 4 43 g dX5_holds_6 t6_4 (by decide) (by decide) rfl rfl ?_
    rw [e6] at t6_4
    refine v_bipush (pc := 43) (v := 90) g dX5_holds_43 (by decide) ?_
    refine v_iconst (pc := 45) (v := 5) g dX5_holds_45 (by decide) ?_
    refine v_aload_n (pc := 46) 0 g dX5_holds_46 rfl rfl ?_
    refine v_cVd (pc := 47) g dX5_holds_47 lk_X5_60 (c_X5_lampsMany s) (Nat.le_of_ble_eq_true rfl) rfl rfl rfl rfl (Nat.le_of_ble_eq_true rfl) ?_
    refine v_imul (pc := 50) g dX5_holds_50 ?_
    refine v_isub (pc := 51) g dX5_holds_51 ?_
    exact v_iret (pc := 52) g hret dX5_holds_52 (⟨so_i (by unfold hld kSel; simp only [*, reduceIte, Int.reduceEq]; try rfl), rfl⟩)
  by_cases t6_5 : x6.toInt = 5
  · refine v_tin (pc := 6) 5 53 g dX5_holds_6 t6_5 (by decide) (by decide) rfl rfl ?_
    rw [e6] at t6_5
    refine v_bipush (pc := 53) (v := 20) g dX5_holds_53 (by decide) ?_
    exact v_iret (pc := 55) g hret dX5_holds_55 (⟨so_i (by unfold hld kSel; simp only [*, reduceIte, Int.reduceEq]; try rfl), rfl⟩)
  refine v_tout (pc := 6) 59 g dX5_holds_6 (by omega) rfl ?_
  rw [e6] at t6_1
  rw [e6] at t6_2
  rw [e6] at t6_3
  rw [e6] at t6_4
  rw [e6] at t6_5
  refine v_bipush (pc := 59) (v := 30) g dX5_holds_59 (by decide) ?_
  exact v_iret (pc := 61) g hret dX5_holds_61 (⟨so_i (by unfold hld kSel; simp only [*, reduceIte, Int.reduceEq]; try rfl), rfl⟩)
set_option maxRecDepth 20000 in
set_option maxHeartbeats 2000000 in
theorem c_X5_blows (s : St) {fo : Nat → Int32} {of : Int32} {tr : Nat → Int32} {b1 : Nat → Int32} {ta : Nat → Int32} {tm : Nat} {so : Int32} {be : Int32} {te : Int32} {wo : Int64} {va : Int32} {gd : Int32} {bi : Nat → Int32} {si : Nat → Int32} {sh : Nat → Int64} {le : Nat → Int64} {im : Nat → Int32} {bf : Nat → Int32} {kp : Int32} (i : Nat) (hi : i < 8) : RunD 1 yX5_blows cX5_blows 3 (some .int) [.ref 0, .int (nI i)] (mW (rowOf s) fo of tr b1 ta tm so be te wo va gd bi si sh le im bf kp) (some (.int (blw s i))) (mW (rowOf s) fo of tr b1 ta tm so be te wo va gd bi si sh le im bf kp) := by
  refine Runs.of (by decide) (Nat.le_of_ble_eq_true rfl) rfl ?_
  intro X g hret hnL
  refine v_aload_n (pc := 0) 0 g dX5_blows_0 rfl rfl ?_
  refine v_iload_n (pc := 1) 1 g dX5_blows_1 rfl rfl ?_
  refine v_iconst (pc := 2) (v := 3) g dX5_blows_2 (by decide) ?_
  refine v_cVd (pc := 3) g dX5_blows_3 lk_X5_53 (c_it_Co s i hi) (Nat.le_of_ble_eq_true rfl) rfl rfl rfl rfl (Nat.le_of_ble_eq_true rfl) ?_
  refine v_istore_n (pc := 6) 2 _ g dX5_blows_6 rfl (Nat.le_of_ble_eq_true rfl) hnL.symm rfl ?_
  refine v_aload_n (pc := 7) 0 g dX5_blows_7 rfl rfl ?_
  refine v_iload_n (pc := 8) 1 g dX5_blows_8 rfl rfl ?_
  refine v_iconst (pc := 9) (v := 0) g dX5_blows_9 (by decide) ?_
  refine v_cVd (pc := 10) g dX5_blows_10 lk_X5_53 (c_it_Ki s i hi) (Nat.le_of_ble_eq_true rfl) rfl rfl rfl rfl (Nat.le_of_ble_eq_true rfl) ?_
  refine v_top (fun x13 e13 => ?_)
  by_cases t13_1 : x13.toInt = 1
  · refine v_tin (pc := 13) 1 48 g dX5_blows_13 t13_1 (by decide) (by decide) rfl rfl ?_
    rw [e13] at t13_1
    refine v_iconst (pc := 48) (v := 2) g dX5_blows_48 (by decide) ?_
    refine v_iconst (pc := 49) (v := 1) g dX5_blows_49 (by decide) ?_
    refine v_iload_n (pc := 50) 2 g dX5_blows_50 rfl rfl ?_
    refine v_bipush (pc := 51) (v := 25) g dX5_blows_51 (by decide) ?_
    refine v_idiv (pc := 53) g dX5_blows_53 (by decide) ?_
    refine v_iadd (pc := 54) g dX5_blows_54 ?_
    refine v_imul (pc := 55) g dX5_blows_55 ?_
    exact v_iret (pc := 56) g hret dX5_blows_56 (⟨so_i (by unfold blw kSel; simp only [*, reduceIte, Int.reduceEq]; try rfl), rfl⟩)
  by_cases t13_2 : x13.toInt = 2
  · refine v_tin (pc := 13) 2 68 g dX5_blows_13 t13_2 (by decide) (by decide) rfl rfl ?_
    rw [e13] at t13_2
    refine v_iconst (pc := 68) (v := 1) g dX5_blows_68 (by decide) ?_
    exact v_iret (pc := 69) g hret dX5_blows_69 (⟨so_i (by unfold blw kSel; simp only [*, reduceIte, Int.reduceEq]; try rfl), rfl⟩)
  by_cases t13_3 : x13.toInt = 3
  · refine v_tin (pc := 13) 3 77 g dX5_blows_13 t13_3 (by decide) (by decide) rfl rfl ?_
    rw [e13] at t13_3
    refine v_iconst (pc := 77) (v := 0) g dX5_blows_77 (by decide) ?_
    exact v_iret (pc := 78) g hret dX5_blows_78 (⟨so_i (by unfold blw kSel; simp only [*, reduceIte, Int.reduceEq]; try rfl), rfl⟩)
  by_cases t13_4 : x13.toInt = 4
  · refine v_tin (pc := 13) 4 57 g dX5_blows_13 t13_4 (by decide) (by decide) rfl rfl ?_
    rw [e13] at t13_4
    refine v_iconst (pc := 57) (v := 2) g dX5_blows_57 (by decide) ?_
    refine v_iconst (pc := 58) (v := 1) g dX5_blows_58 (by decide) ?_
    refine v_iload_n (pc := 59) 2 g dX5_blows_59 rfl rfl ?_
    refine v_bipush (pc := 60) (v := 25) g dX5_blows_60 (by decide) ?_
    refine v_idiv (pc := 62) g dX5_blows_62 (by decide) ?_
    refine v_iadd (pc := 63) g dX5_blows_63 ?_
    refine v_imul (pc := 64) g dX5_blows_64 ?_
    refine v_iconst (pc := 65) (v := 1) g dX5_blows_65 (by decide) ?_
    refine v_iadd (pc := 66) g dX5_blows_66 ?_
    exact v_iret (pc := 67) g hret dX5_blows_67 (⟨so_i (by unfold blw kSel; simp only [*, reduceIte, Int.reduceEq]; try rfl), rfl⟩)
  by_cases t13_5 : x13.toInt = 5
  · refine v_tin (pc := 13) 5 70 g dX5_blows_13 t13_5 (by decide) (by decide) rfl rfl ?_
    rw [e13] at t13_5
    refine v_iconst (pc := 70) (v := 1) g dX5_blows_70 (by decide) ?_
    refine v_iload_n (pc := 71) 2 g dX5_blows_71 rfl rfl ?_
    refine v_bipush (pc := 72) (v := 50) g dX5_blows_72 (by decide) ?_
    refine v_idiv (pc := 74) g dX5_blows_74 (by decide) ?_
    refine v_iadd (pc := 75) g dX5_blows_75 ?_
    exact v_iret (pc := 76) g hret dX5_blows_76 (⟨so_i (by unfold blw kSel; simp only [*, reduceIte, Int.reduceEq]; try rfl), rfl⟩)
  refine v_tout (pc := 13) 79 g dX5_blows_13 (by omega) rfl ?_
  rw [e13] at t13_1
  rw [e13] at t13_2
  rw [e13] at t13_3
  rw [e13] at t13_4
  rw [e13] at t13_5
  refine v_iconst (pc := 79) (v := 1) g dX5_blows_79 (by decide) ?_
  refine v_iload_n (pc := 80) 2 g dX5_blows_80 rfl rfl ?_
  refine v_bipush (pc := 81) (v := 25) g dX5_blows_81 (by decide) ?_
  refine v_idiv (pc := 83) g dX5_blows_83 (by decide) ?_
  refine v_iadd (pc := 84) g dX5_blows_84 ?_
  exact v_iret (pc := 85) g hret dX5_blows_85 (⟨so_i (by unfold blw kSel; simp only [*, reduceIte, Int.reduceEq]; try rfl), rfl⟩)
set_option maxRecDepth 20000 in
set_option maxHeartbeats 2000000 in
theorem c_X5_heals (s : St) {fo : Nat → Int32} {of : Int32} {tr : Nat → Int32} {b1 : Nat → Int32} {ta : Nat → Int32} {tm : Nat} {so : Int32} {be : Int32} {te : Int32} {wo : Int64} {va : Int32} {gd : Int32} {bi : Nat → Int32} {si : Nat → Int32} {sh : Nat → Int64} {le : Nat → Int64} {im : Nat → Int32} {bf : Nat → Int32} {kp : Int32} (i : Nat) (hi : i < 8) : RunD 1 yX5_heals cX5_heals 2 (some .int) [.ref 0, .int (nI i)] (mW (rowOf s) fo of tr b1 ta tm so be te wo va gd bi si sh le im bf kp) (some (.int (hea s i))) (mW (rowOf s) fo of tr b1 ta tm so be te wo va gd bi si sh le im bf kp) := by
  refine Runs.of (by decide) (Nat.le_of_ble_eq_true rfl) rfl ?_
  intro X g hret hnL
  refine v_aload_n (pc := 0) 0 g dX5_heals_0 rfl rfl ?_
  refine v_iload_n (pc := 1) 1 g dX5_heals_1 rfl rfl ?_
  refine v_iconst (pc := 2) (v := 0) g dX5_heals_2 (by decide) ?_
  refine v_cVd (pc := 3) g dX5_heals_3 lk_X5_53 (c_it_Ki s i hi) (Nat.le_of_ble_eq_true rfl) rfl rfl rfl rfl (Nat.le_of_ble_eq_true rfl) ?_
  refine v_top (fun x6 e6 => ?_)
  by_cases t6_1 : x6.toInt = 1
  · refine v_tin (pc := 6) 1 36 g dX5_heals_6 t6_1 (by decide) (by decide) rfl rfl ?_
    rw [e6] at t6_1
    refine v_iconst (pc := 36) (v := 0) g dX5_heals_36 (by decide) ?_
    exact v_iret (pc := 37) g hret dX5_heals_37 (⟨so_i (by unfold hea kSel; simp only [*, reduceIte, Int.reduceEq] <;> (try split) <;> rfl), rfl⟩)
  by_cases t6_2 : x6.toInt = 2
  · refine v_tin (pc := 6) 2 47 g dX5_heals_6 t6_2 (by decide) (by decide) rfl rfl ?_
    rw [e6] at t6_2
    refine v_iconst (pc := 47) (v := 2) g dX5_heals_47 (by decide) ?_
    exact v_iret (pc := 48) g hret dX5_heals_48 (⟨so_i (by unfold hea kSel; simp only [*, reduceIte, Int.reduceEq] <;> (try split) <;> rfl), rfl⟩)
  by_cases t6_3 : x6.toInt = 3
  · refine v_tin (pc := 6) 3 49 g dX5_heals_6 t6_3 (by decide) (by decide) rfl rfl ?_
    rw [e6] at t6_3
    refine v_bipush (pc := 49) (v := 9) g dX5_heals_49 (by decide) ?_
    exact v_iret (pc := 51) g hret dX5_heals_51 (⟨so_i (by unfold hea kSel; simp only [*, reduceIte, Int.reduceEq] <;> (try split) <;> rfl), rfl⟩)
  by_cases t6_4 : x6.toInt = 4
  · refine v_tin (pc := 6) 4 38 g dX5_heals_6 t6_4 (by decide) (by decide) rfl rfl ?_
    rw [e6] at t6_4
    refine v_aload_n (pc := 38) 0 g dX5_heals_38 rfl rfl ?_
    refine v_get (pc := 39) g dX5_heals_39 fl_X5_7 rfl rfl ?_
    refine v_iconst (pc := 42) (v := 1) g dX5_heals_42 (by decide) ?_
    refine v_ialdN (pc := 43) _ g dX5_heals_43 rfl rfl (Nat.le_of_ble_eq_true rfl) (Nat.le_of_ble_eq_true rfl) ?_
    rw [row_Dr]
    refine v_iconst (pc := 44) (v := 3) g dX5_heals_44 (by decide) ?_
    refine v_idiv (pc := 45) g dX5_heals_45 (by decide) ?_
    exact v_iret (pc := 46) g hret dX5_heals_46 (⟨so_i (by unfold hea kSel; simp only [*, reduceIte, Int.reduceEq] <;> (try split) <;> rfl), rfl⟩)
  refine v_tout (pc := 6) 52 g dX5_heals_6 (by omega) rfl ?_
  rw [e6] at t6_1
  rw [e6] at t6_2
  rw [e6] at t6_3
  rw [e6] at t6_4
  refine v_iconst (pc := 52) (v := 1) g dX5_heals_52 (by decide) ?_
  exact v_iret (pc := 53) g hret dX5_heals_53 (⟨so_i (by unfold hea kSel; simp only [*, reduceIte, Int.reduceEq] <;> (try split) <;> rfl), rfl⟩)
set_option maxRecDepth 20000 in
set_option maxHeartbeats 2000000 in
theorem c_X5_isDue (s : St) {fo : Nat → Int32} {of : Int32} {tr : Nat → Int32} {b1 : Nat → Int32} {ta : Nat → Int32} {tm : Nat} {so : Int32} {be : Int32} {te : Int32} {wo : Int64} {va : Int32} {gd : Int32} {bi : Nat → Int32} {si : Nat → Int32} {sh : Nat → Int64} {le : Nat → Int64} {im : Nat → Int32} {bf : Nat → Int32} {kp : Int32} (i : Nat) (hi : i < 8) : RunD 3 yX5_isDue cX5_isDue 2 (some .boolean) [.ref 0, .int (nI i)] (mW (rowOf s) fo of tr b1 ta tm so be te wo va gd bi si sh le im bf kp) (some (.int (bI (hld s i ≤ sTi s i)))) (mW (rowOf s) fo of tr b1 ta tm so be te wo va gd bi si sh le im bf kp) := by
  refine Runs.of (by decide) (Nat.le_of_ble_eq_true rfl) rfl ?_
  intro X g hret hnL
  refine v_aload_n (pc := 0) 0 g dX5_isDue_0 rfl rfl ?_
  refine v_iload_n (pc := 1) 1 g dX5_isDue_1 rfl rfl ?_
  refine v_iconst (pc := 2) (v := 4) g dX5_isDue_2 (by decide) ?_
  refine v_cVd (pc := 3) g dX5_isDue_3 lk_X5_53 (c_it_Ti s i hi) (Nat.le_of_ble_eq_true rfl) rfl rfl rfl rfl (Nat.le_of_ble_eq_true rfl) ?_
  refine v_aload_n (pc := 6) 0 g dX5_isDue_6 rfl rfl ?_
  refine v_iload_n (pc := 7) 1 g dX5_isDue_7 rfl rfl ?_
  refine v_cVd (pc := 8) g dX5_isDue_8 lk_X5_64 (c_X5_holds s i hi) (Nat.le_of_ble_eq_true rfl) rfl rfl rfl rfl (Nat.le_of_ble_eq_true rfl) ?_
  refine v_icmp_lt (pc := 11) 18 g dX5_isDue_11 rfl (fun c11 => ?_) (fun c11 => ?_)
  · refine v_iconst (pc := 18) (v := 0) g dX5_isDue_18 (by decide) ?_
    exact v_zret (pc := 19) g hret dX5_isDue_19 (by first | exact nb1 | exact nb0 | exact nbI) (by first | exact ⟨so1 (Int32.not_lt.mp c11), rfl⟩ | exact ⟨so0 (Int32.not_le.mpr c11), rfl⟩)
  · refine v_iconst (pc := 14) (v := 1) g dX5_isDue_14 (by decide) ?_
    refine v_goto (pc := 15) 19 g dX5_isDue_15 rfl ?_
    exact v_zret (pc := 19) g hret dX5_isDue_19 (by first | exact nb1 | exact nb0 | exact nbI) (by first | exact ⟨so1 (Int32.not_lt.mp c11), rfl⟩ | exact ⟨so0 (Int32.not_le.mpr c11), rfl⟩)
set_option maxRecDepth 20000 in
set_option maxHeartbeats 2000000 in
theorem c_X5_dueSet (s : St) {fo : Nat → Int32} {of : Int32} {tr : Nat → Int32} {b1 : Nat → Int32} {ta : Nat → Int32} {tm : Nat} {so : Int32} {be : Int32} {te : Int32} {wo : Int64} {va : Int32} {gd : Int32} {bi : Nat → Int32} {si : Nat → Int32} {sh : Nat → Int64} {le : Nat → Int64} {im : Nat → Int32} {bf : Nat → Int32} {kp : Int32} (hI : Inv s) : RunD 4 yX5_dueSet cX5_dueSet 3 (some .int) [.ref 0] (mW (rowOf s) fo of tr b1 ta tm so be te wo va gd bi si sh le im bf kp) (some (.int (dueN s))) (mW (rowOf s) fo of tr b1 ta tm so be te wo va gd bi si sh le im bf kp) := by
  refine Runs.of (by decide) (Nat.le_of_ble_eq_true rfl) rfl ?_
  intro X g hret hnL
  refine v_iconst (pc := 0) (v := 0) g dX5_dueSet_0 (by decide) ?_
  refine v_istore_n (pc := 1) 1 _ g dX5_dueSet_1 rfl (Nat.le_of_ble_eq_true rfl) hnL.symm rfl ?_
  refine v_iconst (pc := 2) (v := 0) g dX5_dueSet_2 (by decide) ?_
  refine v_istore_n (pc := 3) 2 _ g dX5_dueSet_3 rfl (Nat.le_of_ble_eq_true rfl) hnL.symm rfl ?_
  have L4 : ∀ (fu : Nat) (k : Nat), k ≤ sN s → sN s - k < fu → V X 4 [some (.ref 0), some (.int (bitsN (fDue s) (k))), some (.int (nI (k)))] [] (mW (rowOf s) fo of tr b1 ta tm so be te wo va gd bi si sh le im bf kp) := by
    intro fu
    induction fu with
    | zero => intro k hk hm; exact absurd hm (Nat.not_lt_zero _)
    | succ fu ih =>
      intro k hk hm
      refine v_iload_n (pc := 4) 2 g dX5_dueSet_4 rfl rfl ?_
      refine v_aload_n (pc := 5) 0 g dX5_dueSet_5 rfl rfl ?_
      refine v_get (pc := 6) g dX5_dueSet_6 fl_X5_7 rfl rfl ?_
      refine v_iconst (pc := 9) (v := 2) g dX5_dueSet_9 (by decide) ?_
      refine v_ialdN (pc := 10) _ g dX5_dueSet_10 rfl rfl (Nat.le_of_ble_eq_true rfl) (Nat.le_of_ble_eq_true rfl) ?_
      rw [row_N]
      refine v_icmp_ge (pc := 11) 38 g dX5_dueSet_11 rfl (fun c11 => ?_) (fun c11 => ?_)
      · have e11 : k = sN s := ge_t (n := sN s) rfl hk (by have := hI.n; omega) c11
        subst e11
        refine v_iload_n (pc := 38) 1 g dX5_dueSet_38 rfl rfl ?_
        exact v_iret (pc := 39) g hret dX5_dueSet_39 (⟨rfl, rfl⟩)
      · have e11 : k < sN s := ge_f (n := sN s) rfl hk (by have := hI.n; omega) c11
        refine v_iload_n (pc := 14) 1 g dX5_dueSet_14 rfl rfl ?_
        refine v_aload_n (pc := 15) 0 g dX5_dueSet_15 rfl rfl ?_
        refine v_iload_n (pc := 16) 2 g dX5_dueSet_16 rfl rfl ?_
        refine v_cVd (pc := 17) g dX5_dueSet_17 lk_X5_68 (c_X5_isDue s k (by have := hI.n; omega)) (Nat.le_of_ble_eq_true rfl) rfl rfl rfl rfl (Nat.le_of_ble_eq_true rfl) ?_
        refine v_ifb_eq (pc := 20) 29 g dX5_dueSet_20 rfl (fun c20 => ?_) (fun c20 => ?_)
        · refine v_iconst (pc := 29) (v := 0) g dX5_dueSet_29 (by decide) ?_
          refine v_ior (pc := 30) g dX5_dueSet_30 ?_
          try rw [Int32.or_zero]
          refine v_istore_n (pc := 31) 1 _ g dX5_dueSet_31 rfl (Nat.le_of_ble_eq_true rfl) hnL.symm rfl ?_
          refine v_iincN (pc := 32) g dX5_dueSet_32 rfl hnL.symm ?_
          refine v_goto (pc := 35) 4 g dX5_dueSet_35 rfl ?_
          refine v_loE [some (.ref 0), some (.int (bitsN (fDue s) (k + 1))), some (.int (nI (k + 1)))] (by first | (rw [bits_t (p := fDue s) (decide_eq_true c20)]; rfl) | (rw [bits_f (p := fDue s) (decide_eq_false c20)]; rfl)) ?_
          exact ih (k + 1) (by omega) (by omega)
        · refine v_iconst (pc := 23) (v := 1) g dX5_dueSet_23 (by decide) ?_
          refine v_iload_n (pc := 24) 2 g dX5_dueSet_24 rfl rfl ?_
          refine v_ishl (pc := 25) g dX5_dueSet_25 ?_
          refine v_goto (pc := 26) 30 g dX5_dueSet_26 rfl ?_
          refine v_ior (pc := 30) g dX5_dueSet_30 ?_
          try rw [Int32.or_zero]
          refine v_istore_n (pc := 31) 1 _ g dX5_dueSet_31 rfl (Nat.le_of_ble_eq_true rfl) hnL.symm rfl ?_
          refine v_iincN (pc := 32) g dX5_dueSet_32 rfl hnL.symm ?_
          refine v_goto (pc := 35) 4 g dX5_dueSet_35 rfl ?_
          refine v_loE [some (.ref 0), some (.int (bitsN (fDue s) (k + 1))), some (.int (nI (k + 1)))] (by first | (rw [bits_t (p := fDue s) (decide_eq_true c20)]; rfl) | (rw [bits_f (p := fDue s) (decide_eq_false c20)]; rfl)) ?_
          exact ih (k + 1) (by omega) (by omega)
  exact L4 (sN s + 1) 0 (Nat.zero_le _) (by omega)
set_option maxRecDepth 20000 in
set_option maxHeartbeats 2000000 in
theorem c_X5_sumOf (s : St) {fo : Nat → Int32} {of : Int32} {tr : Nat → Int32} {b1 : Nat → Int32} {ta : Nat → Int32} {tm : Nat} {so : Int32} {be : Int32} {te : Int32} {wo : Int64} {va : Int32} {gd : Int32} {bi : Nat → Int32} {si : Nat → Int32} {sh : Nat → Int64} {le : Nat → Int64} {im : Nat → Int32} {bf : Nat → Int32} {kp : Int32} (m : Nat) (hI : Inv s) (hm2 : m < 6) : RunD 1 yX5_sumOf cX5_sumOf 4 (some .int) [.ref 0, .int (nI m)] (mW (rowOf s) fo of tr b1 ta tm so be te wo va gd bi si sh le im bf kp) (some (.int (sumN (fun i => rowOf s (39 + 6 * i + m)) (sN s)))) (mW (rowOf s) fo of tr b1 ta tm so be te wo va gd bi si sh le im bf kp) := by
  refine Runs.of (by decide) (Nat.le_of_ble_eq_true rfl) rfl ?_
  intro X g hret hnL
  refine v_iconst (pc := 0) (v := 0) g dX5_sumOf_0 (by decide) ?_
  refine v_istore_n (pc := 1) 2 _ g dX5_sumOf_1 rfl (Nat.le_of_ble_eq_true rfl) hnL.symm rfl ?_
  refine v_iconst (pc := 2) (v := 0) g dX5_sumOf_2 (by decide) ?_
  refine v_istore_n (pc := 3) 3 _ g dX5_sumOf_3 rfl (Nat.le_of_ble_eq_true rfl) hnL.symm rfl ?_
  have L4 : ∀ (fu : Nat) (k : Nat), k ≤ sN s → sN s - k < fu → V X 4 [some (.ref 0), some (.int (nI m)), some (.int (sumN (fun i => rowOf s (39 + 6 * i + m)) (k))), some (.int (nI (k)))] [] (mW (rowOf s) fo of tr b1 ta tm so be te wo va gd bi si sh le im bf kp) := by
    intro fu
    induction fu with
    | zero => intro k hk hm; exact absurd hm (Nat.not_lt_zero _)
    | succ fu ih =>
      intro k hk hm
      refine v_iload_n (pc := 4) 3 g dX5_sumOf_4 rfl rfl ?_
      refine v_aload_n (pc := 5) 0 g dX5_sumOf_5 rfl rfl ?_
      refine v_get (pc := 6) g dX5_sumOf_6 fl_X5_7 rfl rfl ?_
      refine v_iconst (pc := 9) (v := 2) g dX5_sumOf_9 (by decide) ?_
      refine v_ialdN (pc := 10) _ g dX5_sumOf_10 rfl rfl (Nat.le_of_ble_eq_true rfl) (Nat.le_of_ble_eq_true rfl) ?_
      rw [row_N]
      refine v_icmp_ge (pc := 11) 29 g dX5_sumOf_11 rfl (fun c11 => ?_) (fun c11 => ?_)
      · have e11 : k = sN s := ge_t (n := sN s) rfl hk (by have := hI.n; omega) c11
        subst e11
        refine v_iload_n (pc := 29) 2 g dX5_sumOf_29 rfl rfl ?_
        exact v_iret (pc := 30) g hret dX5_sumOf_30 (⟨rfl, rfl⟩)
      · have e11 : k < sN s := ge_f (n := sN s) rfl hk (by have := hI.n; omega) c11
        refine v_iload_n (pc := 14) 2 g dX5_sumOf_14 rfl rfl ?_
        refine v_aload_n (pc := 15) 0 g dX5_sumOf_15 rfl rfl ?_
        refine v_iload_n (pc := 16) 3 g dX5_sumOf_16 rfl rfl ?_
        refine v_iload_n (pc := 17) 1 g dX5_sumOf_17 rfl rfl ?_
        refine v_cVd (pc := 18) g dX5_sumOf_18 lk_X5_53 (c_X5_its (rowOf s) k m (by have := hI.n; omega) hm2) (Nat.le_of_ble_eq_true rfl) rfl rfl rfl rfl (Nat.le_of_ble_eq_true rfl) ?_
        refine v_iadd (pc := 21) g dX5_sumOf_21 ?_
        refine v_istore_n (pc := 22) 2 _ g dX5_sumOf_22 rfl (Nat.le_of_ble_eq_true rfl) hnL.symm rfl ?_
        refine v_iincN (pc := 23) g dX5_sumOf_23 rfl hnL.symm ?_
        refine v_goto (pc := 26) 4 g dX5_sumOf_26 rfl ?_
        refine v_loE [some (.ref 0), some (.int (nI m)), some (.int (sumN (fun i => rowOf s (39 + 6 * i + m)) (k + 1))), some (.int (nI (k + 1)))] rfl ?_
        exact ih (k + 1) (by omega) (by omega)
  exact L4 (sN s + 1) 0 (Nat.zero_le _) (by omega)
theorem c_su_Co (s : St) {fo : Nat → Int32} {of : Int32} {tr : Nat → Int32} {b1 : Nat → Int32} {ta : Nat → Int32} {tm : Nat} {so : Int32} {be : Int32} {te : Int32} {wo : Int64} {va : Int32} {gd : Int32} {bi : Nat → Int32} {si : Nat → Int32} {sh : Nat → Int64} {le : Nat → Int64} {im : Nat → Int32} {bf : Nat → Int32} {kp : Int32} (hI : Inv s) : RunD 1 yX5_sumOf cX5_sumOf 4 (some .int) [.ref 0, .int 3] (mW (rowOf s) fo of tr b1 ta tm so be te wo va gd bi si sh le im bf kp) (some (.int (coldAll s))) (mW (rowOf s) fo of tr b1 ta tm so be te wo va gd bi si sh le im bf kp) := by
  have h := c_X5_sumOf s 3 hI (by omega) (fo := fo) (of := of) (tr := tr) (b1 := b1) (ta := ta) (tm := tm) (so := so) (be := be) (te := te) (wo := wo) (va := va) (gd := gd) (bi := bi) (si := si) (sh := sh) (le := le) (im := im) (bf := bf) (kp := kp)
  rw [show (fun i => rowOf s (39 + 6 * i + 3)) = sCo s from funext fun i => row_Co s i] at h
  exact h
theorem c_su_Go (s : St) {fo : Nat → Int32} {of : Int32} {tr : Nat → Int32} {b1 : Nat → Int32} {ta : Nat → Int32} {tm : Nat} {so : Int32} {be : Int32} {te : Int32} {wo : Int64} {va : Int32} {gd : Int32} {bi : Nat → Int32} {si : Nat → Int32} {sh : Nat → Int64} {le : Nat → Int64} {im : Nat → Int32} {bf : Nat → Int32} {kp : Int32} (hI : Inv s) : RunD 1 yX5_sumOf cX5_sumOf 4 (some .int) [.ref 0, .int 5] (mW (rowOf s) fo of tr b1 ta tm so be te wo va gd bi si sh le im bf kp) (some (.int (goneAll s))) (mW (rowOf s) fo of tr b1 ta tm so be te wo va gd bi si sh le im bf kp) := by
  have h := c_X5_sumOf s 5 hI (by omega) (fo := fo) (of := of) (tr := tr) (b1 := b1) (ta := ta) (tm := tm) (so := so) (be := be) (te := te) (wo := wo) (va := va) (gd := gd) (bi := bi) (si := si) (sh := sh) (le := le) (im := im) (bf := bf) (kp := kp)
  rw [show (fun i => rowOf s (39 + 6 * i + 5)) = sGo s from funext fun i => row_Go s i] at h
  exact h
set_option maxRecDepth 20000 in
set_option maxHeartbeats 2000000 in
theorem c_X5_peopleAt (s : St) {fo : Nat → Int32} {of : Int32} {tr : Nat → Int32} {b1 : Nat → Int32} {ta : Nat → Int32} {tm : Nat} {so : Int32} {be : Int32} {te : Int32} {wo : Int64} {va : Int32} {gd : Int32} {bi : Nat → Int32} {si : Nat → Int32} {sh : Nat → Int64} {le : Nat → Int64} {im : Nat → Int32} {bf : Nat → Int32} {kp : Int32} (h : Int32) (hI : Inv s) : RunD 1 yX5_peopleAt cX5_peopleAt 4 (some .int) [.ref 0, .int h] (mW (rowOf s) fo of tr b1 ta tm so be te wo va gd bi si sh le im bf kp) (some (.int (whoAt s h))) (mW (rowOf s) fo of tr b1 ta tm so be te wo va gd bi si sh le im bf kp) := by
  refine Runs.of (by decide) (Nat.le_of_ble_eq_true rfl) rfl ?_
  intro X g hret hnL
  refine v_iconst (pc := 0) (v := 0) g dX5_peopleAt_0 (by decide) ?_
  refine v_istore_n (pc := 1) 2 _ g dX5_peopleAt_1 rfl (Nat.le_of_ble_eq_true rfl) hnL.symm rfl ?_
  refine v_iconst (pc := 2) (v := 0) g dX5_peopleAt_2 (by decide) ?_
  refine v_istore_n (pc := 3) 3 _ g dX5_peopleAt_3 rfl (Nat.le_of_ble_eq_true rfl) hnL.symm rfl ?_
  have L4 : ∀ (fu : Nat) (k : Nat), k ≤ sN s → sN s - k < fu → V X 4 [some (.ref 0), some (.int h), some (.int (bitsN (fun i => decide (sAt s i = h)) (k))), some (.int (nI (k)))] [] (mW (rowOf s) fo of tr b1 ta tm so be te wo va gd bi si sh le im bf kp) := by
    intro fu
    induction fu with
    | zero => intro k hk hm; exact absurd hm (Nat.not_lt_zero _)
    | succ fu ih =>
      intro k hk hm
      refine v_iload_n (pc := 4) 3 g dX5_peopleAt_4 rfl rfl ?_
      refine v_aload_n (pc := 5) 0 g dX5_peopleAt_5 rfl rfl ?_
      refine v_get (pc := 6) g dX5_peopleAt_6 fl_X5_7 rfl rfl ?_
      refine v_iconst (pc := 9) (v := 2) g dX5_peopleAt_9 (by decide) ?_
      refine v_ialdN (pc := 10) _ g dX5_peopleAt_10 rfl rfl (Nat.le_of_ble_eq_true rfl) (Nat.le_of_ble_eq_true rfl) ?_
      rw [row_N]
      refine v_icmp_ge (pc := 11) 40 g dX5_peopleAt_11 rfl (fun c11 => ?_) (fun c11 => ?_)
      · have e11 : k = sN s := ge_t (n := sN s) rfl hk (by have := hI.n; omega) c11
        subst e11
        refine v_iload_n (pc := 40) 2 g dX5_peopleAt_40 rfl rfl ?_
        exact v_iret (pc := 41) g hret dX5_peopleAt_41 (⟨rfl, rfl⟩)
      · have e11 : k < sN s := ge_f (n := sN s) rfl hk (by have := hI.n; omega) c11
        refine v_iload_n (pc := 14) 2 g dX5_peopleAt_14 rfl rfl ?_
        refine v_aload_n (pc := 15) 0 g dX5_peopleAt_15 rfl rfl ?_
        refine v_iload_n (pc := 16) 3 g dX5_peopleAt_16 rfl rfl ?_
        refine v_iconst (pc := 17) (v := 1) g dX5_peopleAt_17 (by decide) ?_
        refine v_cVd (pc := 18) g dX5_peopleAt_18 lk_X5_53 (c_it_At s k (by have := hI.n; omega)) (Nat.le_of_ble_eq_true rfl) rfl rfl rfl rfl (Nat.le_of_ble_eq_true rfl) ?_
        refine v_iload_n (pc := 21) 1 g dX5_peopleAt_21 rfl rfl ?_
        refine v_icmp_ne (pc := 22) 31 g dX5_peopleAt_22 rfl (fun c22 => ?_) (fun c22 => ?_)
        · refine v_iconst (pc := 31) (v := 0) g dX5_peopleAt_31 (by decide) ?_
          refine v_ior (pc := 32) g dX5_peopleAt_32 ?_
          try rw [Int32.or_zero]
          refine v_istore_n (pc := 33) 2 _ g dX5_peopleAt_33 rfl (Nat.le_of_ble_eq_true rfl) hnL.symm rfl ?_
          refine v_iincN (pc := 34) g dX5_peopleAt_34 rfl hnL.symm ?_
          refine v_goto (pc := 37) 4 g dX5_peopleAt_37 rfl ?_
          refine v_loE [some (.ref 0), some (.int h), some (.int (bitsN (fun i => decide (sAt s i = h)) (k + 1))), some (.int (nI (k + 1)))] (by first | (rw [bits_t (p := (fun i => decide (sAt s i = h))) (decide_eq_true c22)]; rfl) | (rw [bits_f (p := (fun i => decide (sAt s i = h))) (decide_eq_false c22)]; rfl)) ?_
          exact ih (k + 1) (by omega) (by omega)
        · refine v_iconst (pc := 25) (v := 1) g dX5_peopleAt_25 (by decide) ?_
          refine v_iload_n (pc := 26) 3 g dX5_peopleAt_26 rfl rfl ?_
          refine v_ishl (pc := 27) g dX5_peopleAt_27 ?_
          refine v_goto (pc := 28) 32 g dX5_peopleAt_28 rfl ?_
          refine v_ior (pc := 32) g dX5_peopleAt_32 ?_
          try rw [Int32.or_zero]
          refine v_istore_n (pc := 33) 2 _ g dX5_peopleAt_33 rfl (Nat.le_of_ble_eq_true rfl) hnL.symm rfl ?_
          refine v_iincN (pc := 34) g dX5_peopleAt_34 rfl hnL.symm ?_
          refine v_goto (pc := 37) 4 g dX5_peopleAt_37 rfl ?_
          refine v_loE [some (.ref 0), some (.int h), some (.int (bitsN (fun i => decide (sAt s i = h)) (k + 1))), some (.int (nI (k + 1)))] (by first | (rw [bits_t (p := (fun i => decide (sAt s i = h))) (decide_eq_true c22)]; rfl) | (rw [bits_f (p := (fun i => decide (sAt s i = h))) (decide_eq_false c22)]; rfl)) ?_
          exact ih (k + 1) (by omega) (by omega)
  exact L4 (sN s + 1) 0 (Nat.zero_le _) (by omega)
set_option maxRecDepth 20000 in
set_option maxHeartbeats 2000000 in
theorem c_X5_adds (s : St) {fo : Nat → Int32} {of : Int32} {tr : Nat → Int32} {b1 : Nat → Int32} {ta : Nat → Int32} {tm : Nat} {so : Int32} {be : Int32} {te : Int32} {wo : Int64} {va : Int32} {gd : Int32} {bi : Nat → Int32} {si : Nat → Int32} {sh : Nat → Int64} {le : Nat → Int64} {im : Nat → Int32} {bf : Nat → Int32} {kp : Int32} (kd h f c t : Int32) (hn : sN s < 8) : RunD 1 yX5_adds cX5_adds 7 none [.ref 0, .int kd, .int h, .int f, .int c, .int t] (mW (rowOf s) fo of tr b1 ta tm so be te wo va gd bi si sh le im bf kp) (none) (mW (rowOf (addS s kd h f c t)) fo of tr b1 ta tm so be te wo va gd bi si sh le im bf kp) := by
  refine Runs.of (by decide) (Nat.le_of_ble_eq_true rfl) rfl ?_
  intro X g hret hnL
  refine v_aload_n (pc := 0) 0 g dX5_adds_0 rfl rfl ?_
  refine v_get (pc := 1) g dX5_adds_1 fl_X5_7 rfl rfl ?_
  refine v_iconst (pc := 4) (v := 2) g dX5_adds_4 (by decide) ?_
  refine v_ialdN (pc := 5) _ g dX5_adds_5 rfl rfl (Nat.le_of_ble_eq_true rfl) (Nat.le_of_ble_eq_true rfl) ?_
  rw [row_N]
  refine v_istore (pc := 6) _ g dX5_adds_6 (Nat.le_of_ble_eq_true rfl) hnL.symm rfl ?_
  refine v_aload_n (pc := 8) 0 g dX5_adds_8 rfl rfl ?_
  refine v_iload (pc := 9) g dX5_adds_9 rfl ?_
  refine v_iconst (pc := 11) (v := 0) g dX5_adds_11 (by decide) ?_
  refine v_iload_n (pc := 12) 1 g dX5_adds_12 rfl rfl ?_
  refine v_cVd (pc := 13) g dX5_adds_13 lk_X5_99 (c_pu_Ki s (sN s) kd hn) (Nat.le_of_ble_eq_true rfl) rfl rfl rfl rfl (Nat.le_of_ble_eq_true rfl) ?_
  refine v_aload_n (pc := 16) 0 g dX5_adds_16 rfl rfl ?_
  refine v_iload (pc := 17) g dX5_adds_17 rfl ?_
  refine v_iconst (pc := 19) (v := 1) g dX5_adds_19 (by decide) ?_
  refine v_iload_n (pc := 20) 2 g dX5_adds_20 rfl rfl ?_
  refine v_cVd (pc := 21) g dX5_adds_21 lk_X5_99 (c_pu_At _ (sN s) h hn) (Nat.le_of_ble_eq_true rfl) rfl rfl rfl rfl (Nat.le_of_ble_eq_true rfl) ?_
  refine v_aload_n (pc := 24) 0 g dX5_adds_24 rfl rfl ?_
  refine v_iload (pc := 25) g dX5_adds_25 rfl ?_
  refine v_iconst (pc := 27) (v := 2) g dX5_adds_27 (by decide) ?_
  refine v_iload_n (pc := 28) 3 g dX5_adds_28 rfl rfl ?_
  refine v_cVd (pc := 29) g dX5_adds_29 lk_X5_99 (c_pu_Fa _ (sN s) f hn) (Nat.le_of_ble_eq_true rfl) rfl rfl rfl rfl (Nat.le_of_ble_eq_true rfl) ?_
  refine v_aload_n (pc := 32) 0 g dX5_adds_32 rfl rfl ?_
  refine v_iload (pc := 33) g dX5_adds_33 rfl ?_
  refine v_iconst (pc := 35) (v := 3) g dX5_adds_35 (by decide) ?_
  refine v_iload (pc := 36) g dX5_adds_36 rfl ?_
  refine v_cVd (pc := 38) g dX5_adds_38 lk_X5_99 (c_pu_Co _ (sN s) c hn) (Nat.le_of_ble_eq_true rfl) rfl rfl rfl rfl (Nat.le_of_ble_eq_true rfl) ?_
  refine v_aload_n (pc := 41) 0 g dX5_adds_41 rfl rfl ?_
  refine v_iload (pc := 42) g dX5_adds_42 rfl ?_
  refine v_iconst (pc := 44) (v := 4) g dX5_adds_44 (by decide) ?_
  refine v_iload (pc := 45) g dX5_adds_45 rfl ?_
  refine v_cVd (pc := 47) g dX5_adds_47 lk_X5_99 (c_pu_Ti _ (sN s) t hn) (Nat.le_of_ble_eq_true rfl) rfl rfl rfl rfl (Nat.le_of_ble_eq_true rfl) ?_
  refine v_aload_n (pc := 50) 0 g dX5_adds_50 rfl rfl ?_
  refine v_iload (pc := 51) g dX5_adds_51 rfl ?_
  refine v_iconst (pc := 53) (v := 5) g dX5_adds_53 (by decide) ?_
  refine v_iconst (pc := 54) (v := 0) g dX5_adds_54 (by decide) ?_
  refine v_cVd (pc := 55) g dX5_adds_55 lk_X5_99 (c_pu_Go _ (sN s) 0 hn) (Nat.le_of_ble_eq_true rfl) rfl rfl rfl rfl (Nat.le_of_ble_eq_true rfl) ?_
  refine v_aload_n (pc := 58) 0 g dX5_adds_58 rfl rfl ?_
  refine v_get (pc := 59) g dX5_adds_59 fl_X5_7 rfl rfl ?_
  refine v_iconst (pc := 62) (v := 2) g dX5_adds_62 (by decide) ?_
  refine v_dup2 (pc := 63) g dX5_adds_63 rfl rfl ?_
  refine v_ialdN (pc := 64) _ g dX5_adds_64 rfl rfl (Nat.le_of_ble_eq_true rfl) (Nat.le_of_ble_eq_true rfl) ?_
  rw [row_N]
  refine v_iconst (pc := 65) (v := 1) g dX5_adds_65 (by decide) ?_
  refine v_iadd (pc := 66) g dX5_adds_66 ?_
  rw [nI_1]
  refine v_iastN (pc := 67) _ _ g dX5_adds_67 rfl rfl (Nat.le_of_ble_eq_true rfl) (Nat.le_of_ble_eq_true rfl) rfl ?_
  refine v_w (mW (rowOf (addS s kd h f c t)) fo of tr b1 ta tm so be te wo va gd bi si sh le im bf kp) (congrArg (fun z => mW z fo of tr b1 ta tm so be te wo va gd bi si sh le im bf kp) (rup_N _ _)) ?_
  exact v_vret (pc := 68) g hret dX5_adds_68 (⟨rfl, rfl⟩)
set_option maxRecDepth 20000 in
set_option maxHeartbeats 2000000 in
theorem c_X5_burns (s : St) {fo : Nat → Int32} {of : Int32} {tr : Nat → Int32} {b1 : Nat → Int32} {ta : Nat → Int32} {tm : Nat} {so : Int32} {be : Int32} {te : Int32} {wo : Int64} {va : Int32} {gd : Int32} {bi : Nat → Int32} {si : Nat → Int32} {sh : Nat → Int64} {le : Nat → Int64} {im : Nat → Int32} {bf : Nat → Int32} {kp : Int32} (i : Nat) (hI : Inv s) (hi : i < 12) : RunD 1 yX5_burns cX5_burns 2 none [.ref 0, .int (nI i)] (mW (rowOf s) fo of tr b1 ta tm so be te wo va gd bi si sh le im bf kp) (none) (mW (rowOf (burn1 s i)) fo of tr b1 ta tm so be te wo va gd bi si sh le im bf kp) := by
  refine Runs.of (by decide) (Nat.le_of_ble_eq_true rfl) rfl ?_
  intro X g hret hnL
  refine v_aload_n (pc := 0) 0 g dX5_burns_0 rfl rfl ?_
  refine v_iload_n (pc := 1) 1 g dX5_burns_1 rfl rfl ?_
  refine v_iconst (pc := 2) (v := 0) g dX5_burns_2 (by decide) ?_
  refine v_cVd (pc := 3) g dX5_burns_3 lk_X5_49 (c_st_La s i hi) (Nat.le_of_ble_eq_true rfl) rfl rfl rfl rfl (Nat.le_of_ble_eq_true rfl) ?_
  refine v_if_le (pc := 6) 44 g dX5_burns_6 rfl (fun c6 => ?_) (fun c6 => ?_)
  · exact v_vret (pc := 44) g hret dX5_burns_44 (⟨rfl, by first | (rw [burn1, if_pos (Int32.not_le.mp c6)]; rfl) | (rw [burn1, if_neg (Int32.not_lt.mpr c6)])⟩)
  · refine v_aload_n (pc := 9) 0 g dX5_burns_9 rfl rfl ?_
    refine v_iload_n (pc := 10) 1 g dX5_burns_10 rfl rfl ?_
    refine v_iconst (pc := 11) (v := 2) g dX5_burns_11 (by decide) ?_
    refine v_aload_n (pc := 12) 0 g dX5_burns_12 rfl rfl ?_
    refine v_iload_n (pc := 13) 1 g dX5_burns_13 rfl rfl ?_
    refine v_iconst (pc := 14) (v := 2) g dX5_burns_14 (by decide) ?_
    refine v_cVd (pc := 15) g dX5_burns_15 lk_X5_49 (c_st_Re s i hi) (Nat.le_of_ble_eq_true rfl) rfl rfl rfl rfl (Nat.le_of_ble_eq_true rfl) ?_
    refine v_iconst (pc := 18) (v := 1) g dX5_burns_18 (by decide) ?_
    refine v_iadd (pc := 19) g dX5_burns_19 ?_
    refine v_iconst (pc := 20) (v := 0) g dX5_burns_20 (by decide) ?_
    refine v_sipush (pc := 21) (v := 9999) g dX5_burns_21 (by decide) ?_
    refine v_cSd (pc := 24) g dX5_burns_24 lk_X5_56 ((c_X5_held _ _ _).any rfl rfl _) (Nat.le_of_ble_eq_true rfl) rfl rfl (Nat.le_of_ble_eq_true rfl) ?_
    rw [held_re hI i]
    refine v_cVd (pc := 27) g dX5_burns_27 lk_X5_128 (c_re_Re s i _ hi) (Nat.le_of_ble_eq_true rfl) rfl rfl rfl rfl (Nat.le_of_ble_eq_true rfl) ?_
    refine v_aload_n (pc := 30) 0 g dX5_burns_30 rfl rfl ?_
    refine v_iload_n (pc := 31) 1 g dX5_burns_31 rfl rfl ?_
    refine v_iconst (pc := 32) (v := 0) g dX5_burns_32 (by decide) ?_
    refine v_aload_n (pc := 33) 0 g dX5_burns_33 rfl rfl ?_
    refine v_iload_n (pc := 34) 1 g dX5_burns_34 rfl rfl ?_
    refine v_iconst (pc := 35) (v := 0) g dX5_burns_35 (by decide) ?_
    refine v_cVd (pc := 36) g dX5_burns_36 lk_X5_49 (c_st_La _ i hi) (Nat.le_of_ble_eq_true rfl) rfl rfl rfl rfl (Nat.le_of_ble_eq_true rfl) ?_
    refine v_iconst (pc := 39) (v := 1) g dX5_burns_39 (by decide) ?_
    refine v_isub (pc := 40) g dX5_burns_40 ?_
    refine v_cVd (pc := 41) g dX5_burns_41 lk_X5_128 (c_re_La _ i _ hi) (Nat.le_of_ble_eq_true rfl) rfl rfl rfl rfl (Nat.le_of_ble_eq_true rfl) ?_
    exact v_vret (pc := 44) g hret dX5_burns_44 (⟨rfl, by first | (rw [burn1, if_pos (Int32.not_le.mp c6)]; rfl) | (rw [burn1, if_neg (Int32.not_lt.mpr c6)])⟩)
set_option maxRecDepth 20000 in
set_option maxHeartbeats 2000000 in
theorem c_X5_lights (s : St) {fo : Nat → Int32} {of : Int32} {tr : Nat → Int32} {b1 : Nat → Int32} {ta : Nat → Int32} {tm : Nat} {so : Int32} {be : Int32} {te : Int32} {wo : Int64} {va : Int32} {gd : Int32} {bi : Nat → Int32} {si : Nat → Int32} {sh : Nat → Int64} {le : Nat → Int64} {im : Nat → Int32} {bf : Nat → Int32} {kp : Int32} (i : Nat) (hI : Inv s) (hi : i < 8) : RunD 2 yX5_lights cX5_lights 6 none [.ref 0, .int (nI i)] (mW (rowOf s) fo of tr b1 ta tm so be te wo va gd bi si sh le im bf kp) (none) (mW (rowOf (lights s i)) fo of tr b1 ta tm so be te wo va gd bi si sh le im bf kp) := by
  refine Runs.of (by decide) (Nat.le_of_ble_eq_true rfl) rfl ?_
  intro X g hret hnL
  obtain ⟨B, hB, eB⟩ := blw_nat hI i
  have eB2 : (blw s i).toNatClampNeg = B := by rw [eB, nI_clamp (by omega)]
  have J15 : V X 15 (eL 6 [.ref 0, .int (nI i)]) [.int (stepF s i)] (mW (rowOf s) fo of tr b1 ta tm so be te wo va gd bi si sh le im bf kp) := by
    refine v_istore_n (pc := 15) 2 _ g dX5_lights_15 rfl (Nat.le_of_ble_eq_true rfl) hnL.symm rfl ?_
    refine v_iconst (pc := 16) (v := 5) g dX5_lights_16 (by decide) ?_
    refine v_aload_n (pc := 17) 0 g dX5_lights_17 rfl rfl ?_
    refine v_iload_n (pc := 18) 1 g dX5_lights_18 rfl rfl ?_
    refine v_iconst (pc := 19) (v := 3) g dX5_lights_19 (by decide) ?_
    refine v_cVd (pc := 20) g dX5_lights_20 lk_X5_53 (c_it_Co s i hi) (Nat.le_of_ble_eq_true rfl) rfl rfl rfl rfl (Nat.le_of_ble_eq_true rfl) ?_
    refine v_bipush (pc := 23) (v := 10) g dX5_lights_23 (by decide) ?_
    refine v_idiv (pc := 25) g dX5_lights_25 (by decide) ?_
    refine v_iadd (pc := 26) g dX5_lights_26 ?_
    refine v_istore_n (pc := 27) 3 _ g dX5_lights_27 rfl (Nat.le_of_ble_eq_true rfl) hnL.symm rfl ?_
    refine v_aload_n (pc := 28) 0 g dX5_lights_28 rfl rfl ?_
    refine v_iload_n (pc := 29) 1 g dX5_lights_29 rfl rfl ?_
    refine v_iconst (pc := 30) (v := 1) g dX5_lights_30 (by decide) ?_
    refine v_cVd (pc := 31) g dX5_lights_31 lk_X5_53 (c_it_At s i hi) (Nat.le_of_ble_eq_true rfl) rfl rfl rfl rfl (Nat.le_of_ble_eq_true rfl) ?_
    refine v_istore (pc := 34) _ g dX5_lights_34 (Nat.le_of_ble_eq_true rfl) hnL.symm rfl ?_
    refine v_aload_n (pc := 36) 0 g dX5_lights_36 rfl rfl ?_
    refine v_iload_n (pc := 37) 1 g dX5_lights_37 rfl rfl ?_
    refine v_cVd (pc := 38) g dX5_lights_38 lk_X5_117 (c_X5_blows s i hi) (Nat.le_of_ble_eq_true rfl) rfl rfl rfl rfl (Nat.le_of_ble_eq_true rfl) ?_
    rw [eB]
    refine v_istore (pc := 41) _ g dX5_lights_41 (Nat.le_of_ble_eq_true rfl) hnL.symm rfl ?_
    have L43 : ∀ (fu : Nat) (j k : Nat), j + k = B → j < fu → V X 43 [some (.ref 0), some (.int (nI i)), some (.int (stepF s i)), some (.int (5 + sCo s i / 10)), some (.int (sAt s i + nI k * stepF s i)), some (.int (nI j))] [] (mW (rowOf (lgtN s (sAt s i) (stepF s i) (5 + sCo s i / 10) k)) fo of tr b1 ta tm so be te wo va gd bi si sh le im bf kp) := by
      intro fu
      induction fu with
      | zero => intro j k hk hm; exact absurd hm (Nat.not_lt_zero _)
      | succ fu ih =>
        intro j k hk hm
        refine v_iload (pc := 43) g dX5_lights_43 rfl ?_
        refine v_if_le (pc := 45) 98 g dX5_lights_45 rfl (fun c45 => ?_) (fun c45 => ?_)
        · have e45 : j = 0 := by have := (nI_leI (a := j) (b := 0) (by omega) (by omega)).mp c45; omega
          subst e45
          have e46 : k = B := by omega
          subst e46
          exact v_vret (pc := 98) g hret dX5_lights_98 (⟨rfl, by unfold lights; rw [eB2]⟩)
        · have e45 : 0 < j := by have := Nat.not_le.mp (fun z => c45 ((nI_leI (a := j) (b := 0) (by omega) (by omega)).mpr z)); omega
          obtain ⟨j, rfl⟩ : ∃ z, j = z + 1 := ⟨j - 1, by omega⟩
          refine v_iload (pc := 48) g dX5_lights_48 rfl ?_
          refine v_iload_n (pc := 50) 2 g dX5_lights_50 rfl rfl ?_
          refine v_iadd (pc := 51) g dX5_lights_51 ?_
          rw [show sAt s i + nI k * stepF s i + stepF s i = sAt s i + nI (k + 1) * stepF s i by rw [nI_succ, Int32.add_mul, Int32.one_mul, Int32.add_assoc]]
          refine v_istore (pc := 52) _ g dX5_lights_52 (Nat.le_of_ble_eq_true rfl) hnL.symm rfl ?_
          refine v_iload (pc := 54) g dX5_lights_54 rfl ?_
          refine v_cSd (pc := 56) g dX5_lights_56 lk_X5_72 ((c_X5_isHouse _).any rfl rfl _) (Nat.le_of_ble_eq_true rfl) rfl rfl (Nat.le_of_ble_eq_true rfl) ?_
          refine v_ifb_eq (pc := 59) 92 g dX5_lights_59 rfl (fun c59 => ?_) (fun c59 => ?_)
          · refine v_iincD (pc := 92) g dX5_lights_92 rfl hnL.symm ?_
            refine v_goto (pc := 95) 43 g dX5_lights_95 rfl ?_
            refine v_w (mW (rowOf (lgtN s (sAt s i) (stepF s i) (5 + sCo s i / 10) (k + 1))) fo of tr b1 ta tm so be te wo va gd bi si sh le im bf kp) (by first | (rw [lgtN, lgt1_t ⟨c59, c70⟩, mx, if_pos (Int32.not_le.mp c81)]) | (rw [lgtN, lgt1_s (Int32.not_lt.mpr c81)]) | (rw [lgtN, lgt1_f (fun z => c70 z.2)]) | (rw [lgtN, lgt1_f (fun z => c59 z.1)])) ?_
            exact ih j (k + 1) (by omega) (by omega)
          · obtain ⟨eh, hh⟩ := c59.clamp (m := 11) (by omega)
            refine v_aload_n (pc := 62) 0 g dX5_lights_62 rfl rfl ?_
            refine v_iload (pc := 63) g dX5_lights_63 rfl ?_
            refine v_iconst (pc := 65) (v := 1) g dX5_lights_65 (by decide) ?_
            refine v_cVd (pc := 66) g dX5_lights_66 lk_X5_49 (c_stv_Bo _ _ _ eh (by omega)) (Nat.le_of_ble_eq_true rfl) rfl rfl rfl rfl (Nat.le_of_ble_eq_true rfl) ?_
            refine v_iconst (pc := 69) (v := 1) g dX5_lights_69 (by decide) ?_
            refine v_icmp_ne (pc := 70) 92 g dX5_lights_70 rfl (fun c70 => ?_) (fun c70 => ?_)
            · refine v_iincD (pc := 92) g dX5_lights_92 rfl hnL.symm ?_
              refine v_goto (pc := 95) 43 g dX5_lights_95 rfl ?_
              refine v_w (mW (rowOf (lgtN s (sAt s i) (stepF s i) (5 + sCo s i / 10) (k + 1))) fo of tr b1 ta tm so be te wo va gd bi si sh le im bf kp) (by first | (rw [lgtN, lgt1_t ⟨c59, c70⟩, mx, if_pos (Int32.not_le.mp c81)]) | (rw [lgtN, lgt1_s (Int32.not_lt.mpr c81)]) | (rw [lgtN, lgt1_f (fun z => c70 z.2)]) | (rw [lgtN, lgt1_f (fun z => c59 z.1)])) ?_
              exact ih j (k + 1) (by omega) (by omega)
            · refine v_iload_n (pc := 73) 3 g dX5_lights_73 rfl rfl ?_
              refine v_aload_n (pc := 74) 0 g dX5_lights_74 rfl rfl ?_
              refine v_iload (pc := 75) g dX5_lights_75 rfl ?_
              refine v_iconst (pc := 77) (v := 0) g dX5_lights_77 (by decide) ?_
              refine v_cVd (pc := 78) g dX5_lights_78 lk_X5_49 (c_stv_La _ _ _ eh (by omega)) (Nat.le_of_ble_eq_true rfl) rfl rfl rfl rfl (Nat.le_of_ble_eq_true rfl) ?_
              refine v_icmp_le (pc := 81) 92 g dX5_lights_81 rfl (fun c81 => ?_) (fun c81 => ?_)
              · refine v_iincD (pc := 92) g dX5_lights_92 rfl hnL.symm ?_
                refine v_goto (pc := 95) 43 g dX5_lights_95 rfl ?_
                refine v_w (mW (rowOf (lgtN s (sAt s i) (stepF s i) (5 + sCo s i / 10) (k + 1))) fo of tr b1 ta tm so be te wo va gd bi si sh le im bf kp) (by first | (rw [lgtN, lgt1_t ⟨c59, c70⟩, mx, if_pos (Int32.not_le.mp c81)]) | (rw [lgtN, lgt1_s (Int32.not_lt.mpr c81)]) | (rw [lgtN, lgt1_f (fun z => c70 z.2)]) | (rw [lgtN, lgt1_f (fun z => c59 z.1)])) ?_
                exact ih j (k + 1) (by omega) (by omega)
              · refine v_aload_n (pc := 84) 0 g dX5_lights_84 rfl rfl ?_
                refine v_iload (pc := 85) g dX5_lights_85 rfl ?_
                refine v_iconst (pc := 87) (v := 0) g dX5_lights_87 (by decide) ?_
                refine v_iload_n (pc := 88) 3 g dX5_lights_88 rfl rfl ?_
                refine v_cVd (pc := 89) g dX5_lights_89 lk_X5_128 (c_rev_La _ _ _ _ eh (by omega)) (Nat.le_of_ble_eq_true rfl) rfl rfl rfl rfl (Nat.le_of_ble_eq_true rfl) ?_
                refine v_iincD (pc := 92) g dX5_lights_92 rfl hnL.symm ?_
                refine v_goto (pc := 95) 43 g dX5_lights_95 rfl ?_
                refine v_w (mW (rowOf (lgtN s (sAt s i) (stepF s i) (5 + sCo s i / 10) (k + 1))) fo of tr b1 ta tm so be te wo va gd bi si sh le im bf kp) (by first | (rw [lgtN, lgt1_t ⟨c59, c70⟩, mx, if_pos (Int32.not_le.mp c81)]) | (rw [lgtN, lgt1_s (Int32.not_lt.mpr c81)]) | (rw [lgtN, lgt1_f (fun z => c70 z.2)]) | (rw [lgtN, lgt1_f (fun z => c59 z.1)])) ?_
                exact ih j (k + 1) (by omega) (by omega)
    refine v_loE [some (.ref 0), some (.int (nI i)), some (.int (stepF s i)), some (.int (5 + sCo s i / 10)), some (.int (sAt s i + nI 0 * stepF s i)), some (.int (nI B))] (by rw [show nI 0 * stepF s i = 0 from Int32.zero_mul, Int32.add_zero]; rfl) ?_
    exact L43 (B + 1) B 0 (by omega) (by omega)
  refine v_aload_n (pc := 0) 0 g dX5_lights_0 rfl rfl ?_
  refine v_iload_n (pc := 1) 1 g dX5_lights_1 rfl rfl ?_
  refine v_iconst (pc := 2) (v := 2) g dX5_lights_2 (by decide) ?_
  refine v_cVd (pc := 3) g dX5_lights_3 lk_X5_53 (c_it_Fa s i hi) (Nat.le_of_ble_eq_true rfl) rfl rfl rfl rfl (Nat.le_of_ble_eq_true rfl) ?_
  refine v_iconst (pc := 6) (v := 1) g dX5_lights_6 (by decide) ?_
  refine v_icmp_ne (pc := 7) 14 g dX5_lights_7 rfl (fun c7 => ?_) (fun c7 => ?_)
  · refine v_iconst (pc := 14) (v := (-1)) g dX5_lights_14 (by decide) ?_
    refine v_stE [.int (stepF s i)] (by unfold stepF; first | rw [if_pos c7] | rw [if_neg c7]) ?_
    exact J15
  · refine v_iconst (pc := 10) (v := 1) g dX5_lights_10 (by decide) ?_
    refine v_goto (pc := 11) 15 g dX5_lights_11 rfl ?_
    refine v_stE [.int (stepF s i)] (by unfold stepF; first | rw [if_pos c7] | rw [if_neg c7]) ?_
    exact J15
