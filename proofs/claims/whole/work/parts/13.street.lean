/-! ===== Street ===== -/
theorem ge_t {k n : Nat} {b : Int32} (hb : b = nI n) (hk : k ≤ n) (hn : n < 1000000) (c : b ≤ nI k) : k = n := by
  subst hb
  have := (nI_leI (a := n) (b := k) (by omega) (by omega)).mp c
  omega
theorem ge_f {k n : Nat} {b : Int32} (hb : b = nI n) (hk : k ≤ n) (hn : n < 1000000) (c : ¬ b ≤ nI k) : k < n := by
  subst hb
  rcases Nat.lt_or_ge k n with h | h
  · exact h
  · exact absurd ((nI_leI (a := n) (b := k) (by omega) (by omega)).mpr h) c
theorem v_loE {X : VX} {pc : Nat} {lo : List (Option Value)} {st : List Value} {w : PW} (lo2 : List (Option Value)) (h : lo = lo2) (k : V X pc lo2 st w) : V X pc lo st w := h ▸ k
theorem bits_t {p : Nat → Bool} {k : Nat} (h : p k = true) : bitsN p (k + 1) = bitsN p k ||| ((1 : Int32) <<< (nI k &&& 31)) := if_pos h
theorem bits_f {p : Nat → Bool} {k : Nat} (h : p k = false) : bitsN p (k + 1) = bitsN p k := if_neg (by rw [h]; exact Bool.false_ne_true)
theorem cnt_t {p : Nat → Bool} {k : Nat} (h : p k = true) : cntN p (k + 1) = cntN p k + 1 := if_pos h
theorem cnt_f {p : Nat → Bool} {k : Nat} (h : p k = false) : cntN p (k + 1) = cntN p k := if_neg (by rw [h]; exact Bool.false_ne_true)
theorem inR.in {v : Int32} {m : Nat} (h : inR v 0 m) (hm : m < 2147483646) : vp_in v (m + 1) := by
  obtain ⟨j, hj, rfl⟩ := h.nat (by omega)
  exact vp_in_nI (by omega) (by omega)
theorem inR.clamp {v : Int32} {m : Nat} (h : inR v 0 m) (hm : m < 2147483646) : v = nI v.toNatClampNeg ∧ v.toNatClampNeg ≤ m := by
  obtain ⟨j, hj, rfl⟩ := h.nat (by omega)
  rw [nI_clamp (by omega)]
  exact ⟨rfl, hj⟩
set_option maxRecDepth 20000 in
set_option maxHeartbeats 2000000 in
theorem c_X1_burns (s : St) (we : Int32) (i : Nat) (hi : i < 12) : RunD 0 yX1_burns cX1_burns 2 (some .boolean) [.ref 0, .int (nI i)] (stW s we) (some (.int (bI (0 < sLa s i)))) (stW s we) := by
  refine Runs.of (by decide) (Nat.le_of_ble_eq_true rfl) rfl ?_
  intro X g hret hnL
  refine v_aload_n (pc := 0) 0 g dX1_burns_0 rfl rfl ?_
  refine v_get (pc := 1) g dX1_burns_1 fl_X1_18 rfl rfl ?_
  refine v_iload_n (pc := 4) 1 g dX1_burns_4 rfl rfl ?_
  refine v_ialdN (pc := 5) _ g dX1_burns_5 rfl rfl (by omega) (Nat.le_of_ble_eq_true rfl) ?_
  refine v_if_le (pc := 6) 13 g dX1_burns_6 rfl (fun c6 => ?_) (fun c6 => ?_)
  · refine v_iconst (pc := 13) (v := 0) g dX1_burns_13 (by decide) ?_
    exact v_zret (pc := 14) g hret dX1_burns_14 (by first | exact nb1 | exact nb0 | exact nbI) (by first | exact ⟨so1 (Int32.not_le.mp c6), rfl⟩ | exact ⟨so0 (Int32.not_lt.mpr c6), rfl⟩)
  · refine v_iconst (pc := 9) (v := 1) g dX1_burns_9 (by decide) ?_
    refine v_goto (pc := 10) 14 g dX1_burns_10 rfl ?_
    exact v_zret (pc := 14) g hret dX1_burns_14 (by first | exact nb1 | exact nb0 | exact nbI) (by first | exact ⟨so1 (Int32.not_le.mp c6), rfl⟩ | exact ⟨so0 (Int32.not_lt.mpr c6), rfl⟩)
set_option maxRecDepth 20000 in
set_option maxHeartbeats 2000000 in
theorem c_X1_burning (s : St) (we : Int32) : RunD 1 yX1_burning cX1_burning 3 (some .int) [.ref 0] (stW s we) (some (.int (burning s))) (stW s we) := by
  refine Runs.of (by decide) (Nat.le_of_ble_eq_true rfl) rfl ?_
  intro X g hret hnL
  refine v_iconst (pc := 0) (v := 0) g dX1_burning_0 (by decide) ?_
  refine v_istore_n (pc := 1) 1 _ g dX1_burning_1 rfl (Nat.le_of_ble_eq_true rfl) hnL.symm rfl ?_
  refine v_iconst (pc := 2) (v := 0) g dX1_burning_2 (by decide) ?_
  refine v_istore_n (pc := 3) 2 _ g dX1_burning_3 rfl (Nat.le_of_ble_eq_true rfl) hnL.symm rfl ?_
  have L4 : ∀ (fu : Nat) (k : Nat), k ≤ 12 → 12 - k < fu → V X 4 [some (.ref 0), some (.int (bitsN (fBur s) (k))), some (.int (nI (k)))] [] (stW s we) := by
    intro fu
    induction fu with
    | zero => intro k hk hm; exact absurd hm (Nat.not_lt_zero _)
    | succ fu ih =>
      intro k hk hm
      refine v_iload_n (pc := 4) 2 g dX1_burning_4 rfl rfl ?_
      refine v_bipush (pc := 5) (v := 12) g dX1_burning_5 (by decide) ?_
      refine v_icmp_ge (pc := 7) 30 g dX1_burning_7 rfl (fun c7 => ?_) (fun c7 => ?_)
      · have e7 : k = 12 := ge_t (n := 12) rfl hk (by omega) c7
        subst e7
        refine v_iload_n (pc := 30) 1 g dX1_burning_30 rfl rfl ?_
        exact v_iret (pc := 31) g hret dX1_burning_31 (⟨rfl, rfl⟩)
      · have e7 : k < 12 := ge_f (n := 12) rfl hk (by omega) c7
        refine v_aload_n (pc := 10) 0 g dX1_burning_10 rfl rfl ?_
        refine v_iload_n (pc := 11) 2 g dX1_burning_11 rfl rfl ?_
        refine v_cVd (pc := 12) g dX1_burning_12 lk_X1_58 (c_X1_burns s we k (by omega)) (Nat.le_of_ble_eq_true rfl) rfl rfl rfl rfl (Nat.le_of_ble_eq_true rfl) ?_
        refine v_ifb_eq (pc := 15) 24 g dX1_burning_15 rfl (fun c15 => ?_) (fun c15 => ?_)
        · refine v_iincN (pc := 24) g dX1_burning_24 rfl hnL.symm ?_
          refine v_goto (pc := 27) 4 g dX1_burning_27 rfl ?_
          refine v_loE [some (.ref 0), some (.int (bitsN (fBur s) (k + 1))), some (.int (nI (k + 1)))] (by first | (rw [bits_t (p := fBur s) (decide_eq_true c15)]; rfl) | (rw [bits_f (p := fBur s) (decide_eq_false c15)]; rfl)) ?_
          exact ih (k + 1) (by omega) (by omega)
        · refine v_iload_n (pc := 18) 1 g dX1_burning_18 rfl rfl ?_
          refine v_iconst (pc := 19) (v := 1) g dX1_burning_19 (by decide) ?_
          refine v_iload_n (pc := 20) 2 g dX1_burning_20 rfl rfl ?_
          refine v_ishl (pc := 21) g dX1_burning_21 ?_
          refine v_ior (pc := 22) g dX1_burning_22 ?_
          refine v_istore_n (pc := 23) 1 _ g dX1_burning_23 rfl (Nat.le_of_ble_eq_true rfl) hnL.symm rfl ?_
          refine v_iincN (pc := 24) g dX1_burning_24 rfl hnL.symm ?_
          refine v_goto (pc := 27) 4 g dX1_burning_27 rfl ?_
          refine v_loE [some (.ref 0), some (.int (bitsN (fBur s) (k + 1))), some (.int (nI (k + 1)))] (by first | (rw [bits_t (p := fBur s) (decide_eq_true c15)]; rfl) | (rw [bits_f (p := fBur s) (decide_eq_false c15)]; rfl)) ?_
          exact ih (k + 1) (by omega) (by omega)
  exact L4 (12 + 1) 0 (Nat.zero_le _) (by omega)
set_option maxRecDepth 20000 in
set_option maxHeartbeats 2000000 in
theorem c_X1_lampsBurning (s : St) (we : Int32) : RunD 0 yX1_lampsBurning cX1_lampsBurning 3 (some .int) [.ref 0] (stW s we) (some (.int (lampsN s))) (stW s we) := by
  refine Runs.of (by decide) (Nat.le_of_ble_eq_true rfl) rfl ?_
  intro X g hret hnL
  refine v_iconst (pc := 0) (v := 0) g dX1_lampsBurning_0 (by decide) ?_
  refine v_istore_n (pc := 1) 1 _ g dX1_lampsBurning_1 rfl (Nat.le_of_ble_eq_true rfl) hnL.symm rfl ?_
  refine v_iconst (pc := 2) (v := 0) g dX1_lampsBurning_2 (by decide) ?_
  refine v_istore_n (pc := 3) 2 _ g dX1_lampsBurning_3 rfl (Nat.le_of_ble_eq_true rfl) hnL.symm rfl ?_
  have L4 : ∀ (fu : Nat) (k : Nat), k ≤ 12 → 12 - k < fu → V X 4 [some (.ref 0), some (.int (cntN (fBur s) (k))), some (.int (nI (k)))] [] (stW s we) := by
    intro fu
    induction fu with
    | zero => intro k hk hm; exact absurd hm (Nat.not_lt_zero _)
    | succ fu ih =>
      intro k hk hm
      refine v_iload_n (pc := 4) 2 g dX1_lampsBurning_4 rfl rfl ?_
      refine v_bipush (pc := 5) (v := 12) g dX1_lampsBurning_5 (by decide) ?_
      refine v_icmp_ge (pc := 7) 28 g dX1_lampsBurning_7 rfl (fun c7 => ?_) (fun c7 => ?_)
      · have e7 : k = 12 := ge_t (n := 12) rfl hk (by omega) c7
        subst e7
        refine v_iload_n (pc := 28) 1 g dX1_lampsBurning_28 rfl rfl ?_
        exact v_iret (pc := 29) g hret dX1_lampsBurning_29 (⟨rfl, rfl⟩)
      · have e7 : k < 12 := ge_f (n := 12) rfl hk (by omega) c7
        refine v_aload_n (pc := 10) 0 g dX1_lampsBurning_10 rfl rfl ?_
        refine v_get (pc := 11) g dX1_lampsBurning_11 fl_X1_18 rfl rfl ?_
        refine v_iload_n (pc := 14) 2 g dX1_lampsBurning_14 rfl rfl ?_
        refine v_ialdN (pc := 15) _ g dX1_lampsBurning_15 rfl rfl (by omega) (Nat.le_of_ble_eq_true rfl) ?_
        refine v_if_le (pc := 16) 22 g dX1_lampsBurning_16 rfl (fun c16 => ?_) (fun c16 => ?_)
        · refine v_iincN (pc := 22) g dX1_lampsBurning_22 rfl hnL.symm ?_
          refine v_goto (pc := 25) 4 g dX1_lampsBurning_25 rfl ?_
          refine v_loE [some (.ref 0), some (.int (cntN (fBur s) (k + 1))), some (.int (nI (k + 1)))] (by first | (rw [cnt_t (p := fBur s) (decide_eq_true (Int32.not_le.mp c16))]; rfl) | (rw [cnt_f (p := fBur s) (decide_eq_false (Int32.not_lt.mpr c16))]; rfl)) ?_
          exact ih (k + 1) (by omega) (by omega)
        · refine v_iinc (pc := 19) _ _ g dX1_lampsBurning_19 rfl rfl hnL.symm rfl ?_
          refine v_iincN (pc := 22) g dX1_lampsBurning_22 rfl hnL.symm ?_
          refine v_goto (pc := 25) 4 g dX1_lampsBurning_25 rfl ?_
          refine v_loE [some (.ref 0), some (.int (cntN (fBur s) (k + 1))), some (.int (nI (k + 1)))] (by first | (rw [cnt_t (p := fBur s) (decide_eq_true (Int32.not_le.mp c16))]; rfl) | (rw [cnt_f (p := fBur s) (decide_eq_false (Int32.not_lt.mpr c16))]; rfl)) ?_
          exact ih (k + 1) (by omega) (by omega)
  exact L4 (12 + 1) 0 (Nat.zero_le _) (by omega)
set_option maxRecDepth 20000 in
set_option maxHeartbeats 2000000 in
theorem c_X1_openBooks (s : St) (we : Int32) : RunD 0 yX1_openBooks cX1_openBooks 3 (some .int) [.ref 0] (stW s we) (some (.int (openB s))) (stW s we) := by
  refine Runs.of (by decide) (Nat.le_of_ble_eq_true rfl) rfl ?_
  intro X g hret hnL
  refine v_iconst (pc := 0) (v := 0) g dX1_openBooks_0 (by decide) ?_
  refine v_istore_n (pc := 1) 1 _ g dX1_openBooks_1 rfl (Nat.le_of_ble_eq_true rfl) hnL.symm rfl ?_
  refine v_iconst (pc := 2) (v := 0) g dX1_openBooks_2 (by decide) ?_
  refine v_istore_n (pc := 3) 2 _ g dX1_openBooks_3 rfl (Nat.le_of_ble_eq_true rfl) hnL.symm rfl ?_
  have L4 : ∀ (fu : Nat) (k : Nat), k ≤ 12 → 12 - k < fu → V X 4 [some (.ref 0), some (.int (bitsN (fOpn s) (k))), some (.int (nI (k)))] [] (stW s we) := by
    intro fu
    induction fu with
    | zero => intro k hk hm; exact absurd hm (Nat.not_lt_zero _)
    | succ fu ih =>
      intro k hk hm
      refine v_iload_n (pc := 4) 2 g dX1_openBooks_4 rfl rfl ?_
      refine v_bipush (pc := 5) (v := 12) g dX1_openBooks_5 (by decide) ?_
      refine v_icmp_ge (pc := 7) 32 g dX1_openBooks_7 rfl (fun c7 => ?_) (fun c7 => ?_)
      · have e7 : k = 12 := ge_t (n := 12) rfl hk (by omega) c7
        subst e7
        refine v_iload_n (pc := 32) 1 g dX1_openBooks_32 rfl rfl ?_
        exact v_iret (pc := 33) g hret dX1_openBooks_33 (⟨rfl, rfl⟩)
      · have e7 : k < 12 := ge_f (n := 12) rfl hk (by omega) c7
        refine v_aload_n (pc := 10) 0 g dX1_openBooks_10 rfl rfl ?_
        refine v_get (pc := 11) g dX1_openBooks_11 fl_X1_22 rfl rfl ?_
        refine v_iload_n (pc := 14) 2 g dX1_openBooks_14 rfl rfl ?_
        refine v_ialdN (pc := 15) _ g dX1_openBooks_15 rfl rfl (by omega) (Nat.le_of_ble_eq_true rfl) ?_
        refine v_iconst (pc := 16) (v := 1) g dX1_openBooks_16 (by decide) ?_
        refine v_icmp_ne (pc := 17) 26 g dX1_openBooks_17 rfl (fun c17 => ?_) (fun c17 => ?_)
        · refine v_iincN (pc := 26) g dX1_openBooks_26 rfl hnL.symm ?_
          refine v_goto (pc := 29) 4 g dX1_openBooks_29 rfl ?_
          refine v_loE [some (.ref 0), some (.int (bitsN (fOpn s) (k + 1))), some (.int (nI (k + 1)))] (by first | (rw [bits_t (p := fOpn s) (decide_eq_true c17)]; rfl) | (rw [bits_f (p := fOpn s) (decide_eq_false c17)]; rfl)) ?_
          exact ih (k + 1) (by omega) (by omega)
        · refine v_iload_n (pc := 20) 1 g dX1_openBooks_20 rfl rfl ?_
          refine v_iconst (pc := 21) (v := 1) g dX1_openBooks_21 (by decide) ?_
          refine v_iload_n (pc := 22) 2 g dX1_openBooks_22 rfl rfl ?_
          refine v_ishl (pc := 23) g dX1_openBooks_23 ?_
          refine v_ior (pc := 24) g dX1_openBooks_24 ?_
          refine v_istore_n (pc := 25) 1 _ g dX1_openBooks_25 rfl (Nat.le_of_ble_eq_true rfl) hnL.symm rfl ?_
          refine v_iincN (pc := 26) g dX1_openBooks_26 rfl hnL.symm ?_
          refine v_goto (pc := 29) 4 g dX1_openBooks_29 rfl ?_
          refine v_loE [some (.ref 0), some (.int (bitsN (fOpn s) (k + 1))), some (.int (nI (k + 1)))] (by first | (rw [bits_t (p := fOpn s) (decide_eq_true c17)]; rfl) | (rw [bits_f (p := fOpn s) (decide_eq_false c17)]; rfl)) ?_
          exact ih (k + 1) (by omega) (by omega)
  exact L4 (12 + 1) 0 (Nat.zero_le _) (by omega)
set_option maxRecDepth 20000 in
set_option maxHeartbeats 2000000 in
theorem c_X1_whoIsAt (s : St) (we : Int32) (h : Int32) (hI : Inv s) : RunD 0 yX1_whoIsAt cX1_whoIsAt 4 (some .int) [.ref 0, .int h] (stW s we) (some (.int (whoAt s h))) (stW s we) := by
  refine Runs.of (by decide) (Nat.le_of_ble_eq_true rfl) rfl ?_
  intro X g hret hnL
  refine v_iconst (pc := 0) (v := 0) g dX1_whoIsAt_0 (by decide) ?_
  refine v_istore_n (pc := 1) 2 _ g dX1_whoIsAt_1 rfl (Nat.le_of_ble_eq_true rfl) hnL.symm rfl ?_
  refine v_iconst (pc := 2) (v := 0) g dX1_whoIsAt_2 (by decide) ?_
  refine v_istore_n (pc := 3) 3 _ g dX1_whoIsAt_3 rfl (Nat.le_of_ble_eq_true rfl) hnL.symm rfl ?_
  have L4 : ∀ (fu : Nat) (k : Nat), k ≤ sN s → sN s - k < fu → V X 4 [some (.ref 0), some (.int h), some (.int (bitsN (fun i => decide (sAt s i = h)) (k))), some (.int (nI (k)))] [] (stW s we) := by
    intro fu
    induction fu with
    | zero => intro k hk hm; exact absurd hm (Nat.not_lt_zero _)
    | succ fu ih =>
      intro k hk hm
      refine v_iload_n (pc := 4) 3 g dX1_whoIsAt_4 rfl rfl ?_
      refine v_aload_n (pc := 5) 0 g dX1_whoIsAt_5 rfl rfl ?_
      refine v_get (pc := 6) g dX1_whoIsAt_6 fl_X1_28 rfl rfl ?_
      refine v_icmp_ge (pc := 9) 34 g dX1_whoIsAt_9 rfl (fun c9 => ?_) (fun c9 => ?_)
      · have e9 : k = sN s := ge_t (n := sN s) rfl hk (by have := hI.n; omega) c9
        subst e9
        refine v_iload_n (pc := 34) 2 g dX1_whoIsAt_34 rfl rfl ?_
        exact v_iret (pc := 35) g hret dX1_whoIsAt_35 (⟨rfl, rfl⟩)
      · have e9 : k < sN s := ge_f (n := sN s) rfl hk (by have := hI.n; omega) c9
        refine v_aload_n (pc := 12) 0 g dX1_whoIsAt_12 rfl rfl ?_
        refine v_get (pc := 13) g dX1_whoIsAt_13 fl_X1_34 rfl rfl ?_
        refine v_iload_n (pc := 16) 3 g dX1_whoIsAt_16 rfl rfl ?_
        refine v_ialdN (pc := 17) _ g dX1_whoIsAt_17 rfl rfl (by have := hI.n; omega) (Nat.le_of_ble_eq_true rfl) ?_
        refine v_iload_n (pc := 18) 1 g dX1_whoIsAt_18 rfl rfl ?_
        refine v_icmp_ne (pc := 19) 28 g dX1_whoIsAt_19 rfl (fun c19 => ?_) (fun c19 => ?_)
        · refine v_iincN (pc := 28) g dX1_whoIsAt_28 rfl hnL.symm ?_
          refine v_goto (pc := 31) 4 g dX1_whoIsAt_31 rfl ?_
          refine v_loE [some (.ref 0), some (.int h), some (.int (bitsN (fun i => decide (sAt s i = h)) (k + 1))), some (.int (nI (k + 1)))] (by first | (rw [bits_t (p := fun i => decide (sAt s i = h)) (decide_eq_true c19)]; rfl) | (rw [bits_f (p := fun i => decide (sAt s i = h)) (decide_eq_false c19)]; rfl)) ?_
          exact ih (k + 1) (by omega) (by omega)
        · refine v_iload_n (pc := 22) 2 g dX1_whoIsAt_22 rfl rfl ?_
          refine v_iconst (pc := 23) (v := 1) g dX1_whoIsAt_23 (by decide) ?_
          refine v_iload_n (pc := 24) 3 g dX1_whoIsAt_24 rfl rfl ?_
          refine v_ishl (pc := 25) g dX1_whoIsAt_25 ?_
          refine v_ior (pc := 26) g dX1_whoIsAt_26 ?_
          refine v_istore_n (pc := 27) 2 _ g dX1_whoIsAt_27 rfl (Nat.le_of_ble_eq_true rfl) hnL.symm rfl ?_
          refine v_iincN (pc := 28) g dX1_whoIsAt_28 rfl hnL.symm ?_
          refine v_goto (pc := 31) 4 g dX1_whoIsAt_31 rfl ?_
          refine v_loE [some (.ref 0), some (.int h), some (.int (bitsN (fun i => decide (sAt s i = h)) (k + 1))), some (.int (nI (k + 1)))] (by first | (rw [bits_t (p := fun i => decide (sAt s i = h)) (decide_eq_true c19)]; rfl) | (rw [bits_f (p := fun i => decide (sAt s i = h)) (decide_eq_false c19)]; rfl)) ?_
          exact ih (k + 1) (by omega) (by omega)
  exact L4 (sN s + 1) 0 (Nat.zero_le _) (by omega)
set_option maxRecDepth 20000 in
set_option maxHeartbeats 2000000 in
theorem c_X1_readOfAll (s : St) (we : Int32) : RunD 0 yX1_readOfAll cX1_readOfAll 3 (some .int) [.ref 0] (stW s we) (some (.int (readAll s))) (stW s we) := by
  refine Runs.of (by decide) (Nat.le_of_ble_eq_true rfl) rfl ?_
  intro X g hret hnL
  refine v_iconst (pc := 0) (v := 0) g dX1_readOfAll_0 (by decide) ?_
  refine v_istore_n (pc := 1) 1 _ g dX1_readOfAll_1 rfl (Nat.le_of_ble_eq_true rfl) hnL.symm rfl ?_
  refine v_iconst (pc := 2) (v := 0) g dX1_readOfAll_2 (by decide) ?_
  refine v_istore_n (pc := 3) 2 _ g dX1_readOfAll_3 rfl (Nat.le_of_ble_eq_true rfl) hnL.symm rfl ?_
  have L4 : ∀ (fu : Nat) (k : Nat), k ≤ 12 → 12 - k < fu → V X 4 [some (.ref 0), some (.int (sumN (sRe s) (k))), some (.int (nI (k)))] [] (stW s we) := by
    intro fu
    induction fu with
    | zero => intro k hk hm; exact absurd hm (Nat.not_lt_zero _)
    | succ fu ih =>
      intro k hk hm
      refine v_iload_n (pc := 4) 2 g dX1_readOfAll_4 rfl rfl ?_
      refine v_bipush (pc := 5) (v := 12) g dX1_readOfAll_5 (by decide) ?_
      refine v_icmp_ge (pc := 7) 25 g dX1_readOfAll_7 rfl (fun c7 => ?_) (fun c7 => ?_)
      · have e7 : k = 12 := ge_t (n := 12) rfl hk (by omega) c7
        subst e7
        refine v_iload_n (pc := 25) 1 g dX1_readOfAll_25 rfl rfl ?_
        exact v_iret (pc := 26) g hret dX1_readOfAll_26 (⟨rfl, rfl⟩)
      · have e7 : k < 12 := ge_f (n := 12) rfl hk (by omega) c7
        refine v_iload_n (pc := 10) 1 g dX1_readOfAll_10 rfl rfl ?_
        refine v_aload_n (pc := 11) 0 g dX1_readOfAll_11 rfl rfl ?_
        refine v_get (pc := 12) g dX1_readOfAll_12 fl_X1_25 rfl rfl ?_
        refine v_iload_n (pc := 15) 2 g dX1_readOfAll_15 rfl rfl ?_
        refine v_ialdN (pc := 16) _ g dX1_readOfAll_16 rfl rfl (by omega) (Nat.le_of_ble_eq_true rfl) ?_
        refine v_iadd (pc := 17) g dX1_readOfAll_17 ?_
        refine v_istore_n (pc := 18) 1 _ g dX1_readOfAll_18 rfl (Nat.le_of_ble_eq_true rfl) hnL.symm rfl ?_
        refine v_iincN (pc := 19) g dX1_readOfAll_19 rfl hnL.symm ?_
        refine v_goto (pc := 22) 4 g dX1_readOfAll_22 rfl ?_
        refine v_loE [some (.ref 0), some (.int (sumN (sRe s) (k + 1))), some (.int (nI (k + 1)))] rfl ?_
        exact ih (k + 1) (by omega) (by omega)
  exact L4 (12 + 1) 0 (Nat.zero_le _) (by omega)
set_option maxRecDepth 20000 in
set_option maxHeartbeats 2000000 in
theorem c_X1_coldOfAll (s : St) (we : Int32) (hI : Inv s) : RunD 0 yX1_coldOfAll cX1_coldOfAll 3 (some .int) [.ref 0] (stW s we) (some (.int (coldAll s))) (stW s we) := by
  refine Runs.of (by decide) (Nat.le_of_ble_eq_true rfl) rfl ?_
  intro X g hret hnL
  refine v_iconst (pc := 0) (v := 0) g dX1_coldOfAll_0 (by decide) ?_
  refine v_istore_n (pc := 1) 1 _ g dX1_coldOfAll_1 rfl (Nat.le_of_ble_eq_true rfl) hnL.symm rfl ?_
  refine v_iconst (pc := 2) (v := 0) g dX1_coldOfAll_2 (by decide) ?_
  refine v_istore_n (pc := 3) 2 _ g dX1_coldOfAll_3 rfl (Nat.le_of_ble_eq_true rfl) hnL.symm rfl ?_
  have L4 : ∀ (fu : Nat) (k : Nat), k ≤ sN s → sN s - k < fu → V X 4 [some (.ref 0), some (.int (sumN (sCo s) (k))), some (.int (nI (k)))] [] (stW s we) := by
    intro fu
    induction fu with
    | zero => intro k hk hm; exact absurd hm (Nat.not_lt_zero _)
    | succ fu ih =>
      intro k hk hm
      refine v_iload_n (pc := 4) 2 g dX1_coldOfAll_4 rfl rfl ?_
      refine v_aload_n (pc := 5) 0 g dX1_coldOfAll_5 rfl rfl ?_
      refine v_get (pc := 6) g dX1_coldOfAll_6 fl_X1_28 rfl rfl ?_
      refine v_icmp_ge (pc := 9) 27 g dX1_coldOfAll_9 rfl (fun c9 => ?_) (fun c9 => ?_)
      · have e9 : k = sN s := ge_t (n := sN s) rfl hk (by have := hI.n; omega) c9
        subst e9
        refine v_iload_n (pc := 27) 1 g dX1_coldOfAll_27 rfl rfl ?_
        exact v_iret (pc := 28) g hret dX1_coldOfAll_28 (⟨rfl, rfl⟩)
      · have e9 : k < sN s := ge_f (n := sN s) rfl hk (by have := hI.n; omega) c9
        refine v_iload_n (pc := 12) 1 g dX1_coldOfAll_12 rfl rfl ?_
        refine v_aload_n (pc := 13) 0 g dX1_coldOfAll_13 rfl rfl ?_
        refine v_get (pc := 14) g dX1_coldOfAll_14 fl_X1_40 rfl rfl ?_
        refine v_iload_n (pc := 17) 2 g dX1_coldOfAll_17 rfl rfl ?_
        refine v_ialdN (pc := 18) _ g dX1_coldOfAll_18 rfl rfl (by have := hI.n; omega) (Nat.le_of_ble_eq_true rfl) ?_
        refine v_iadd (pc := 19) g dX1_coldOfAll_19 ?_
        refine v_istore_n (pc := 20) 1 _ g dX1_coldOfAll_20 rfl (Nat.le_of_ble_eq_true rfl) hnL.symm rfl ?_
        refine v_iincN (pc := 21) g dX1_coldOfAll_21 rfl hnL.symm ?_
        refine v_goto (pc := 24) 4 g dX1_coldOfAll_24 rfl ?_
        refine v_loE [some (.ref 0), some (.int (sumN (sCo s) (k + 1))), some (.int (nI (k + 1)))] rfl ?_
        exact ih (k + 1) (by omega) (by omega)
  exact L4 (sN s + 1) 0 (Nat.zero_le _) (by omega)
set_option maxRecDepth 20000 in
set_option maxHeartbeats 2000000 in
theorem c_X1_goneOffOfAll (s : St) (we : Int32) (hI : Inv s) : RunD 0 yX1_goneOffOfAll cX1_goneOffOfAll 3 (some .int) [.ref 0] (stW s we) (some (.int (goneAll s))) (stW s we) := by
  refine Runs.of (by decide) (Nat.le_of_ble_eq_true rfl) rfl ?_
  intro X g hret hnL
  refine v_iconst (pc := 0) (v := 0) g dX1_goneOffOfAll_0 (by decide) ?_
  refine v_istore_n (pc := 1) 1 _ g dX1_goneOffOfAll_1 rfl (Nat.le_of_ble_eq_true rfl) hnL.symm rfl ?_
  refine v_iconst (pc := 2) (v := 0) g dX1_goneOffOfAll_2 (by decide) ?_
  refine v_istore_n (pc := 3) 2 _ g dX1_goneOffOfAll_3 rfl (Nat.le_of_ble_eq_true rfl) hnL.symm rfl ?_
  have L4 : ∀ (fu : Nat) (k : Nat), k ≤ sN s → sN s - k < fu → V X 4 [some (.ref 0), some (.int (sumN (sGo s) (k))), some (.int (nI (k)))] [] (stW s we) := by
    intro fu
    induction fu with
    | zero => intro k hk hm; exact absurd hm (Nat.not_lt_zero _)
    | succ fu ih =>
      intro k hk hm
      refine v_iload_n (pc := 4) 2 g dX1_goneOffOfAll_4 rfl rfl ?_
      refine v_aload_n (pc := 5) 0 g dX1_goneOffOfAll_5 rfl rfl ?_
      refine v_get (pc := 6) g dX1_goneOffOfAll_6 fl_X1_28 rfl rfl ?_
      refine v_icmp_ge (pc := 9) 27 g dX1_goneOffOfAll_9 rfl (fun c9 => ?_) (fun c9 => ?_)
      · have e9 : k = sN s := ge_t (n := sN s) rfl hk (by have := hI.n; omega) c9
        subst e9
        refine v_iload_n (pc := 27) 1 g dX1_goneOffOfAll_27 rfl rfl ?_
        exact v_iret (pc := 28) g hret dX1_goneOffOfAll_28 (⟨rfl, rfl⟩)
      · have e9 : k < sN s := ge_f (n := sN s) rfl hk (by have := hI.n; omega) c9
        refine v_iload_n (pc := 12) 1 g dX1_goneOffOfAll_12 rfl rfl ?_
        refine v_aload_n (pc := 13) 0 g dX1_goneOffOfAll_13 rfl rfl ?_
        refine v_get (pc := 14) g dX1_goneOffOfAll_14 fl_X1_46 rfl rfl ?_
        refine v_iload_n (pc := 17) 2 g dX1_goneOffOfAll_17 rfl rfl ?_
        refine v_ialdN (pc := 18) _ g dX1_goneOffOfAll_18 rfl rfl (by have := hI.n; omega) (Nat.le_of_ble_eq_true rfl) ?_
        refine v_iadd (pc := 19) g dX1_goneOffOfAll_19 ?_
        refine v_istore_n (pc := 20) 1 _ g dX1_goneOffOfAll_20 rfl (Nat.le_of_ble_eq_true rfl) hnL.symm rfl ?_
        refine v_iincN (pc := 21) g dX1_goneOffOfAll_21 rfl hnL.symm ?_
        refine v_goto (pc := 24) 4 g dX1_goneOffOfAll_24 rfl ?_
        refine v_loE [some (.ref 0), some (.int (sumN (sGo s) (k + 1))), some (.int (nI (k + 1)))] rfl ?_
        exact ih (k + 1) (by omega) (by omega)
  exact L4 (sN s + 1) 0 (Nat.zero_le _) (by omega)
set_option maxRecDepth 20000 in
set_option maxHeartbeats 2000000 in
theorem c_X1_ticklesOf (s : St) (we : Int32) (i : Nat) (hI : Inv s) (hi : i < 8) : RunD 1 yX1_ticklesOf cX1_ticklesOf 5 (some .int) [.ref 0, .int (nI i)] (stW s we) (some (.int (tkl s i))) (stW s we) := by
  refine Runs.of (by decide) (Nat.le_of_ble_eq_true rfl) rfl ?_
  intro X g hret hnL
  refine v_iconst (pc := 0) (v := 0) g dX1_ticklesOf_0 (by decide) ?_
  refine v_aload_n (pc := 1) 0 g dX1_ticklesOf_1 rfl rfl ?_
  refine v_get (pc := 2) g dX1_ticklesOf_2 fl_X1_40 rfl rfl ?_
  refine v_iload_n (pc := 5) 1 g dX1_ticklesOf_5 rfl rfl ?_
  refine v_ialdN (pc := 6) _ g dX1_ticklesOf_6 rfl rfl (by omega) (Nat.le_of_ble_eq_true rfl) ?_
  refine v_iconst (pc := 7) (v := 4) g dX1_ticklesOf_7 (by decide) ?_
  refine v_idiv (pc := 8) g dX1_ticklesOf_8 (by decide) ?_
  refine v_aload_n (pc := 9) 0 g dX1_ticklesOf_9 rfl rfl ?_
  refine v_get (pc := 10) g dX1_ticklesOf_10 fl_X1_15 rfl rfl ?_
  refine v_isub (pc := 13) g dX1_ticklesOf_13 ?_
  refine v_max (pc := 14) g dX1_ticklesOf_14 lk_X1_62 (Nat.le_of_ble_eq_true rfl) (Nat.le_of_ble_eq_true rfl) ?_
  refine v_istore_n (pc := 17) 2 _ g dX1_ticklesOf_17 rfl (Nat.le_of_ble_eq_true rfl) hnL.symm rfl ?_
  refine v_iload_n (pc := 18) 2 g dX1_ticklesOf_18 rfl rfl ?_
  refine v_iconst (pc := 19) (v := 2) g dX1_ticklesOf_19 (by decide) ?_
  refine v_idiv (pc := 20) g dX1_ticklesOf_20 (by decide) ?_
  refine v_istore_n (pc := 21) 3 _ g dX1_ticklesOf_21 rfl (Nat.le_of_ble_eq_true rfl) hnL.symm rfl ?_
  refine v_iload_n (pc := 22) 2 g dX1_ticklesOf_22 rfl rfl ?_
  refine v_iconst (pc := 23) (v := 3) g dX1_ticklesOf_23 (by decide) ?_
  refine v_iadd (pc := 24) g dX1_ticklesOf_24 ?_
  refine v_istore (pc := 25) _ g dX1_ticklesOf_25 (Nat.le_of_ble_eq_true rfl) hnL.symm rfl ?_
  refine v_aload_n (pc := 27) 0 g dX1_ticklesOf_27 rfl rfl ?_
  refine v_get (pc := 28) g dX1_ticklesOf_28 fl_X1_31 rfl rfl ?_
  refine v_iload_n (pc := 31) 1 g dX1_ticklesOf_31 rfl rfl ?_
  refine v_ialdN (pc := 32) _ g dX1_ticklesOf_32 rfl rfl (by omega) (Nat.le_of_ble_eq_true rfl) ?_
  refine v_top (fun x33 e33 => ?_)
  by_cases t33_1 : x33.toInt = 1
  · refine v_tin (pc := 33) 1 68 g dX1_ticklesOf_33 t33_1 (by decide) (by decide) rfl rfl ?_
    rw [e33] at t33_1
    refine v_iload_n (pc := 68) 3 g dX1_ticklesOf_68 rfl rfl ?_
    exact v_iret (pc := 69) g hret dX1_ticklesOf_69 (⟨so_i (by unfold tkl kSel; simp only [*, reduceIte, Int.reduceEq]; try rfl), rfl⟩)
  by_cases t33_2 : x33.toInt = 2
  · refine v_tin (pc := 33) 2 70 g dX1_ticklesOf_33 t33_2 (by decide) (by decide) rfl rfl ?_
    rw [e33] at t33_2
    refine v_iload (pc := 70) g dX1_ticklesOf_70 rfl ?_
    exact v_iret (pc := 72) g hret dX1_ticklesOf_72 (⟨so_i (by unfold tkl kSel; simp only [*, reduceIte, Int.reduceEq]; try rfl), rfl⟩)
  by_cases t33_3 : x33.toInt = 3
  · refine v_tin (pc := 33) 3 73 g dX1_ticklesOf_33 t33_3 (by decide) (by decide) rfl rfl ?_
    rw [e33] at t33_3
    refine v_iconst (pc := 73) (v := 0) g dX1_ticklesOf_73 (by decide) ?_
    exact v_iret (pc := 74) g hret dX1_ticklesOf_74 (⟨so_i (by unfold tkl kSel; simp only [*, reduceIte, Int.reduceEq]; try rfl), rfl⟩)
  by_cases t33_4 : x33.toInt = 4
  · refine v_tin (pc := 33) 4 75 g dX1_ticklesOf_33 t33_4 (by decide) (by decide) rfl rfl ?_
    rw [e33] at t33_4
    refine v_iload_n (pc := 75) 3 g dX1_ticklesOf_75 rfl rfl ?_
    refine v_iconst (pc := 76) (v := 1) g dX1_ticklesOf_76 (by decide) ?_
    refine v_iadd (pc := 77) g dX1_ticklesOf_77 ?_
    exact v_iret (pc := 78) g hret dX1_ticklesOf_78 (⟨so_i (by unfold tkl kSel; simp only [*, reduceIte, Int.reduceEq]; try rfl), rfl⟩)
  by_cases t33_5 : x33.toInt = 5
  · refine v_tin (pc := 33) 5 79 g dX1_ticklesOf_33 t33_5 (by decide) (by decide) rfl rfl ?_
    rw [e33] at t33_5
    refine v_aload_n (pc := 79) 0 g dX1_ticklesOf_79 rfl rfl ?_
    refine v_aload_n (pc := 80) 0 g dX1_ticklesOf_80 rfl rfl ?_
    refine v_get (pc := 81) g dX1_ticklesOf_81 fl_X1_34 rfl rfl ?_
    refine v_iload_n (pc := 84) 1 g dX1_ticklesOf_84 rfl rfl ?_
    refine v_ialdN (pc := 85) _ g dX1_ticklesOf_85 rfl rfl (by omega) (Nat.le_of_ble_eq_true rfl) ?_
    obtain ⟨ej, hj⟩ := (hI.at i).clamp (m := 11) (by omega)
    rw [ej]
    refine v_cVd (pc := 86) g dX1_ticklesOf_86 lk_X1_58 (c_X1_burns s we _ (by omega)) (Nat.le_of_ble_eq_true rfl) rfl rfl rfl rfl (Nat.le_of_ble_eq_true rfl) ?_
    clear ej
    refine v_ifb_eq (pc := 89) 99 g dX1_ticklesOf_89 rfl (fun c89 => ?_) (fun c89 => ?_)
    · refine v_iload (pc := 99) g dX1_ticklesOf_99 rfl ?_
      exact v_iret (pc := 101) g hret dX1_ticklesOf_101 (⟨so_i (by unfold tkl kSel; simp only [*, reduceIte, Int.reduceEq]; try rfl), rfl⟩)
    · refine v_iconst (pc := 92) (v := 2) g dX1_ticklesOf_92 (by decide) ?_
      refine v_iload (pc := 93) g dX1_ticklesOf_93 rfl ?_
      refine v_imul (pc := 95) g dX1_ticklesOf_95 ?_
      refine v_goto (pc := 96) 101 g dX1_ticklesOf_96 rfl ?_
      exact v_iret (pc := 101) g hret dX1_ticklesOf_101 (⟨so_i (by unfold tkl kSel; simp only [*, reduceIte, Int.reduceEq]; try rfl), rfl⟩)
  refine v_tout (pc := 33) 102 g dX1_ticklesOf_33 (by omega) rfl ?_
  rw [e33] at t33_1
  rw [e33] at t33_2
  rw [e33] at t33_3
  rw [e33] at t33_4
  rw [e33] at t33_5
  refine v_iload_n (pc := 102) 2 g dX1_ticklesOf_102 rfl rfl ?_
  exact v_iret (pc := 103) g hret dX1_ticklesOf_103 (⟨so_i (by unfold tkl kSel; simp only [*, reduceIte, Int.reduceEq]; try rfl), rfl⟩)
set_option maxRecDepth 20000 in
set_option maxHeartbeats 2000000 in
theorem c_X1_holdsOf (s : St) (we : Int32) (i : Nat) (hi : i < 8) : RunD 1 yX1_holdsOf cX1_holdsOf 5 (some .int) [.ref 0, .int (nI i)] (stW s we) (some (.int (hld s i))) (stW s we) := by
  refine Runs.of (by decide) (Nat.le_of_ble_eq_true rfl) rfl ?_
  intro X g hret hnL
  refine v_bipush (pc := 0) (v := 30) g dX1_holdsOf_0 (by decide) ?_
  refine v_istore_n (pc := 2) 2 _ g dX1_holdsOf_2 rfl (Nat.le_of_ble_eq_true rfl) hnL.symm rfl ?_
  refine v_iload_n (pc := 3) 2 g dX1_holdsOf_3 rfl rfl ?_
  refine v_bipush (pc := 4) (v := 60) g dX1_holdsOf_4 (by decide) ?_
  refine v_iadd (pc := 6) g dX1_holdsOf_6 ?_
  refine v_istore_n (pc := 7) 3 _ g dX1_holdsOf_7 rfl (Nat.le_of_ble_eq_true rfl) hnL.symm rfl ?_
  refine v_iload_n (pc := 8) 2 g dX1_holdsOf_8 rfl rfl ?_
  refine v_bipush (pc := 9) (v := 10) g dX1_holdsOf_9 (by decide) ?_
  refine v_isub (pc := 11) g dX1_holdsOf_11 ?_
  refine v_istore (pc := 12) _ g dX1_holdsOf_12 (Nat.le_of_ble_eq_true rfl) hnL.symm rfl ?_
  refine v_aload_n (pc := 14) 0 g dX1_holdsOf_14 rfl rfl ?_
  refine v_get (pc := 15) g dX1_holdsOf_15 fl_X1_31 rfl rfl ?_
  refine v_iload_n (pc := 18) 1 g dX1_holdsOf_18 rfl rfl ?_
  refine v_ialdN (pc := 19) _ g dX1_holdsOf_19 rfl rfl (by omega) (Nat.le_of_ble_eq_true rfl) ?_
  refine v_top (fun x20 e20 => ?_)
  by_cases t20_1 : x20.toInt = 1
  · refine v_tin (pc := 20) 1 56 g dX1_holdsOf_20 t20_1 (by decide) (by decide) rfl rfl ?_
    rw [e20] at t20_1
    refine v_iload_n (pc := 56) 3 g dX1_holdsOf_56 rfl rfl ?_
    exact v_iret (pc := 57) g hret dX1_holdsOf_57 (⟨so_i (by unfold hld kSel; simp only [*, reduceIte, Int.reduceEq]; try rfl), rfl⟩)
  by_cases t20_2 : x20.toInt = 2
  · refine v_tin (pc := 20) 2 58 g dX1_holdsOf_20 t20_2 (by decide) (by decide) rfl rfl ?_
    rw [e20] at t20_2
    refine v_iload (pc := 58) g dX1_holdsOf_58 rfl ?_
    exact v_iret (pc := 60) g hret dX1_holdsOf_60 (⟨so_i (by unfold hld kSel; simp only [*, reduceIte, Int.reduceEq]; try rfl), rfl⟩)
  by_cases t20_3 : x20.toInt = 3
  · refine v_tin (pc := 20) 3 61 g dX1_holdsOf_20 t20_3 (by decide) (by decide) rfl rfl ?_
    rw [e20] at t20_3
    refine v_bipush (pc := 61) (v := 99) g dX1_holdsOf_61 (by decide) ?_
    exact v_iret (pc := 63) g hret dX1_holdsOf_63 (⟨so_i (by unfold hld kSel; simp only [*, reduceIte, Int.reduceEq]; try rfl), rfl⟩)
  by_cases t20_4 : x20.toInt = 4
  · refine v_tin (pc := 20) 4 64 g dX1_holdsOf_20 t20_4 (by decide) (by decide) rfl rfl ?_
    rw [e20] at t20_4
    refine v_iload_n (pc := 64) 3 g dX1_holdsOf_64 rfl rfl ?_
    refine v_iconst (pc := 65) (v := 5) g dX1_holdsOf_65 (by decide) ?_
    refine v_aload_n (pc := 66) 0 g dX1_holdsOf_66 rfl rfl ?_
    refine v_cVd (pc := 67) g dX1_holdsOf_67 lk_X1_68 (c_X1_lampsBurning s we) (Nat.le_of_ble_eq_true rfl) rfl rfl rfl rfl (Nat.le_of_ble_eq_true rfl) ?_
    refine v_imul (pc := 70) g dX1_holdsOf_70 ?_
    refine v_isub (pc := 71) g dX1_holdsOf_71 ?_
    exact v_iret (pc := 72) g hret dX1_holdsOf_72 (⟨so_i (by unfold hld kSel; simp only [*, reduceIte, Int.reduceEq]; try rfl), rfl⟩)
  by_cases t20_5 : x20.toInt = 5
  · refine v_tin (pc := 20) 5 73 g dX1_holdsOf_20 t20_5 (by decide) (by decide) rfl rfl ?_
    rw [e20] at t20_5
    refine v_iload (pc := 73) g dX1_holdsOf_73 rfl ?_
    exact v_iret (pc := 75) g hret dX1_holdsOf_75 (⟨so_i (by unfold hld kSel; simp only [*, reduceIte, Int.reduceEq]; try rfl), rfl⟩)
  refine v_tout (pc := 20) 76 g dX1_holdsOf_20 (by omega) rfl ?_
  rw [e20] at t20_1
  rw [e20] at t20_2
  rw [e20] at t20_3
  rw [e20] at t20_4
  rw [e20] at t20_5
  refine v_iload_n (pc := 76) 2 g dX1_holdsOf_76 rfl rfl ?_
  exact v_iret (pc := 77) g hret dX1_holdsOf_77 (⟨so_i (by unfold hld kSel; simp only [*, reduceIte, Int.reduceEq]; try rfl), rfl⟩)
set_option maxRecDepth 20000 in
set_option maxHeartbeats 2000000 in
theorem c_X1_blowsOf (s : St) (we : Int32) (i : Nat) (hi : i < 8) : RunD 0 yX1_blowsOf cX1_blowsOf 5 (some .int) [.ref 0, .int (nI i)] (stW s we) (some (.int (blw s i))) (stW s we) := by
  refine Runs.of (by decide) (Nat.le_of_ble_eq_true rfl) rfl ?_
  intro X g hret hnL
  refine v_iconst (pc := 0) (v := 1) g dX1_blowsOf_0 (by decide) ?_
  refine v_aload_n (pc := 1) 0 g dX1_blowsOf_1 rfl rfl ?_
  refine v_get (pc := 2) g dX1_blowsOf_2 fl_X1_40 rfl rfl ?_
  refine v_iload_n (pc := 5) 1 g dX1_blowsOf_5 rfl rfl ?_
  refine v_ialdN (pc := 6) _ g dX1_blowsOf_6 rfl rfl (by omega) (Nat.le_of_ble_eq_true rfl) ?_
  refine v_bipush (pc := 7) (v := 25) g dX1_blowsOf_7 (by decide) ?_
  refine v_idiv (pc := 9) g dX1_blowsOf_9 (by decide) ?_
  refine v_iadd (pc := 10) g dX1_blowsOf_10 ?_
  refine v_istore_n (pc := 11) 2 _ g dX1_blowsOf_11 rfl (Nat.le_of_ble_eq_true rfl) hnL.symm rfl ?_
  refine v_iconst (pc := 12) (v := 2) g dX1_blowsOf_12 (by decide) ?_
  refine v_iload_n (pc := 13) 2 g dX1_blowsOf_13 rfl rfl ?_
  refine v_imul (pc := 14) g dX1_blowsOf_14 ?_
  refine v_istore_n (pc := 15) 3 _ g dX1_blowsOf_15 rfl (Nat.le_of_ble_eq_true rfl) hnL.symm rfl ?_
  refine v_iconst (pc := 16) (v := 1) g dX1_blowsOf_16 (by decide) ?_
  refine v_istore (pc := 17) _ g dX1_blowsOf_17 (Nat.le_of_ble_eq_true rfl) hnL.symm rfl ?_
  refine v_aload_n (pc := 19) 0 g dX1_blowsOf_19 rfl rfl ?_
  refine v_get (pc := 20) g dX1_blowsOf_20 fl_X1_31 rfl rfl ?_
  refine v_iload_n (pc := 23) 1 g dX1_blowsOf_23 rfl rfl ?_
  refine v_ialdN (pc := 24) _ g dX1_blowsOf_24 rfl rfl (by omega) (Nat.le_of_ble_eq_true rfl) ?_
  refine v_top (fun x25 e25 => ?_)
  by_cases t25_1 : x25.toInt = 1
  · refine v_tin (pc := 25) 1 60 g dX1_blowsOf_25 t25_1 (by decide) (by decide) rfl rfl ?_
    rw [e25] at t25_1
    refine v_iload_n (pc := 60) 3 g dX1_blowsOf_60 rfl rfl ?_
    exact v_iret (pc := 61) g hret dX1_blowsOf_61 (⟨so_i (by unfold blw kSel; simp only [*, reduceIte, Int.reduceEq]; try rfl), rfl⟩)
  by_cases t25_2 : x25.toInt = 2
  · refine v_tin (pc := 25) 2 62 g dX1_blowsOf_25 t25_2 (by decide) (by decide) rfl rfl ?_
    rw [e25] at t25_2
    refine v_iload (pc := 62) g dX1_blowsOf_62 rfl ?_
    exact v_iret (pc := 64) g hret dX1_blowsOf_64 (⟨so_i (by unfold blw kSel; simp only [*, reduceIte, Int.reduceEq]; try rfl), rfl⟩)
  by_cases t25_3 : x25.toInt = 3
  · refine v_tin (pc := 25) 3 65 g dX1_blowsOf_25 t25_3 (by decide) (by decide) rfl rfl ?_
    rw [e25] at t25_3
    refine v_iconst (pc := 65) (v := 0) g dX1_blowsOf_65 (by decide) ?_
    exact v_iret (pc := 66) g hret dX1_blowsOf_66 (⟨so_i (by unfold blw kSel; simp only [*, reduceIte, Int.reduceEq]; try rfl), rfl⟩)
  by_cases t25_4 : x25.toInt = 4
  · refine v_tin (pc := 25) 4 67 g dX1_blowsOf_25 t25_4 (by decide) (by decide) rfl rfl ?_
    rw [e25] at t25_4
    refine v_iload_n (pc := 67) 3 g dX1_blowsOf_67 rfl rfl ?_
    refine v_iconst (pc := 68) (v := 1) g dX1_blowsOf_68 (by decide) ?_
    refine v_iadd (pc := 69) g dX1_blowsOf_69 ?_
    exact v_iret (pc := 70) g hret dX1_blowsOf_70 (⟨so_i (by unfold blw kSel; simp only [*, reduceIte, Int.reduceEq]; try rfl), rfl⟩)
  by_cases t25_5 : x25.toInt = 5
  · refine v_tin (pc := 25) 5 71 g dX1_blowsOf_25 t25_5 (by decide) (by decide) rfl rfl ?_
    rw [e25] at t25_5
    refine v_iload (pc := 71) g dX1_blowsOf_71 rfl ?_
    refine v_aload_n (pc := 73) 0 g dX1_blowsOf_73 rfl rfl ?_
    refine v_get (pc := 74) g dX1_blowsOf_74 fl_X1_40 rfl rfl ?_
    refine v_iload_n (pc := 77) 1 g dX1_blowsOf_77 rfl rfl ?_
    refine v_ialdN (pc := 78) _ g dX1_blowsOf_78 rfl rfl (by omega) (Nat.le_of_ble_eq_true rfl) ?_
    refine v_bipush (pc := 79) (v := 50) g dX1_blowsOf_79 (by decide) ?_
    refine v_idiv (pc := 81) g dX1_blowsOf_81 (by decide) ?_
    refine v_iadd (pc := 82) g dX1_blowsOf_82 ?_
    exact v_iret (pc := 83) g hret dX1_blowsOf_83 (⟨so_i (by unfold blw kSel; simp only [*, reduceIte, Int.reduceEq]; try rfl), rfl⟩)
  refine v_tout (pc := 25) 84 g dX1_blowsOf_25 (by omega) rfl ?_
  rw [e25] at t25_1
  rw [e25] at t25_2
  rw [e25] at t25_3
  rw [e25] at t25_4
  rw [e25] at t25_5
  refine v_iload_n (pc := 84) 2 g dX1_blowsOf_84 rfl rfl ?_
  exact v_iret (pc := 85) g hret dX1_blowsOf_85 (⟨so_i (by unfold blw kSel; simp only [*, reduceIte, Int.reduceEq]; try rfl), rfl⟩)
set_option maxRecDepth 20000 in
set_option maxHeartbeats 2000000 in
theorem c_X1_healsOf (s : St) (we : Int32) (i : Nat) (hi : i < 8) : RunD 0 yX1_healsOf cX1_healsOf 5 (some .int) [.ref 0, .int (nI i)] (stW s we) (some (.int (hea s i))) (stW s we) := by
  refine Runs.of (by decide) (Nat.le_of_ble_eq_true rfl) rfl ?_
  intro X g hret hnL
  refine v_iconst (pc := 0) (v := 1) g dX1_healsOf_0 (by decide) ?_
  refine v_istore_n (pc := 1) 2 _ g dX1_healsOf_1 rfl (Nat.le_of_ble_eq_true rfl) hnL.symm rfl ?_
  refine v_iconst (pc := 2) (v := 0) g dX1_healsOf_2 (by decide) ?_
  refine v_istore_n (pc := 3) 3 _ g dX1_healsOf_3 rfl (Nat.le_of_ble_eq_true rfl) hnL.symm rfl ?_
  refine v_iload_n (pc := 4) 2 g dX1_healsOf_4 rfl rfl ?_
  refine v_iconst (pc := 5) (v := 1) g dX1_healsOf_5 (by decide) ?_
  refine v_iadd (pc := 6) g dX1_healsOf_6 ?_
  refine v_istore (pc := 7) _ g dX1_healsOf_7 (Nat.le_of_ble_eq_true rfl) hnL.symm rfl ?_
  refine v_aload_n (pc := 9) 0 g dX1_healsOf_9 rfl rfl ?_
  refine v_get (pc := 10) g dX1_healsOf_10 fl_X1_31 rfl rfl ?_
  refine v_iload_n (pc := 13) 1 g dX1_healsOf_13 rfl rfl ?_
  refine v_ialdN (pc := 14) _ g dX1_healsOf_14 rfl rfl (by omega) (Nat.le_of_ble_eq_true rfl) ?_
  refine v_top (fun x15 e15 => ?_)
  by_cases t15_1 : x15.toInt = 1
  · refine v_tin (pc := 15) 1 48 g dX1_healsOf_15 t15_1 (by decide) (by decide) rfl rfl ?_
    rw [e15] at t15_1
    refine v_iload_n (pc := 48) 3 g dX1_healsOf_48 rfl rfl ?_
    exact v_iret (pc := 49) g hret dX1_healsOf_49 (⟨so_i (by unfold hea kSel; simp only [*, reduceIte, Int.reduceEq, Int32.zero_add]; try rfl), rfl⟩)
  by_cases t15_2 : x15.toInt = 2
  · refine v_tin (pc := 15) 2 50 g dX1_healsOf_15 t15_2 (by decide) (by decide) rfl rfl ?_
    rw [e15] at t15_2
    refine v_iload (pc := 50) g dX1_healsOf_50 rfl ?_
    exact v_iret (pc := 52) g hret dX1_healsOf_52 (⟨so_i (by unfold hea kSel; simp only [*, reduceIte, Int.reduceEq, Int32.zero_add]; try rfl), rfl⟩)
  by_cases t15_3 : x15.toInt = 3
  · refine v_tin (pc := 15) 3 53 g dX1_healsOf_15 t15_3 (by decide) (by decide) rfl rfl ?_
    rw [e15] at t15_3
    refine v_bipush (pc := 53) (v := 9) g dX1_healsOf_53 (by decide) ?_
    exact v_iret (pc := 55) g hret dX1_healsOf_55 (⟨so_i (by unfold hea kSel; simp only [*, reduceIte, Int.reduceEq, Int32.zero_add]; try rfl), rfl⟩)
  by_cases t15_4 : x15.toInt = 4
  · refine v_tin (pc := 15) 4 56 g dX1_healsOf_15 t15_4 (by decide) (by decide) rfl rfl ?_
    rw [e15] at t15_4
    refine v_iload_n (pc := 56) 3 g dX1_healsOf_56 rfl rfl ?_
    refine v_aload_n (pc := 57) 0 g dX1_healsOf_57 rfl rfl ?_
    refine v_get (pc := 58) g dX1_healsOf_58 fl_X1_15 rfl rfl ?_
    refine v_iconst (pc := 61) (v := 3) g dX1_healsOf_61 (by decide) ?_
    refine v_idiv (pc := 62) g dX1_healsOf_62 (by decide) ?_
    refine v_iadd (pc := 63) g dX1_healsOf_63 ?_
    exact v_iret (pc := 64) g hret dX1_healsOf_64 (⟨so_i (by unfold hea kSel; simp only [*, reduceIte, Int.reduceEq, Int32.zero_add]; try rfl), rfl⟩)
  by_cases t15_5 : x15.toInt = 5
  · refine v_tin (pc := 15) 5 65 g dX1_healsOf_15 t15_5 (by decide) (by decide) rfl rfl ?_
    rw [e15] at t15_5
    refine v_iload (pc := 65) g dX1_healsOf_65 rfl ?_
    refine v_iconst (pc := 67) (v := 1) g dX1_healsOf_67 (by decide) ?_
    refine v_isub (pc := 68) g dX1_healsOf_68 ?_
    exact v_iret (pc := 69) g hret dX1_healsOf_69 (⟨so_i (by unfold hea kSel; simp only [*, reduceIte, Int.reduceEq, Int32.zero_add]; try rfl), rfl⟩)
  refine v_tout (pc := 15) 70 g dX1_healsOf_15 (by omega) rfl ?_
  rw [e15] at t15_1
  rw [e15] at t15_2
  rw [e15] at t15_3
  rw [e15] at t15_4
  rw [e15] at t15_5
  refine v_iload_n (pc := 70) 2 g dX1_healsOf_70 rfl rfl ?_
  exact v_iret (pc := 71) g hret dX1_healsOf_71 (⟨so_i (by unfold hea kSel; simp only [*, reduceIte, Int.reduceEq, Int32.zero_add]; try rfl), rfl⟩)
set_option maxRecDepth 20000 in
set_option maxHeartbeats 2000000 in
theorem c_X1_ready (s : St) (we : Int32) (hI : Inv s) : RunD 2 yX1_ready cX1_ready 3 (some .int) [.ref 0] (stW s we) (some (.int (dueN s))) (stW s we) := by
  refine Runs.of (by decide) (Nat.le_of_ble_eq_true rfl) rfl ?_
  intro X g hret hnL
  refine v_iconst (pc := 0) (v := 0) g dX1_ready_0 (by decide) ?_
  refine v_istore_n (pc := 1) 1 _ g dX1_ready_1 rfl (Nat.le_of_ble_eq_true rfl) hnL.symm rfl ?_
  refine v_iconst (pc := 2) (v := 0) g dX1_ready_2 (by decide) ?_
  refine v_istore_n (pc := 3) 2 _ g dX1_ready_3 rfl (Nat.le_of_ble_eq_true rfl) hnL.symm rfl ?_
  have L4 : ∀ (fu : Nat) (k : Nat), k ≤ sN s → sN s - k < fu → V X 4 [some (.ref 0), some (.int (bitsN (fDue s) (k))), some (.int (nI (k)))] [] (stW s we) := by
    intro fu
    induction fu with
    | zero => intro k hk hm; exact absurd hm (Nat.not_lt_zero _)
    | succ fu ih =>
      intro k hk hm
      refine v_iload_n (pc := 4) 2 g dX1_ready_4 rfl rfl ?_
      refine v_aload_n (pc := 5) 0 g dX1_ready_5 rfl rfl ?_
      refine v_get (pc := 6) g dX1_ready_6 fl_X1_28 rfl rfl ?_
      refine v_icmp_ge (pc := 9) 38 g dX1_ready_9 rfl (fun c9 => ?_) (fun c9 => ?_)
      · have e9 : k = sN s := ge_t (n := sN s) rfl hk (by have := hI.n; omega) c9
        subst e9
        refine v_iload_n (pc := 38) 1 g dX1_ready_38 rfl rfl ?_
        exact v_iret (pc := 39) g hret dX1_ready_39 (⟨rfl, rfl⟩)
      · have e9 : k < sN s := ge_f (n := sN s) rfl hk (by have := hI.n; omega) c9
        refine v_aload_n (pc := 12) 0 g dX1_ready_12 rfl rfl ?_
        refine v_get (pc := 13) g dX1_ready_13 fl_X1_43 rfl rfl ?_
        refine v_iload_n (pc := 16) 2 g dX1_ready_16 rfl rfl ?_
        refine v_ialdN (pc := 17) _ g dX1_ready_17 rfl rfl (by have := hI.n; omega) (Nat.le_of_ble_eq_true rfl) ?_
        refine v_aload_n (pc := 18) 0 g dX1_ready_18 rfl rfl ?_
        refine v_iload_n (pc := 19) 2 g dX1_ready_19 rfl rfl ?_
        refine v_cVd (pc := 20) g dX1_ready_20 lk_X1_72 (c_X1_holdsOf s we k (by have := hI.n; omega)) (Nat.le_of_ble_eq_true rfl) rfl rfl rfl rfl (Nat.le_of_ble_eq_true rfl) ?_
        refine v_icmp_lt (pc := 23) 32 g dX1_ready_23 rfl (fun c23 => ?_) (fun c23 => ?_)
        · refine v_iincN (pc := 32) g dX1_ready_32 rfl hnL.symm ?_
          refine v_goto (pc := 35) 4 g dX1_ready_35 rfl ?_
          refine v_loE [some (.ref 0), some (.int (bitsN (fDue s) (k + 1))), some (.int (nI (k + 1)))] (by first | (rw [bits_t (p := fDue s) (decide_eq_true (Int32.not_lt.mp c23))]; rfl) | (rw [bits_f (p := fDue s) (decide_eq_false (Int32.not_le.mpr c23))]; rfl)) ?_
          exact ih (k + 1) (by omega) (by omega)
        · refine v_iload_n (pc := 26) 1 g dX1_ready_26 rfl rfl ?_
          refine v_iconst (pc := 27) (v := 1) g dX1_ready_27 (by decide) ?_
          refine v_iload_n (pc := 28) 2 g dX1_ready_28 rfl rfl ?_
          refine v_ishl (pc := 29) g dX1_ready_29 ?_
          refine v_ior (pc := 30) g dX1_ready_30 ?_
          refine v_istore_n (pc := 31) 1 _ g dX1_ready_31 rfl (Nat.le_of_ble_eq_true rfl) hnL.symm rfl ?_
          refine v_iincN (pc := 32) g dX1_ready_32 rfl hnL.symm ?_
          refine v_goto (pc := 35) 4 g dX1_ready_35 rfl ?_
          refine v_loE [some (.ref 0), some (.int (bitsN (fDue s) (k + 1))), some (.int (nI (k + 1)))] (by first | (rw [bits_t (p := fDue s) (decide_eq_true (Int32.not_lt.mp c23))]; rfl) | (rw [bits_f (p := fDue s) (decide_eq_false (Int32.not_le.mpr c23))]; rfl)) ?_
          exact ih (k + 1) (by omega) (by omega)
  exact L4 (sN s + 1) 0 (Nat.zero_le _) (by omega)
