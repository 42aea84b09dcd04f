/-! ===== the reference: its calls, V: what is best ===== -/
theorem bst_nat (f : Nat → Int32) : ∀ n, ∃ j, j ≤ n ∧ (bst f n).1 = nI j
  | 0 => ⟨0, Nat.le_refl _, rfl⟩
  | n + 1 => by
    rw [bst]
    split
    · exact ⟨n, by omega, rfl⟩
    · obtain ⟨j, hj, e⟩ := bst_nat f n
      exact ⟨j, by omega, e⟩
theorem lst_nat (f : Nat → Int32) : ∀ n, ∃ j, j ≤ n ∧ (lst f n).1 = nI j
  | 0 => ⟨0, Nat.le_refl _, rfl⟩
  | n + 1 => by
    rw [lst]
    split
    · exact ⟨n, by omega, rfl⟩
    · obtain ⟨j, hj, e⟩ := lst_nat f n
      exact ⟨j, by omega, e⟩
def bw (f : Nat → Int32) (k : Nat) : Int32 := if k = 0 then -1 else (bst f k).1
def lw1 (f : Nat → Int32) (k : Nat) : Int32 := if k = 0 then -1 else (lst f k).1
def lw2 (f : Nat → Int32) (k : Nat) : Int32 := if k = 0 then 0 else (lst f k).2
theorem inc1 (x : Int32) : x - 1 + Int32.ofInt 1 = x := Int32.sub_add_cancel x 1
set_option maxRecDepth 20000 in
set_option maxHeartbeats 2000000 in
theorem c_X5_open (S : St) {fo : Nat → Int32} {of : Int32} {tr : Nat → Int32} {b1 : Nat → Int32} {ta : Nat → Int32} {tm : Nat} {so : Int32} {be : Int32} {te : Int32} {wo : Int64} {va : Int32} {gd : Int32} {bi : Nat → Int32} {si : Nat → Int32} {sh : Nat → Int64} {le : Nat → Int64} {im : Nat → Int32} {bf : Nat → Int32} {kp : Int32} (n : Int32) (hI : Inv S) : Runs 8 yX5_open cX5_open 6 (some .int) [.ref 0, .int n] (mW (rowOf S) fo of tr b1 ta tm so be te wo va gd bi si sh le im bf kp) (fun r0 w0 => ∃ o1 t1, r0 = some (.int (r_21 S n)) ∧ w0 = mW (rowOf S) (fdI (inR n 1 60) fo 0) o1 t1 b1 ta tm so be te wo va gd bi si sh le im bf kp) := by
  refine Runs.of (by decide) (Nat.le_of_ble_eq_true rfl) rfl ?_
  intro X g hret hnL
  refine v_iload_n (pc := 0) 1 g dX5_open_0 rfl rfl ?_
  refine v_iconst (pc := 1) (v := 1) g dX5_open_1 (by decide) ?_
  refine v_bipush (pc := 2) (v := 60) g dX5_open_2 (by decide) ?_
  refine v_cSd (pc := 4) g dX5_open_4 lk_X5_45 ((c_X5_in _ _ _ 1 60 rfl rfl).any rfl rfl _) (Nat.le_of_ble_eq_true rfl) rfl rfl (Nat.le_of_ble_eq_true rfl) ?_
  refine v_ifb_ne (pc := 7) 17 g dX5_open_7 rfl (fun c7 => ?_) (fun c7 => ?_)
  · obtain ⟨m, hm, rfl⟩ := (show inR n 0 ((60 : Nat) : Int) from ⟨by have := c7.1; omega, c7.2⟩).nat (by omega)
    have em : (nI m).toNatClampNeg = m := nI_clamp (by omega)
    refine v_aload_n (pc := 17) 0 g dX5_open_17 rfl rfl ?_
    refine v_iconst (pc := 18) (v := 1) g dX5_open_18 (by decide) ?_
    refine v_aload_n (pc := 19) 0 g dX5_open_19 rfl rfl ?_
    refine v_get (pc := 20) g dX5_open_20 fl_X5_16 rfl rfl ?_
    refine v_cVd (pc := 23) g dX5_open_23 lk_X5_156 (c_mvK_tr (rowOf S)) (Nat.le_of_ble_eq_true rfl) rfl rfl rfl rfl (Nat.le_of_ble_eq_true rfl) ?_
    refine v_iconst (pc := 26) (v := 0) g dX5_open_26 (by decide) ?_
    refine v_istore_n (pc := 27) 2 _ g dX5_open_27 rfl (Nat.le_of_ble_eq_true rfl) hnL.symm rfl ?_
    refine v_iconst (pc := 28) (v := (-1)) g dX5_open_28 (by decide) ?_
    refine v_istore_n (pc := 29) 3 _ g dX5_open_29 rfl (Nat.le_of_ble_eq_true rfl) hnL.symm rfl ?_
    refine v_iconst (pc := 30) (v := 0) g dX5_open_30 (by decide) ?_
    refine v_istore (pc := 31) _ g dX5_open_31 (Nat.le_of_ble_eq_true rfl) hnL.symm rfl ?_
    refine v_fg [true, true, true, true, true, false] ?_
    have L33 : ∀ (fu : Nat) (of : Int32) (k : Nat), k ≤ 12 → 12 - k < fu → V X 33 [some (.ref 0), some (.int (nI m)), some (.int (bst (fun c => rd m (ch3 S c)) (k)).1), some (.int (bst (fun c => rd m (ch3 S c)) (k)).2), some (.int (nI (k))), none] [] (mW (rowOf S) fo of (rowOf S) b1 ta tm so be te wo va gd bi si sh le im bf kp) := by
      intro fu
      induction fu with
      | zero => intro of k hk hm; exact absurd hm (Nat.not_lt_zero _)
      | succ fu ih =>
        intro of k hk hm
        refine v_iload (pc := 33) g dX5_open_33 rfl ?_
        refine v_bipush (pc := 35) (v := 12) g dX5_open_35 (by decide) ?_
        refine v_icmp_ge (pc := 37) 95 g dX5_open_37 rfl (fun c37 => ?_) (fun c37 => ?_)
        · have e37 : k = 12 := ge_t (n := 12) rfl hk (by omega) c37
          subst e37
          refine v_iload_n (pc := 95) 2 g dX5_open_95 rfl rfl ?_
          exact v_iret (pc := 96) g hret dX5_open_96 (⟨_, _, so_i (by unfold r_21; rw [if_pos c7, em]), by unfold fdI; rw [if_pos c7]⟩)
        · have e37 : k < 12 := ge_f (n := 12) rfl hk (by omega) c37
          refine v_aload_n (pc := 40) 0 g dX5_open_40 rfl rfl ?_
          refine v_iload (pc := 41) g dX5_open_41 rfl ?_
          refine v_iconst (pc := 43) (v := 1) g dX5_open_43 (by decide) ?_
          refine v_iconst (pc := 44) (v := 1) g dX5_open_44 (by decide) ?_
          refine v_aload_n (pc := 45) 0 g dX5_open_45 rfl rfl ?_
          refine v_iload (pc := 46) g dX5_open_46 rfl ?_
          refine v_iconst (pc := 48) (v := 1) g dX5_open_48 (by decide) ?_
          refine v_cVd (pc := 49) g dX5_open_49 lk_X5_49 (c_st_Bo S k (by omega)) (Nat.le_of_ble_eq_true rfl) rfl rfl rfl rfl (Nat.le_of_ble_eq_true rfl) ?_
          refine v_isub (pc := 52) g dX5_open_52 ?_
          refine v_cVd (pc := 53) g dX5_open_53 lk_X5_128 (c_re_Bo S k _ (by omega)) (Nat.le_of_ble_eq_true rfl) rfl rfl rfl rfl (Nat.le_of_ble_eq_true rfl) ?_
          refine v_w (mW (rowOf (ch3 S k)) fo of (rowOf S) b1 ta tm so be te wo va gd bi si sh le im bf kp) rfl ?_
          refine v_aload_n (pc := 56) 0 g dX5_open_56 rfl rfl ?_
          refine v_iload_n (pc := 57) 1 g dX5_open_57 rfl rfl ?_
          refine v_cVd (pc := 58) g dX5_open_58 lk_X5_167 (c_X5_readBehind (tr := tr) (ch3 S k) S m (hI.ch3 k) (by omega)) (Nat.le_of_ble_eq_true rfl) rfl rfl rfl rfl (Nat.le_of_ble_eq_true rfl) ?_
          refine v_istore (pc := 61) _ g dX5_open_61 (Nat.le_of_ble_eq_true rfl) hnL.symm rfl ?_
          refine v_iload (pc := 63) g dX5_open_63 rfl ?_
          refine v_iload_n (pc := 65) 3 g dX5_open_65 rfl rfl ?_
          refine v_icmp_le (pc := 66) 74 g dX5_open_66 rfl (fun c66 => ?_) (fun c66 => ?_)
          · have eb : bst (fun c => rd m (ch3 S c)) (k + 1) = bst (fun c => rd m (ch3 S c)) k := if_neg (Int32.not_lt.mpr c66)
            refine v_iload_n (pc := 74) 2 g dX5_open_74 rfl rfl ?_
            refine v_istore_n (pc := 75) 2 _ g dX5_open_75 rfl (Nat.le_of_ble_eq_true rfl) hnL.symm rfl ?_
            refine v_iload (pc := 76) g dX5_open_76 rfl ?_
            refine v_iload_n (pc := 78) 3 g dX5_open_78 rfl rfl ?_
            refine v_icmp_le (pc := 79) 87 g dX5_open_79 rfl (fun c79 => ?_) (fun c79 => ?_)
            · refine v_iload_n (pc := 87) 3 g dX5_open_87 rfl rfl ?_
              refine v_istore_n (pc := 88) 3 _ g dX5_open_88 rfl (Nat.le_of_ble_eq_true rfl) hnL.symm rfl ?_
              refine v_iincN (pc := 89) g dX5_open_89 rfl hnL.symm ?_
              refine v_goto (pc := 92) 33 g dX5_open_92 rfl ?_
              refine v_fg [true, true, true, true, true, false] ?_
              first | (refine v_loE [some (.ref 0), some (.int (nI m)), some (.int (bst (fun c => rd m (ch3 S c)) (k + 1)).1), some (.int (bst (fun c => rd m (ch3 S c)) (k + 1)).2), some (.int (nI (k + 1))), none] (by rw [eb]; rfl) ?_; exact ih _ (k + 1) (by omega) (by omega)) | exact absurd c66 c79 | exact absurd c79 c66
            · refine v_iload (pc := 82) g dX5_open_82 rfl ?_
              refine v_goto (pc := 84) 88 g dX5_open_84 rfl ?_
              refine v_istore_n (pc := 88) 3 _ g dX5_open_88 rfl (Nat.le_of_ble_eq_true rfl) hnL.symm rfl ?_
              refine v_iincN (pc := 89) g dX5_open_89 rfl hnL.symm ?_
              refine v_goto (pc := 92) 33 g dX5_open_92 rfl ?_
              refine v_fg [true, true, true, true, true, false] ?_
              first | (refine v_loE [some (.ref 0), some (.int (nI m)), some (.int (bst (fun c => rd m (ch3 S c)) (k + 1)).1), some (.int (bst (fun c => rd m (ch3 S c)) (k + 1)).2), some (.int (nI (k + 1))), none] (by rw [eb]; rfl) ?_; exact ih _ (k + 1) (by omega) (by omega)) | exact absurd c66 c79 | exact absurd c79 c66
          · have eb : bst (fun c => rd m (ch3 S c)) (k + 1) = (nI k, rd m (ch3 S k)) := if_pos (Int32.not_le.mp c66)
            refine v_iload (pc := 69) g dX5_open_69 rfl ?_
            refine v_goto (pc := 71) 75 g dX5_open_71 rfl ?_
            refine v_istore_n (pc := 75) 2 _ g dX5_open_75 rfl (Nat.le_of_ble_eq_true rfl) hnL.symm rfl ?_
            refine v_iload (pc := 76) g dX5_open_76 rfl ?_
            refine v_iload_n (pc := 78) 3 g dX5_open_78 rfl rfl ?_
            refine v_icmp_le (pc := 79) 87 g dX5_open_79 rfl (fun c79 => ?_) (fun c79 => ?_)
            · refine v_iload_n (pc := 87) 3 g dX5_open_87 rfl rfl ?_
              refine v_istore_n (pc := 88) 3 _ g dX5_open_88 rfl (Nat.le_of_ble_eq_true rfl) hnL.symm rfl ?_
              refine v_iincN (pc := 89) g dX5_open_89 rfl hnL.symm ?_
              refine v_goto (pc := 92) 33 g dX5_open_92 rfl ?_
              refine v_fg [true, true, true, true, true, false] ?_
              first | (refine v_loE [some (.ref 0), some (.int (nI m)), some (.int (bst (fun c => rd m (ch3 S c)) (k + 1)).1), some (.int (bst (fun c => rd m (ch3 S c)) (k + 1)).2), some (.int (nI (k + 1))), none] (by rw [eb]; rfl) ?_; exact ih _ (k + 1) (by omega) (by omega)) | exact absurd c66 c79 | exact absurd c79 c66
            · refine v_iload (pc := 82) g dX5_open_82 rfl ?_
              refine v_goto (pc := 84) 88 g dX5_open_84 rfl ?_
              refine v_istore_n (pc := 88) 3 _ g dX5_open_88 rfl (Nat.le_of_ble_eq_true rfl) hnL.symm rfl ?_
              refine v_iincN (pc := 89) g dX5_open_89 rfl hnL.symm ?_
              refine v_goto (pc := 92) 33 g dX5_open_92 rfl ?_
              refine v_fg [true, true, true, true, true, false] ?_
              first | (refine v_loE [some (.ref 0), some (.int (nI m)), some (.int (bst (fun c => rd m (ch3 S c)) (k + 1)).1), some (.int (bst (fun c => rd m (ch3 S c)) (k + 1)).2), some (.int (nI (k + 1))), none] (by rw [eb]; rfl) ?_; exact ih _ (k + 1) (by omega) (by omega)) | exact absurd c66 c79 | exact absurd c79 c66
    exact L33 13 _ 0 (Nat.zero_le _) (by omega)
  · refine v_aload_n (pc := 10) 0 g dX5_open_10 rfl rfl ?_
    refine v_ldc (pc := 11) g dX5_open_11 co_X5_44 ?_
    refine v_cVd (pc := 13) g dX5_open_13 lk_X5_81 (c_X5_finds _ 0 (-1000000001) (by decide) (by decide)) (Nat.le_of_ble_eq_true rfl) rfl rfl rfl rfl (Nat.le_of_ble_eq_true rfl) ?_
    exact v_iret (pc := 16) g hret dX5_open_16 (⟨_, _, so_i (by unfold r_21; rw [if_neg c7]), by unfold fdI; rw [if_neg c7]⟩)
set_option maxRecDepth 20000 in
set_option maxHeartbeats 2000000 in
theorem c_X5_feather (S : St) {fo : Nat → Int32} {of : Int32} {tr : Nat → Int32} {b1 : Nat → Int32} {ta : Nat → Int32} {tm : Nat} {so : Int32} {be : Int32} {te : Int32} {wo : Int64} {va : Int32} {gd : Int32} {bi : Nat → Int32} {si : Nat → Int32} {sh : Nat → Int64} {le : Nat → Int64} {im : Nat → Int32} {bf : Nat → Int32} {kp : Int32} (n : Int32) (hI : Inv S) : Runs 8 yX5_feather cX5_feather 6 (some .int) [.ref 0, .int n] (mW (rowOf S) fo of tr b1 ta tm so be te wo va gd bi si sh le im bf kp) (fun r0 w0 => ∃ o1 t1, r0 = some (.int (r_15 S n)) ∧ w0 = mW (rowOf S) (f_15 S fo n) o1 t1 b1 ta tm so be te wo va gd bi si sh le im bf kp) := by
  refine Runs.of (by decide) (Nat.le_of_ble_eq_true rfl) rfl ?_
  intro X g hret hnL
  refine v_iload_n (pc := 0) 1 g dX5_feather_0 rfl rfl ?_
  refine v_iconst (pc := 1) (v := 1) g dX5_feather_1 (by decide) ?_
  refine v_bipush (pc := 2) (v := 60) g dX5_feather_2 (by decide) ?_
  refine v_cSd (pc := 4) g dX5_feather_4 lk_X5_45 ((c_X5_in _ _ _ 1 60 rfl rfl).any rfl rfl _) (Nat.le_of_ble_eq_true rfl) rfl rfl (Nat.le_of_ble_eq_true rfl) ?_
  refine v_ifb_ne (pc := 7) 17 g dX5_feather_7 rfl (fun c7 => ?_) (fun c7 => ?_)
  · obtain ⟨m, hm, rfl⟩ := (show inR n 0 ((60 : Nat) : Int) from ⟨by have := c7.1; omega, c7.2⟩).nat (by omega)
    have em : (nI m).toNatClampNeg = m := nI_clamp (by omega)
    refine v_aload_n (pc := 17) 0 g dX5_feather_17 rfl rfl ?_
    refine v_iconst (pc := 18) (v := 1) g dX5_feather_18 (by decide) ?_
    refine v_aload_n (pc := 19) 0 g dX5_feather_19 rfl rfl ?_
    refine v_get (pc := 20) g dX5_feather_20 fl_X5_16 rfl rfl ?_
    refine v_cVd (pc := 23) g dX5_feather_23 lk_X5_156 (c_mvK_tr (rowOf S)) (Nat.le_of_ble_eq_true rfl) rfl rfl rfl rfl (Nat.le_of_ble_eq_true rfl) ?_
    refine v_iconst (pc := 26) (v := (-1)) g dX5_feather_26 (by decide) ?_
    refine v_istore_n (pc := 27) 2 _ g dX5_feather_27 rfl (Nat.le_of_ble_eq_true rfl) hnL.symm rfl ?_
    refine v_iconst (pc := 28) (v := (-1)) g dX5_feather_28 (by decide) ?_
    refine v_istore_n (pc := 29) 3 _ g dX5_feather_29 rfl (Nat.le_of_ble_eq_true rfl) hnL.symm rfl ?_
    refine v_iconst (pc := 30) (v := 0) g dX5_feather_30 (by decide) ?_
    refine v_istore (pc := 31) _ g dX5_feather_31 (Nat.le_of_ble_eq_true rfl) hnL.symm rfl ?_
    refine v_fg [true, true, true, true, true, false] ?_
    have L33 : ∀ (fu : Nat) (of : Int32) (k : Nat), k ≤ sN S → sN S - k < fu → V X 33 [some (.ref 0), some (.int (nI m)), some (.int (bw (fun c => rd m (ch0 S c)) (k))), some (.int (bst (fun c => rd m (ch0 S c)) (k)).2), some (.int (nI (k))), none] [] (mW (rowOf S) fo of (rowOf S) b1 ta tm so be te wo va gd bi si sh le im bf kp) := by
      intro fu
      induction fu with
      | zero => intro of k hk hm; exact absurd hm (Nat.not_lt_zero _)
      | succ fu ih =>
        intro of k hk hm
        refine v_iload (pc := 33) g dX5_feather_33 rfl ?_
        refine v_aload_n (pc := 35) 0 g dX5_feather_35 rfl rfl ?_
        refine v_get (pc := 36) g dX5_feather_36 fl_X5_7 rfl rfl ?_
        refine v_iconst (pc := 39) (v := 2) g dX5_feather_39 (by decide) ?_
        refine v_ialdN (pc := 40) _ g dX5_feather_40 rfl rfl (Nat.le_of_ble_eq_true rfl) (Nat.le_of_ble_eq_true rfl) ?_
        rw [row_N]
        refine v_icmp_ge (pc := 41) 92 g dX5_feather_41 rfl (fun c41 => ?_) (fun c41 => ?_)
        · have e41 : k = sN S := ge_t (n := sN S) rfl hk (by have := hI.n; omega) c41
          subst e41
          refine v_iload_n (pc := 92) 2 g dX5_feather_92 rfl rfl ?_
          refine v_if_ge (pc := 93) 105 g dX5_feather_93 rfl (fun c93 => ?_) (fun c93 => ?_)
          · have e93 : ¬ sN S = 0 := fun z => by unfold bw at c93; rw [if_pos z] at c93; exact absurd c93 (by decide)
            refine v_iload_n (pc := 105) 2 g dX5_feather_105 rfl rfl ?_
            exact v_iret (pc := 106) g hret dX5_feather_106 (by first | exact ⟨_, _, so_i (by unfold r_15 r15k; rw [if_pos c7, if_neg e93, em]; unfold bw; rw [if_neg e93]), by unfold f_15 f15k; rw [if_pos c7, if_neg e93]⟩ | exact ⟨_, _, so_i (by unfold r_15 r15k; rw [if_pos c7, if_pos e93]), by unfold f_15 f15k; rw [if_pos c7, if_pos e93]⟩)
          · have e93 : sN S = 0 := by rcases Nat.eq_zero_or_pos (sN S) with z | z; exact z; exact absurd (by unfold bw; rw [if_neg (by omega)]; obtain ⟨j, hj, e⟩ := bst_nat (fun c => rd m (ch0 S c)) (sN S); rw [e]; exact nI_pos' (by have := hI.n; omega)) c93
            refine v_aload_n (pc := 96) 0 g dX5_feather_96 rfl rfl ?_
            refine v_ldc (pc := 97) g dX5_feather_97 co_X5_166 ?_
            refine v_cVd (pc := 99) g dX5_feather_99 lk_X5_81 (c_X5_finds _ 3 (-1000000004) (by decide) (by decide)) (Nat.le_of_ble_eq_true rfl) rfl rfl rfl rfl (Nat.le_of_ble_eq_true rfl) ?_
            refine v_goto (pc := 102) 106 g dX5_feather_102 rfl ?_
            exact v_iret (pc := 106) g hret dX5_feather_106 (by first | exact ⟨_, _, so_i (by unfold r_15 r15k; rw [if_pos c7, if_neg e93, em]; unfold bw; rw [if_neg e93]), by unfold f_15 f15k; rw [if_pos c7, if_neg e93]⟩ | exact ⟨_, _, so_i (by unfold r_15 r15k; rw [if_pos c7, if_pos e93]), by unfold f_15 f15k; rw [if_pos c7, if_pos e93]⟩)
        · have e41 : k < sN S := ge_f (n := sN S) rfl hk (by have := hI.n; omega) c41
          refine v_aload_n (pc := 44) 0 g dX5_feather_44 rfl rfl ?_
          refine v_iload (pc := 45) g dX5_feather_45 rfl ?_
          refine v_iconst (pc := 47) (v := 4) g dX5_feather_47 (by decide) ?_
          refine v_bipush (pc := 48) (v := 99) g dX5_feather_48 (by decide) ?_
          refine v_cVd (pc := 50) g dX5_feather_50 lk_X5_99 (c_pu_Ti S k 99 (by have := hI.n; omega)) (Nat.le_of_ble_eq_true rfl) rfl rfl rfl rfl (Nat.le_of_ble_eq_true rfl) ?_
          refine v_w (mW (rowOf (ch0 S k)) fo of (rowOf S) b1 ta tm so be te wo va gd bi si sh le im bf kp) rfl ?_
          refine v_aload_n (pc := 53) 0 g dX5_feather_53 rfl rfl ?_
          refine v_iload_n (pc := 54) 1 g dX5_feather_54 rfl rfl ?_
          refine v_cVd (pc := 55) g dX5_feather_55 lk_X5_167 (c_X5_readBehind (tr := tr) (ch0 S k) S m (hI.ch0 k) (by omega)) (Nat.le_of_ble_eq_true rfl) rfl rfl rfl rfl (Nat.le_of_ble_eq_true rfl) ?_
          refine v_istore (pc := 58) _ g dX5_feather_58 (Nat.le_of_ble_eq_true rfl) hnL.symm rfl ?_
          refine v_iload (pc := 60) g dX5_feather_60 rfl ?_
          refine v_iload_n (pc := 62) 3 g dX5_feather_62 rfl rfl ?_
          refine v_icmp_le (pc := 63) 71 g dX5_feather_63 rfl (fun c63 => ?_) (fun c63 => ?_)
          · have hk0 : ¬ k = 0 := fun z => by subst z; obtain ⟨a, ha, ea⟩ := rd_nat m (hI.ch0 0); exact absurd c63 (by show ¬ rd m (ch0 S 0) ≤ -1; rw [ea, i_le, nI_toInt (by omega)]; have : (-1 : Int32).toInt = -1 := rfl; omega)
            have eb : bst (fun c => rd m (ch0 S c)) (k + 1) = bst (fun c => rd m (ch0 S c)) k := if_neg (Int32.not_lt.mpr c63)
            have ew : bw (fun c => rd m (ch0 S c)) (k + 1) = bw (fun c => rd m (ch0 S c)) k := by unfold bw; rw [if_neg (by omega), if_neg hk0, eb]
            refine v_iload_n (pc := 71) 2 g dX5_feather_71 rfl rfl ?_
            refine v_istore_n (pc := 72) 2 _ g dX5_feather_72 rfl (Nat.le_of_ble_eq_true rfl) hnL.symm rfl ?_
            refine v_iload (pc := 73) g dX5_feather_73 rfl ?_
            refine v_iload_n (pc := 75) 3 g dX5_feather_75 rfl rfl ?_
            refine v_icmp_le (pc := 76) 84 g dX5_feather_76 rfl (fun c76 => ?_) (fun c76 => ?_)
            · refine v_iload_n (pc := 84) 3 g dX5_feather_84 rfl rfl ?_
              refine v_istore_n (pc := 85) 3 _ g dX5_feather_85 rfl (Nat.le_of_ble_eq_true rfl) hnL.symm rfl ?_
              refine v_iincN (pc := 86) g dX5_feather_86 rfl hnL.symm ?_
              refine v_goto (pc := 89) 33 g dX5_feather_89 rfl ?_
              refine v_fg [true, true, true, true, true, false] ?_
              first | (refine v_loE [some (.ref 0), some (.int (nI m)), some (.int (bw (fun c => rd m (ch0 S c)) (k + 1))), some (.int (bst (fun c => rd m (ch0 S c)) (k + 1)).2), some (.int (nI (k + 1))), none] (by rw [ew, eb]; rfl) ?_; exact ih _ (k + 1) (by omega) (by omega)) | exact absurd c63 c76 | exact absurd c76 c63
            · refine v_iload (pc := 79) g dX5_feather_79 rfl ?_
              refine v_goto (pc := 81) 85 g dX5_feather_81 rfl ?_
              refine v_istore_n (pc := 85) 3 _ g dX5_feather_85 rfl (Nat.le_of_ble_eq_true rfl) hnL.symm rfl ?_
              refine v_iincN (pc := 86) g dX5_feather_86 rfl hnL.symm ?_
              refine v_goto (pc := 89) 33 g dX5_feather_89 rfl ?_
              refine v_fg [true, true, true, true, true, false] ?_
              first | (refine v_loE [some (.ref 0), some (.int (nI m)), some (.int (bw (fun c => rd m (ch0 S c)) (k + 1))), some (.int (bst (fun c => rd m (ch0 S c)) (k + 1)).2), some (.int (nI (k + 1))), none] (by rw [ew, eb]; rfl) ?_; exact ih _ (k + 1) (by omega) (by omega)) | exact absurd c63 c76 | exact absurd c76 c63
          · have eb : bst (fun c => rd m (ch0 S c)) (k + 1) = (nI k, rd m (ch0 S k)) := if_pos (Int32.not_le.mp c63)
            have ew : bw (fun c => rd m (ch0 S c)) (k + 1) = nI k := by unfold bw; rw [if_neg (by omega), eb]
            refine v_iload (pc := 66) g dX5_feather_66 rfl ?_
            refine v_goto (pc := 68) 72 g dX5_feather_68 rfl ?_
            refine v_istore_n (pc := 72) 2 _ g dX5_feather_72 rfl (Nat.le_of_ble_eq_true rfl) hnL.symm rfl ?_
            refine v_iload (pc := 73) g dX5_feather_73 rfl ?_
            refine v_iload_n (pc := 75) 3 g dX5_feather_75 rfl rfl ?_
            refine v_icmp_le (pc := 76) 84 g dX5_feather_76 rfl (fun c76 => ?_) (fun c76 => ?_)
            · refine v_iload_n (pc := 84) 3 g dX5_feather_84 rfl rfl ?_
              refine v_istore_n (pc := 85) 3 _ g dX5_feather_85 rfl (Nat.le_of_ble_eq_true rfl) hnL.symm rfl ?_
              refine v_iincN (pc := 86) g dX5_feather_86 rfl hnL.symm ?_
              refine v_goto (pc := 89) 33 g dX5_feather_89 rfl ?_
              refine v_fg [true, true, true, true, true, false] ?_
              first | (refine v_loE [some (.ref 0), some (.int (nI m)), some (.int (bw (fun c => rd m (ch0 S c)) (k + 1))), some (.int (bst (fun c => rd m (ch0 S c)) (k + 1)).2), some (.int (nI (k + 1))), none] (by rw [ew, eb]; rfl) ?_; exact ih _ (k + 1) (by omega) (by omega)) | exact absurd c63 c76 | exact absurd c76 c63
            · refine v_iload (pc := 79) g dX5_feather_79 rfl ?_
              refine v_goto (pc := 81) 85 g dX5_feather_81 rfl ?_
              refine v_istore_n (pc := 85) 3 _ g dX5_feather_85 rfl (Nat.le_of_ble_eq_true rfl) hnL.symm rfl ?_
              refine v_iincN (pc := 86) g dX5_feather_86 rfl hnL.symm ?_
              refine v_goto (pc := 89) 33 g dX5_feather_89 rfl ?_
              refine v_fg [true, true, true, true, true, false] ?_
              first | (refine v_loE [some (.ref 0), some (.int (nI m)), some (.int (bw (fun c => rd m (ch0 S c)) (k + 1))), some (.int (bst (fun c => rd m (ch0 S c)) (k + 1)).2), some (.int (nI (k + 1))), none] (by rw [ew, eb]; rfl) ?_; exact ih _ (k + 1) (by omega) (by omega)) | exact absurd c63 c76 | exact absurd c76 c63
    exact L33 (sN S + 1) _ 0 (Nat.zero_le _) (by omega)
  · refine v_aload_n (pc := 10) 0 g dX5_feather_10 rfl rfl ?_
    refine v_ldc (pc := 11) g dX5_feather_11 co_X5_44 ?_
    refine v_cVd (pc := 13) g dX5_feather_13 lk_X5_81 (c_X5_finds _ 0 (-1000000001) (by decide) (by decide)) (Nat.le_of_ble_eq_true rfl) rfl rfl rfl rfl (Nat.le_of_ble_eq_true rfl) ?_
    exact v_iret (pc := 16) g hret dX5_feather_16 (⟨_, _, so_i (by unfold r_15; rw [if_neg c7]), by unfold f_15; rw [if_neg c7]⟩)
set_option maxRecDepth 20000 in
set_option maxHeartbeats 2000000 in
theorem c_X5_driest (S : St) {fo : Nat → Int32} {of : Int32} {tr : Nat → Int32} {b1 : Nat → Int32} {ta : Nat → Int32} {tm : Nat} {so : Int32} {be : Int32} {te : Int32} {wo : Int64} {va : Int32} {gd : Int32} {bi : Nat → Int32} {si : Nat → Int32} {sh : Nat → Int64} {le : Nat → Int64} {im : Nat → Int32} {bf : Nat → Int32} {kp : Int32} (n v : Int32) (hI : Inv S) : Runs 8 yX5_driest cX5_driest 5 (some .int) [.ref 0, .int n, .int v] (mW (rowOf S) fo of tr b1 ta tm so be te wo va gd bi si sh le im bf kp) (fun r0 w0 => ∃ o1 t1, r0 = some (.int (r_18 S n v)) ∧ w0 = mW (rowOf S) (f_18 S fo n v) o1 t1 b1 ta tm so be te wo va gd bi si sh le im bf kp) := by
  refine Runs.of (by decide) (Nat.le_of_ble_eq_true rfl) rfl ?_
  intro X g hret hnL
  refine v_iload_n (pc := 0) 1 g dX5_driest_0 rfl rfl ?_
  refine v_iconst (pc := 1) (v := 1) g dX5_driest_1 (by decide) ?_
  refine v_bipush (pc := 2) (v := 60) g dX5_driest_2 (by decide) ?_
  refine v_cSd (pc := 4) g dX5_driest_4 lk_X5_45 ((c_X5_in _ _ _ 1 60 rfl rfl).any rfl rfl _) (Nat.le_of_ble_eq_true rfl) rfl rfl (Nat.le_of_ble_eq_true rfl) ?_
  refine v_ifb_eq (pc := 7) 20 g dX5_driest_7 rfl (fun c7 => ?_) (fun c7 => ?_)
  · refine v_aload_n (pc := 20) 0 g dX5_driest_20 rfl rfl ?_
    refine v_ldc (pc := 21) g dX5_driest_21 co_X5_44 ?_
    refine v_cVd (pc := 23) g dX5_driest_23 lk_X5_81 (c_X5_finds _ 0 (-1000000001) (by decide) (by decide)) (Nat.le_of_ble_eq_true rfl) rfl rfl rfl rfl (Nat.le_of_ble_eq_true rfl) ?_
    exact v_iret (pc := 26) g hret dX5_driest_26 (⟨_, _, so_i (by unfold r_18; rw [if_neg (by omega)]), by unfold f_18; rw [if_neg (by omega)]⟩)
  · refine v_iload_n (pc := 10) 2 g dX5_driest_10 rfl rfl ?_
    refine v_iconst (pc := 11) (v := 0) g dX5_driest_11 (by decide) ?_
    refine v_ldc (pc := 12) g dX5_driest_12 co_X5_151 ?_
    refine v_cSd (pc := 14) g dX5_driest_14 lk_X5_45 ((c_X5_in _ _ _ 0 99999 rfl rfl).any rfl rfl _) (Nat.le_of_ble_eq_true rfl) rfl rfl (Nat.le_of_ble_eq_true rfl) ?_
    refine v_ifb_ne (pc := 17) 27 g dX5_driest_17 rfl (fun c17 => ?_) (fun c17 => ?_)
    · have hC : C18 n v := ⟨c7, c17⟩
      obtain ⟨m, hm, rfl⟩ := (show inR n 0 ((60 : Nat) : Int) from ⟨by have := c7.1; omega, c7.2⟩).nat (by omega)
      have em : (nI m).toNatClampNeg = m := nI_clamp (by omega)
      refine v_aload_n (pc := 27) 0 g dX5_driest_27 rfl rfl ?_
      refine v_iconst (pc := 28) (v := 1) g dX5_driest_28 (by decide) ?_
      refine v_aload_n (pc := 29) 0 g dX5_driest_29 rfl rfl ?_
      refine v_get (pc := 30) g dX5_driest_30 fl_X5_16 rfl rfl ?_
      refine v_cVd (pc := 33) g dX5_driest_33 lk_X5_156 (c_mvK_tr (rowOf S)) (Nat.le_of_ble_eq_true rfl) rfl rfl rfl rfl (Nat.le_of_ble_eq_true rfl) ?_
      refine v_bipush (pc := 36) (v := 10) g dX5_driest_36 (by decide) ?_
      refine v_istore_n (pc := 38) 3 _ g dX5_driest_38 rfl (Nat.le_of_ble_eq_true rfl) hnL.symm rfl ?_
      refine v_iconst (pc := 39) (v := 0) g dX5_driest_39 (by decide) ?_
      refine v_istore (pc := 40) _ g dX5_driest_40 (Nat.le_of_ble_eq_true rfl) hnL.symm rfl ?_
      have L42 : ∀ (fu : Nat) (of : Int32) (b : Bool) (j : Nat), j ≤ 10 → (b = true → dwn (dP S v m) 10 = some j) → (b = false → dwn (dP S v m) 10 = dwn (dP S v m) j) → j < fu → V X 42 [some (.ref 0), some (.int (nI m)), some (.int v), some (.int (nI j)), some (.int (bI (b = true)))] [] (mW (rowOf S) fo of (rowOf S) b1 ta tm so be te wo va gd bi si sh le im bf kp) := by
        intro fu
        induction fu with
        | zero => intro of b j hj h1 h2 hm; exact absurd hm (Nat.not_lt_zero _)
        | succ fu ih =>
          intro of b j hj h1 h2 hm
          refine v_iload_n (pc := 42) 3 g dX5_driest_42 rfl rfl ?_
          refine v_if_le (pc := 43) 80 g dX5_driest_43 rfl (fun c43 => ?_) (fun c43 => ?_)
          · have e43 : j = 0 := by have := (nI_leI (a := j) (b := 0) (by omega) (by omega)).mp c43; omega
            subst e43
            refine v_iload (pc := 80) g dX5_driest_80 rfl ?_
            refine v_ifb_eq (pc := 82) 89 g dX5_driest_82 rfl (fun c82 => ?_) (fun c82 => ?_)
            · refine v_aload_n (pc := 89) 0 g dX5_driest_89 rfl rfl ?_
              refine v_ldc (pc := 90) g dX5_driest_90 co_X5_166 ?_
              refine v_cVd (pc := 92) g dX5_driest_92 lk_X5_81 (c_X5_finds _ 3 (-1000000004) (by decide) (by decide)) (Nat.le_of_ble_eq_true rfl) rfl rfl rfl rfl (Nat.le_of_ble_eq_true rfl) ?_
              exact v_iret (pc := 95) g hret dX5_driest_95 (by first | exact ⟨_, _, so_i (by unfold r_18 a_18; rw [if_pos hC, em, h1 c82]; rfl), by unfold f_18 a_18; rw [if_pos hC, em, h1 c82]; rfl⟩ | exact ⟨_, _, so_i (by unfold r_18 a_18; rw [if_pos hC, em, h2 (Bool.eq_false_iff.mpr c82)]; rfl), by unfold f_18 a_18; rw [if_pos hC, em, h2 (Bool.eq_false_iff.mpr c82)]; rfl⟩ | exact absurd c48 c82)
            · refine v_iload_n (pc := 85) 3 g dX5_driest_85 rfl rfl ?_
              refine v_goto (pc := 86) 95 g dX5_driest_86 rfl ?_
              exact v_iret (pc := 95) g hret dX5_driest_95 (by first | exact ⟨_, _, so_i (by unfold r_18 a_18; rw [if_pos hC, em, h1 c82]; rfl), by unfold f_18 a_18; rw [if_pos hC, em, h1 c82]; rfl⟩ | exact ⟨_, _, so_i (by unfold r_18 a_18; rw [if_pos hC, em, h2 (Bool.eq_false_iff.mpr c82)]; rfl), by unfold f_18 a_18; rw [if_pos hC, em, h2 (Bool.eq_false_iff.mpr c82)]; rfl⟩ | exact absurd c48 c82)
          · have e43 : 0 < j := Nat.not_le.mp (fun z => c43 ((nI_leI (a := j) (b := 0) (by omega) (by omega)).mpr z))
            obtain ⟨j, rfl⟩ : ∃ z, j = z + 1 := ⟨j - 1, by omega⟩
            refine v_iload (pc := 46) g dX5_driest_46 rfl ?_
            refine v_ifb_ne (pc := 48) 80 g dX5_driest_48 rfl (fun c48 => ?_) (fun c48 => ?_)
            · refine v_iload (pc := 80) g dX5_driest_80 rfl ?_
              refine v_ifb_eq (pc := 82) 89 g dX5_driest_82 rfl (fun c82 => ?_) (fun c82 => ?_)
              · refine v_aload_n (pc := 89) 0 g dX5_driest_89 rfl rfl ?_
                refine v_ldc (pc := 90) g dX5_driest_90 co_X5_166 ?_
                refine v_cVd (pc := 92) g dX5_driest_92 lk_X5_81 (c_X5_finds _ 3 (-1000000004) (by decide) (by decide)) (Nat.le_of_ble_eq_true rfl) rfl rfl rfl rfl (Nat.le_of_ble_eq_true rfl) ?_
                exact v_iret (pc := 95) g hret dX5_driest_95 (by first | exact ⟨_, _, so_i (by unfold r_18 a_18; rw [if_pos hC, em, h1 c82]; rfl), by unfold f_18 a_18; rw [if_pos hC, em, h1 c82]; rfl⟩ | exact ⟨_, _, so_i (by unfold r_18 a_18; rw [if_pos hC, em, h2 (Bool.eq_false_iff.mpr c82)]; rfl), by unfold f_18 a_18; rw [if_pos hC, em, h2 (Bool.eq_false_iff.mpr c82)]; rfl⟩ | exact absurd c48 c82)
              · refine v_iload_n (pc := 85) 3 g dX5_driest_85 rfl rfl ?_
                refine v_goto (pc := 86) 95 g dX5_driest_86 rfl ?_
                exact v_iret (pc := 95) g hret dX5_driest_95 (by first | exact ⟨_, _, so_i (by unfold r_18 a_18; rw [if_pos hC, em, h1 c82]; rfl), by unfold f_18 a_18; rw [if_pos hC, em, h1 c82]; rfl⟩ | exact ⟨_, _, so_i (by unfold r_18 a_18; rw [if_pos hC, em, h2 (Bool.eq_false_iff.mpr c82)]; rfl), by unfold f_18 a_18; rw [if_pos hC, em, h2 (Bool.eq_false_iff.mpr c82)]; rfl⟩ | exact absurd c48 c82)
            · have hf := h2 (Bool.eq_false_iff.mpr c48)
              refine v_iincD (pc := 51) g dX5_driest_51 rfl hnL.symm ?_
              refine v_aload_n (pc := 54) 0 g dX5_driest_54 rfl rfl ?_
              refine v_get (pc := 55) g dX5_driest_55 fl_X5_7 rfl rfl ?_
              refine v_iconst (pc := 58) (v := 1) g dX5_driest_58 (by decide) ?_
              refine v_iload_n (pc := 59) 3 g dX5_driest_59 rfl rfl ?_
              refine v_iastN (pc := 60) _ _ g dX5_driest_60 rfl rfl (Nat.le_of_ble_eq_true rfl) (Nat.le_of_ble_eq_true rfl) rfl ?_
              refine v_w (mW (rowOf (pDr S (nI j))) fo of (rowOf S) b1 ta tm so be te wo va gd bi si sh le im bf kp) (by rw [← rup_Dr]; rfl) ?_
              refine v_aload_n (pc := 61) 0 g dX5_driest_61 rfl rfl ?_
              refine v_iload_n (pc := 62) 1 g dX5_driest_62 rfl rfl ?_
              refine v_cVd (pc := 63) g dX5_driest_63 lk_X5_167 (c_X5_readBehind (tr := tr) (pDr S (nI j)) S m (hI.drc (by omega)) (by omega)) (Nat.le_of_ble_eq_true rfl) rfl rfl rfl rfl (Nat.le_of_ble_eq_true rfl) ?_
              refine v_iload_n (pc := 66) 2 g dX5_driest_66 rfl rfl ?_
              refine v_icmp_lt (pc := 67) 74 g dX5_driest_67 rfl (fun c67 => ?_) (fun c67 => ?_)
              · have e67 : dwn (dP S v m) (j + 1) = dwn (dP S v m) j := if_neg (by rw [show dP S v m j = false from decide_eq_false (Int32.not_le.mpr c67)]; exact Bool.false_ne_true)
                refine v_iconst (pc := 74) (v := 0) g dX5_driest_74 (by decide) ?_
                refine v_istore (pc := 75) _ g dX5_driest_75 (Nat.le_of_ble_eq_true rfl) hnL.symm rfl ?_
                refine v_goto (pc := 77) 42 g dX5_driest_77 rfl ?_
                first | exact ih _ true j (by omega) (fun _ => hf.trans e67) (fun z => by cases z) (by omega) | exact ih _ false j (by omega) (fun z => by cases z) (fun _ => hf.trans e67) (by omega)
              · have e67 : dwn (dP S v m) (j + 1) = some j := if_pos (decide_eq_true (Int32.not_lt.mp c67))
                refine v_iconst (pc := 70) (v := 1) g dX5_driest_70 (by decide) ?_
                refine v_goto (pc := 71) 75 g dX5_driest_71 rfl ?_
                refine v_istore (pc := 75) _ g dX5_driest_75 (Nat.le_of_ble_eq_true rfl) hnL.symm rfl ?_
                refine v_goto (pc := 77) 42 g dX5_driest_77 rfl ?_
                first | exact ih _ true j (by omega) (fun _ => hf.trans e67) (fun z => by cases z) (by omega) | exact ih _ false j (by omega) (fun z => by cases z) (fun _ => hf.trans e67) (by omega)
      exact L42 11 _ false 10 (by omega) (fun z => by cases z) (fun _ => rfl) (by omega)
    · refine v_aload_n (pc := 20) 0 g dX5_driest_20 rfl rfl ?_
      refine v_ldc (pc := 21) g dX5_driest_21 co_X5_44 ?_
      refine v_cVd (pc := 23) g dX5_driest_23 lk_X5_81 (c_X5_finds _ 0 (-1000000001) (by decide) (by decide)) (Nat.le_of_ble_eq_true rfl) rfl rfl rfl rfl (Nat.le_of_ble_eq_true rfl) ?_
      exact v_iret (pc := 26) g hret dX5_driest_26 (⟨_, _, so_i (by unfold r_18; rw [if_neg (by omega)]), by unfold f_18; rw [if_neg (by omega)]⟩)
set_option maxRecDepth 20000 in
set_option maxHeartbeats 2000000 in
theorem c_X5_needs (S : St) {fo : Nat → Int32} {of : Int32} {tr : Nat → Int32} {b1 : Nat → Int32} {ta : Nat → Int32} {tm : Nat} {so : Int32} {be : Int32} {te : Int32} {wo : Int64} {va : Int32} {gd : Int32} {bi : Nat → Int32} {si : Nat → Int32} {sh : Nat → Int64} {le : Nat → Int64} {im : Nat → Int32} {bf : Nat → Int32} {kp : Int32} (p h n : Int32) (hI : Inv S) : Runs 8 yX5_needs cX5_needs 6 (some .int) [.ref 0, .int p, .int h, .int n] (mW (rowOf S) fo of tr b1 ta tm so be te wo va gd bi si sh le im bf kp) (fun r0 w0 => ∃ o1 t1, r0 = some (.int (r_19 S p h n)) ∧ w0 = mW (rowOf S) (f_19 S fo p h n) o1 t1 b1 ta tm so be te wo va gd bi si sh le im bf kp) := by
  refine Runs.of (by decide) (Nat.le_of_ble_eq_true rfl) rfl ?_
  intro X g hret hnL
  refine v_aload_n (pc := 0) 0 g dX5_needs_0 rfl rfl ?_
  refine v_iload_n (pc := 1) 1 g dX5_needs_1 rfl rfl ?_
  refine v_cVd (pc := 2) g dX5_needs_2 lk_X5_111 (c_X5_isOne S _ hI.n) (Nat.le_of_ble_eq_true rfl) rfl rfl rfl rfl (Nat.le_of_ble_eq_true rfl) ?_
  refine v_ifb_eq (pc := 5) 25 g dX5_needs_5 rfl (fun c5 => ?_) (fun c5 => ?_)
  · refine v_aload_n (pc := 25) 0 g dX5_needs_25 rfl rfl ?_
    refine v_ldc (pc := 26) g dX5_needs_26 co_X5_44 ?_
    refine v_cVd (pc := 28) g dX5_needs_28 lk_X5_81 (c_X5_finds _ 0 (-1000000001) (by decide) (by decide)) (Nat.le_of_ble_eq_true rfl) rfl rfl rfl rfl (Nat.le_of_ble_eq_true rfl) ?_
    exact v_iret (pc := 31) g hret dX5_needs_31 (⟨_, _, so_i (by unfold r_19; rw [if_neg (by omega)]), by unfold f_19; rw [if_neg (by omega)]⟩)
  · refine v_iload_n (pc := 8) 2 g dX5_needs_8 rfl rfl ?_
    refine v_cSd (pc := 9) g dX5_needs_9 lk_X5_72 ((c_X5_isHouse _).any rfl rfl _) (Nat.le_of_ble_eq_true rfl) rfl rfl (Nat.le_of_ble_eq_true rfl) ?_
    refine v_ifb_eq (pc := 12) 25 g dX5_needs_12 rfl (fun c12 => ?_) (fun c12 => ?_)
    · refine v_aload_n (pc := 25) 0 g dX5_needs_25 rfl rfl ?_
      refine v_ldc (pc := 26) g dX5_needs_26 co_X5_44 ?_
      refine v_cVd (pc := 28) g dX5_needs_28 lk_X5_81 (c_X5_finds _ 0 (-1000000001) (by decide) (by decide)) (Nat.le_of_ble_eq_true rfl) rfl rfl rfl rfl (Nat.le_of_ble_eq_true rfl) ?_
      exact v_iret (pc := 31) g hret dX5_needs_31 (⟨_, _, so_i (by unfold r_19; rw [if_neg (by omega)]), by unfold f_19; rw [if_neg (by omega)]⟩)
    · refine v_iload_n (pc := 15) 3 g dX5_needs_15 rfl rfl ?_
      refine v_iconst (pc := 16) (v := 0) g dX5_needs_16 (by decide) ?_
      refine v_bipush (pc := 17) (v := 60) g dX5_needs_17 (by decide) ?_
      refine v_cSd (pc := 19) g dX5_needs_19 lk_X5_45 ((c_X5_in _ _ _ 0 60 rfl rfl).any rfl rfl _) (Nat.le_of_ble_eq_true rfl) rfl rfl (Nat.le_of_ble_eq_true rfl) ?_
      refine v_ifb_ne (pc := 22) 32 g dX5_needs_22 rfl (fun c22 => ?_) (fun c22 => ?_)
      · have hC : C19 S p h n := ⟨c5, c12, c22⟩
        obtain ⟨i, hi, rfl⟩ := (show isP S p from c5).nat hI.n
        have ei : (nI i).toNatClampNeg = i := nI_clamp (by have := hI.n; omega)
        obtain ⟨z, hz, rfl⟩ := c12.nat (m := 11) (by omega)
        have ez : (nI z).toNatClampNeg = z := nI_clamp (by omega)
        obtain ⟨m, hm, rfl⟩ := c22.nat (m := 60) (by omega)
        have em : (nI m).toNatClampNeg = m := nI_clamp (by omega)
        refine v_aload_n (pc := 32) 0 g dX5_needs_32 rfl rfl ?_
        refine v_iconst (pc := 33) (v := 1) g dX5_needs_33 (by decide) ?_
        refine v_aload_n (pc := 34) 0 g dX5_needs_34 rfl rfl ?_
        refine v_get (pc := 35) g dX5_needs_35 fl_X5_16 rfl rfl ?_
        refine v_cVd (pc := 38) g dX5_needs_38 lk_X5_156 (c_mvK_tr (rowOf S)) (Nat.le_of_ble_eq_true rfl) rfl rfl rfl rfl (Nat.le_of_ble_eq_true rfl) ?_
        refine v_iconst (pc := 41) (v := (-1)) g dX5_needs_41 (by decide) ?_
        refine v_istore (pc := 42) _ g dX5_needs_42 (Nat.le_of_ble_eq_true rfl) hnL.symm rfl ?_
        refine v_iconst (pc := 44) (v := 0) g dX5_needs_44 (by decide) ?_
        refine v_istore (pc := 45) _ g dX5_needs_45 (Nat.le_of_ble_eq_true rfl) hnL.symm rfl ?_
        have L47 : ∀ (fu : Nat) (of : Int32) (b : Bool) (k : Nat), k ≤ 100 → (b = true → fst (nP S i z m) 100 0 = some (k - 1) ∧ 1 ≤ k) → (b = false → fst (nP S i z m) 100 0 = fst (nP S i z m) (100 - k) k) → 100 - k < fu → V X 47 [some (.ref 0), some (.int (nI i)), some (.int (nI z)), some (.int (nI m)), some (.int (nI k - 1)), some (.int (bI (b = true)))] [] (mW (rowOf S) fo of (rowOf S) b1 ta tm so be te wo va gd bi si sh le im bf kp) := by
          intro fu
          induction fu with
          | zero => intro of b k hk h1 h2 hm; exact absurd hm (Nat.not_lt_zero _)
          | succ fu ih =>
            intro of b k hk h1 h2 hm
            refine v_iload (pc := 47) g dX5_needs_47 rfl ?_
            refine v_bipush (pc := 49) (v := 99) g dX5_needs_49 (by decide) ?_
            refine v_icmp_ge (pc := 51) 93 g dX5_needs_51 rfl (fun c51 => ?_) (fun c51 => ?_)
            · have e51 : k = 100 := by have hq : (nI k - 1).toInt = (k : Int) - 1 := pk_sub_toInt (a := k) (b := 1) (by omega) (by omega); rw [i_le, hq] at c51; have h99 : (99 : Int32).toInt = 99 := rfl; omega
              subst e51
              refine v_iload (pc := 93) g dX5_needs_93 rfl ?_
              refine v_ifb_eq (pc := 95) 103 g dX5_needs_95 rfl (fun c95 => ?_) (fun c95 => ?_)
              · refine v_aload_n (pc := 103) 0 g dX5_needs_103 rfl rfl ?_
                refine v_ldc (pc := 104) g dX5_needs_104 co_X5_166 ?_
                refine v_cVd (pc := 106) g dX5_needs_106 lk_X5_81 (c_X5_finds _ 3 (-1000000004) (by decide) (by decide)) (Nat.le_of_ble_eq_true rfl) rfl rfl rfl rfl (Nat.le_of_ble_eq_true rfl) ?_
                exact v_iret (pc := 109) g hret dX5_needs_109 (by first | exact ⟨_, _, so_i (by unfold r_19 a_19; rw [if_pos hC, ei, ez, em, (h1 c95).1]; exact pk_sub (b := 1) (h1 c95).2), by unfold f_19 a_19; rw [if_pos hC, ei, ez, em, (h1 c95).1]; rfl⟩ | exact ⟨_, _, so_i (by unfold r_19 a_19; rw [if_pos hC, ei, ez, em, h2 (Bool.eq_false_iff.mpr c95), fst_e (by omega)]; rfl), by unfold f_19 a_19; rw [if_pos hC, ei, ez, em, h2 (Bool.eq_false_iff.mpr c95), fst_e (by omega)]; rfl⟩ | exact absurd c56 c95)
              · refine v_iload (pc := 98) g dX5_needs_98 rfl ?_
                refine v_goto (pc := 100) 109 g dX5_needs_100 rfl ?_
                exact v_iret (pc := 109) g hret dX5_needs_109 (by first | exact ⟨_, _, so_i (by unfold r_19 a_19; rw [if_pos hC, ei, ez, em, (h1 c95).1]; exact pk_sub (b := 1) (h1 c95).2), by unfold f_19 a_19; rw [if_pos hC, ei, ez, em, (h1 c95).1]; rfl⟩ | exact ⟨_, _, so_i (by unfold r_19 a_19; rw [if_pos hC, ei, ez, em, h2 (Bool.eq_false_iff.mpr c95), fst_e (by omega)]; rfl), by unfold f_19 a_19; rw [if_pos hC, ei, ez, em, h2 (Bool.eq_false_iff.mpr c95), fst_e (by omega)]; rfl⟩ | exact absurd c56 c95)
            · have e51 : k < 100 := by have hq : (nI k - 1).toInt = (k : Int) - 1 := pk_sub_toInt (a := k) (b := 1) (by omega) (by omega); rw [i_le, hq] at c51; have h99 : (99 : Int32).toInt = 99 := rfl; omega
              refine v_iload (pc := 54) g dX5_needs_54 rfl ?_
              refine v_ifb_ne (pc := 56) 93 g dX5_needs_56 rfl (fun c56 => ?_) (fun c56 => ?_)
              · refine v_iload (pc := 93) g dX5_needs_93 rfl ?_
                refine v_ifb_eq (pc := 95) 103 g dX5_needs_95 rfl (fun c95 => ?_) (fun c95 => ?_)
                · refine v_aload_n (pc := 103) 0 g dX5_needs_103 rfl rfl ?_
                  refine v_ldc (pc := 104) g dX5_needs_104 co_X5_166 ?_
                  refine v_cVd (pc := 106) g dX5_needs_106 lk_X5_81 (c_X5_finds _ 3 (-1000000004) (by decide) (by decide)) (Nat.le_of_ble_eq_true rfl) rfl rfl rfl rfl (Nat.le_of_ble_eq_true rfl) ?_
                  exact v_iret (pc := 109) g hret dX5_needs_109 (by first | exact ⟨_, _, so_i (by unfold r_19 a_19; rw [if_pos hC, ei, ez, em, (h1 c95).1]; exact pk_sub (b := 1) (h1 c95).2), by unfold f_19 a_19; rw [if_pos hC, ei, ez, em, (h1 c95).1]; rfl⟩ | exact ⟨_, _, so_i (by unfold r_19 a_19; rw [if_pos hC, ei, ez, em, h2 (Bool.eq_false_iff.mpr c95), fst_e (by omega)]; rfl), by unfold f_19 a_19; rw [if_pos hC, ei, ez, em, h2 (Bool.eq_false_iff.mpr c95), fst_e (by omega)]; rfl⟩ | exact absurd c56 c95)
                · refine v_iload (pc := 98) g dX5_needs_98 rfl ?_
                  refine v_goto (pc := 100) 109 g dX5_needs_100 rfl ?_
                  exact v_iret (pc := 109) g hret dX5_needs_109 (by first | exact ⟨_, _, so_i (by unfold r_19 a_19; rw [if_pos hC, ei, ez, em, (h1 c95).1]; exact pk_sub (b := 1) (h1 c95).2), by unfold f_19 a_19; rw [if_pos hC, ei, ez, em, (h1 c95).1]; rfl⟩ | exact ⟨_, _, so_i (by unfold r_19 a_19; rw [if_pos hC, ei, ez, em, h2 (Bool.eq_false_iff.mpr c95), fst_e (by omega)]; rfl), by unfold f_19 a_19; rw [if_pos hC, ei, ez, em, h2 (Bool.eq_false_iff.mpr c95), fst_e (by omega)]; rfl⟩ | exact absurd c56 c95)
              · have hf := h2 (Bool.eq_false_iff.mpr c56)
                refine v_iinc (pc := 59) _ _ g dX5_needs_59 rfl rfl hnL.symm rfl ?_
                rw [inc1]
                refine v_aload_n (pc := 62) 0 g dX5_needs_62 rfl rfl ?_
                refine v_iload_n (pc := 63) 1 g dX5_needs_63 rfl rfl ?_
                refine v_iconst (pc := 64) (v := 3) g dX5_needs_64 (by decide) ?_
                refine v_iload (pc := 65) g dX5_needs_65 rfl ?_
                refine v_cVd (pc := 67) g dX5_needs_67 lk_X5_99 (c_pu_Co S i _ (by have := hI.n; omega)) (Nat.le_of_ble_eq_true rfl) rfl rfl rfl rfl (Nat.le_of_ble_eq_true rfl) ?_
                refine v_aload_n (pc := 70) 0 g dX5_needs_70 rfl rfl ?_
                refine v_iload_n (pc := 71) 3 g dX5_needs_71 rfl rfl ?_
                refine v_iconst (pc := 72) (v := 3) g dX5_needs_72 (by decide) ?_
                refine v_iconst (pc := 73) (v := 3) g dX5_needs_73 (by decide) ?_
                refine v_iload_n (pc := 74) 2 g dX5_needs_74 rfl rfl ?_
                refine v_imul (pc := 75) g dX5_needs_75 ?_
                refine v_iadd (pc := 76) g dX5_needs_76 ?_
                rw [show (3 : Int32) + 3 * nI z = nI (3 + 3 * z + 0) from (Int32.add_zero _).symm.trans (ix_h z 0)]
                refine v_cVd (pc := 77) g dX5_needs_77 lk_X5_160 (c_X5_behind (tr := tr) _ S m _ (hI.coc i (by omega)) (by omega) (by omega)) (Nat.le_of_ble_eq_true rfl) rfl rfl rfl rfl (Nat.le_of_ble_eq_true rfl) ?_
                rw [row_La _ (by omega)]
                refine v_if_le (pc := 80) 87 g dX5_needs_80 rfl (fun c80 => ?_) (fun c80 => ?_)
                · rw [fst_f (by omega) (show nP S i z m k = false from decide_eq_false (Int32.not_lt.mpr c80))] at hf
                  refine v_iconst (pc := 87) (v := 0) g dX5_needs_87 (by decide) ?_
                  refine v_istore (pc := 88) _ g dX5_needs_88 (Nat.le_of_ble_eq_true rfl) hnL.symm rfl ?_
                  refine v_goto (pc := 90) 47 g dX5_needs_90 rfl ?_
                  first | (refine v_loE [some (.ref 0), some (.int (nI i)), some (.int (nI z)), some (.int (nI m)), some (.int (nI (k + 1) - 1)), some (.int (bI (true = true)))] (by rw [nI_pred]; rfl) ?_; exact ih _ true (k + 1) (by omega) (fun _ => ⟨hf, by omega⟩) (fun z => by cases z) (by omega)) | (refine v_loE [some (.ref 0), some (.int (nI i)), some (.int (nI z)), some (.int (nI m)), some (.int (nI (k + 1) - 1)), some (.int (bI (false = true)))] (by rw [nI_pred]; rfl) ?_; exact ih _ false (k + 1) (by omega) (fun z => by cases z) (fun _ => hf) (by omega))
                · rw [fst_t (by omega) (show nP S i z m k = true from decide_eq_true (Int32.not_le.mp c80))] at hf
                  refine v_iconst (pc := 83) (v := 1) g dX5_needs_83 (by decide) ?_
                  refine v_goto (pc := 84) 88 g dX5_needs_84 rfl ?_
                  refine v_istore (pc := 88) _ g dX5_needs_88 (Nat.le_of_ble_eq_true rfl) hnL.symm rfl ?_
                  refine v_goto (pc := 90) 47 g dX5_needs_90 rfl ?_
                  first | (refine v_loE [some (.ref 0), some (.int (nI i)), some (.int (nI z)), some (.int (nI m)), some (.int (nI (k + 1) - 1)), some (.int (bI (true = true)))] (by rw [nI_pred]; rfl) ?_; exact ih _ true (k + 1) (by omega) (fun _ => ⟨hf, by omega⟩) (fun z => by cases z) (by omega)) | (refine v_loE [some (.ref 0), some (.int (nI i)), some (.int (nI z)), some (.int (nI m)), some (.int (nI (k + 1) - 1)), some (.int (bI (false = true)))] (by rw [nI_pred]; rfl) ?_; exact ih _ false (k + 1) (by omega) (fun z => by cases z) (fun _ => hf) (by omega))
        exact L47 101 _ false 0 (by omega) (fun z => by cases z) (fun _ => rfl) (by omega)
      · refine v_aload_n (pc := 25) 0 g dX5_needs_25 rfl rfl ?_
        refine v_ldc (pc := 26) g dX5_needs_26 co_X5_44 ?_
        refine v_cVd (pc := 28) g dX5_needs_28 lk_X5_81 (c_X5_finds _ 0 (-1000000001) (by decide) (by decide)) (Nat.le_of_ble_eq_true rfl) rfl rfl rfl rfl (Nat.le_of_ble_eq_true rfl) ?_
        exact v_iret (pc := 31) g hret dX5_needs_31 (⟨_, _, so_i (by unfold r_19; rw [if_neg (by omega)]), by unfold f_19; rw [if_neg (by omega)]⟩)
