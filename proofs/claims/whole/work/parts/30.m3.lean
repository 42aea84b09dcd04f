/-! ===== the reference: its calls, III: AHEAD ===== -/
theorem sum_nat {f : Nat → Int32} (hf : ∀ k, inR (f k) 0 99) : ∀ n, n < 1000 → ∃ a, a ≤ 99 * n ∧ sumN f n = nI a
  | 0, _ => ⟨0, by omega, rfl⟩
  | n + 1, hn => by
    obtain ⟨a, ha, ea⟩ := sum_nat hf n (by omega)
    obtain ⟨b, hb, eb⟩ := (hf n).nat (m := 99) (by omega)
    exact ⟨a + b, by omega, by rw [sumN, ea, eb, nI_add]⟩
theorem cold_pos {S : St} (h : Inv S) : ¬ 0 < coldAll S ↔ coldAll S = 0 := by
  obtain ⟨a, ha, ea⟩ := sum_nat h.co (sN S) (by have := h.n; omega)
  have := h.n
  unfold coldAll
  rw [ea]
  constructor
  · intro z
    have : ¬ 0 < a := fun q => z ((nI_ltI (a := 0) (b := a) (by omega) (by omega)).mpr q)
    rw [show a = 0 by omega]; rfl
  · intro z
    rw [z]; decide
set_option maxRecDepth 20000 in
set_option maxHeartbeats 2000000 in
theorem c_X5_lit (S : St) {fo : Nat → Int32} {of : Int32} {tr : Nat → Int32} {b1 : Nat → Int32} {ta : Nat → Int32} {tm : Nat} {so : Int32} {be : Int32} {te : Int32} {wo : Int64} {va : Int32} {gd : Int32} {bi : Nat → Int32} {si : Nat → Int32} {sh : Nat → Int64} {le : Nat → Int64} {im : Nat → Int32} {bf : Nat → Int32} {kp : Int32} (h v : Int32) (hI : Inv S) : Runs 6 yX5_lit cX5_lit 4 (some .int) [.ref 0, .int h, .int v] (mW (rowOf S) fo of tr b1 ta tm so be te wo va gd bi si sh le im bf kp) (fun r0 w0 => ∃ o1 t1, r0 = some (.int (r_12 S h v)) ∧ w0 = mW (rowOf S) (f_12 S fo h v) o1 t1 b1 ta tm so be te wo va gd bi si sh le im bf kp) := by
  refine Runs.of (by decide) (Nat.le_of_ble_eq_true rfl) rfl ?_
  intro X g hret hnL
  refine v_iload_n (pc := 0) 1 g dX5_lit_0 rfl rfl ?_
  refine v_cSd (pc := 1) g dX5_lit_1 lk_X5_72 ((c_X5_isHouse _).any rfl rfl _) (Nat.le_of_ble_eq_true rfl) rfl rfl (Nat.le_of_ble_eq_true rfl) ?_
  refine v_ifb_eq (pc := 4) 16 g dX5_lit_4 rfl (fun c4 => ?_) (fun c4 => ?_)
  · refine v_aload_n (pc := 16) 0 g dX5_lit_16 rfl rfl ?_
    refine v_ldc (pc := 17) g dX5_lit_17 co_X5_44 ?_
    refine v_cVd (pc := 19) g dX5_lit_19 lk_X5_81 (c_X5_finds _ 0 (-1000000001) (by decide) (by decide)) (Nat.le_of_ble_eq_true rfl) rfl rfl rfl rfl (Nat.le_of_ble_eq_true rfl) ?_
    exact v_iret (pc := 22) g hret dX5_lit_22 (⟨_, _, so_i (by unfold r_12; rw [if_neg (by omega)]), by unfold f_12; rw [if_neg (by omega)]⟩)
  · refine v_iload_n (pc := 7) 2 g dX5_lit_7 rfl rfl ?_
    refine v_iconst (pc := 8) (v := 0) g dX5_lit_8 (by decide) ?_
    refine v_iconst (pc := 9) (v := 1) g dX5_lit_9 (by decide) ?_
    refine v_cSd (pc := 10) g dX5_lit_10 lk_X5_45 ((c_X5_in _ _ _ 0 1 rfl rfl).any rfl rfl _) (Nat.le_of_ble_eq_true rfl) rfl rfl (Nat.le_of_ble_eq_true rfl) ?_
    refine v_ifb_ne (pc := 13) 23 g dX5_lit_13 rfl (fun c13 => ?_) (fun c13 => ?_)
    · have hC : C12 h v := ⟨c4, c13⟩
      obtain ⟨i, hi, rfl⟩ := c4.nat (m := 11) (by omega)
      have ei : (nI i).toNatClampNeg = i := nI_clamp (by omega)
      refine v_aload_n (pc := 23) 0 g dX5_lit_23 rfl rfl ?_
      refine v_iconst (pc := 24) (v := 1) g dX5_lit_24 (by decide) ?_
      refine v_aload_n (pc := 25) 0 g dX5_lit_25 rfl rfl ?_
      refine v_get (pc := 26) g dX5_lit_26 fl_X5_16 rfl rfl ?_
      refine v_cVd (pc := 29) g dX5_lit_29 lk_X5_156 (c_mvK_tr (rowOf S)) (Nat.le_of_ble_eq_true rfl) rfl rfl rfl rfl (Nat.le_of_ble_eq_true rfl) ?_
      refine v_iconst (pc := 32) (v := 0) g dX5_lit_32 (by decide) ?_
      refine v_istore_n (pc := 33) 3 _ g dX5_lit_33 rfl (Nat.le_of_ble_eq_true rfl) hnL.symm rfl ?_
      have L34 : ∀ (fu : Nat) (k : Nat), k ≤ 201 → fst (lP S v i) 201 0 = fst (lP S v i) (201 - k) k → 201 - k < fu → V X 34 [some (.ref 0), some (.int (nI i)), some (.int v), some (.int (nI k))] [] (mW (rowOf (minN S k)) fo (weN S of k) (rowOf S) b1 ta tm so be te wo va gd bi si sh le im bf kp) := by
        intro fu
        induction fu with
        | zero => intro k hk hf hm; exact absurd hm (Nat.not_lt_zero _)
        | succ fu ih =>
          intro k hk hf hm
          refine v_iload_n (pc := 34) 3 g dX5_lit_34 rfl rfl ?_
          refine v_sipush (pc := 35) (v := 200) g dX5_lit_35 (by decide) ?_
          refine v_icmp_gt (pc := 38) 69 g dX5_lit_38 rfl (fun c38 => ?_) (fun c38 => ?_)
          · have e38 : 200 < k := (nI_ltI (a := 200) (b := k) (by omega) (by omega)).mp c38
            rw [fst_e (by omega)] at hf
            refine v_aload_n (pc := 69) 0 g dX5_lit_69 rfl rfl ?_
            refine v_iconst (pc := 70) (v := 0) g dX5_lit_70 (by decide) ?_
            refine v_aload_n (pc := 71) 0 g dX5_lit_71 rfl rfl ?_
            refine v_get (pc := 72) g dX5_lit_72 fl_X5_16 rfl rfl ?_
            refine v_cVd (pc := 75) g dX5_lit_75 lk_X5_156 (c_mvB_tr _) (Nat.le_of_ble_eq_true rfl) rfl rfl rfl rfl (Nat.le_of_ble_eq_true rfl) ?_
            refine v_iload_n (pc := 78) 3 g dX5_lit_78 rfl rfl ?_
            refine v_sipush (pc := 79) (v := 200) g dX5_lit_79 (by decide) ?_
            refine v_icmp_le (pc := 82) 94 g dX5_lit_82 rfl (fun c82 => ?_) (fun c82 => ?_)
            · have e82 : k ≤ 200 := (nI_leI (a := k) (b := 200) (by omega) (by omega)).mp c82
              refine v_iload_n (pc := 94) 3 g dX5_lit_94 rfl rfl ?_
              exact v_iret (pc := 95) g hret dX5_lit_95 (by first | exact ⟨_, _, so_i (by unfold r_12 a_12; rw [if_pos hC, ei, hf]; rfl), by unfold f_12 a_12; rw [if_pos hC, ei, hf]; rfl⟩ | exact absurd e38 (by omega))
            · have e82 : ¬ k ≤ 200 := fun z => c82 ((nI_leI (a := k) (b := 200) (by omega) (by omega)).mpr z)
              refine v_aload_n (pc := 85) 0 g dX5_lit_85 rfl rfl ?_
              refine v_ldc (pc := 86) g dX5_lit_86 co_X5_166 ?_
              refine v_cVd (pc := 88) g dX5_lit_88 lk_X5_81 (c_X5_finds _ 3 (-1000000004) (by decide) (by decide)) (Nat.le_of_ble_eq_true rfl) rfl rfl rfl rfl (Nat.le_of_ble_eq_true rfl) ?_
              refine v_goto (pc := 91) 95 g dX5_lit_91 rfl ?_
              exact v_iret (pc := 95) g hret dX5_lit_95 (by first | exact ⟨_, _, so_i (by unfold r_12 a_12; rw [if_pos hC, ei, hf]; rfl), by unfold f_12 a_12; rw [if_pos hC, ei, hf]; rfl⟩ | exact absurd e38 (by omega))
          · have e38 : k ≤ 200 := Nat.not_lt.mp (fun z => c38 ((nI_ltI (a := 200) (b := k) (by omega) (by omega)).mpr z))
            refine v_aload_n (pc := 41) 0 g dX5_lit_41 rfl rfl ?_
            refine v_iload_n (pc := 42) 1 g dX5_lit_42 rfl rfl ?_
            refine v_cVd (pc := 43) g dX5_lit_43 lk_X5_163 (c_X5_isLit (minN S k) i (by omega)) (Nat.le_of_ble_eq_true rfl) rfl rfl rfl rfl (Nat.le_of_ble_eq_true rfl) ?_
            refine v_iload_n (pc := 46) 2 g dX5_lit_46 rfl rfl ?_
            refine v_iconst (pc := 47) (v := 1) g dX5_lit_47 (by decide) ?_
            refine v_icmp_ne (pc := 48) 55 g dX5_lit_48 rfl (fun c48 => ?_) (fun c48 => ?_)
            · refine v_iconst (pc := 55) (v := 0) g dX5_lit_55 (by decide) ?_
              refine v_icmp_eq (pc := 56) 69 g dX5_lit_56 rfl (fun c56 => ?_) (fun c56 => ?_)
              · have e56 : lP S v i k = true := decide_eq_true (by first | (rw [bI_1 c48]; exact c56) | (rw [bI_0 c48]; exact c56))
                rw [fst_t (by omega) e56] at hf
                refine v_aload_n (pc := 69) 0 g dX5_lit_69 rfl rfl ?_
                refine v_iconst (pc := 70) (v := 0) g dX5_lit_70 (by decide) ?_
                refine v_aload_n (pc := 71) 0 g dX5_lit_71 rfl rfl ?_
                refine v_get (pc := 72) g dX5_lit_72 fl_X5_16 rfl rfl ?_
                refine v_cVd (pc := 75) g dX5_lit_75 lk_X5_156 (c_mvB_tr _) (Nat.le_of_ble_eq_true rfl) rfl rfl rfl rfl (Nat.le_of_ble_eq_true rfl) ?_
                refine v_iload_n (pc := 78) 3 g dX5_lit_78 rfl rfl ?_
                refine v_sipush (pc := 79) (v := 200) g dX5_lit_79 (by decide) ?_
                refine v_icmp_le (pc := 82) 94 g dX5_lit_82 rfl (fun c82 => ?_) (fun c82 => ?_)
                · have e82 : k ≤ 200 := (nI_leI (a := k) (b := 200) (by omega) (by omega)).mp c82
                  refine v_iload_n (pc := 94) 3 g dX5_lit_94 rfl rfl ?_
                  exact v_iret (pc := 95) g hret dX5_lit_95 (by first | exact ⟨_, _, so_i (by unfold r_12 a_12; rw [if_pos hC, ei, hf]; rfl), by unfold f_12 a_12; rw [if_pos hC, ei, hf]; rfl⟩ | exact absurd e38 (by omega))
                · have e82 : ¬ k ≤ 200 := fun z => c82 ((nI_leI (a := k) (b := 200) (by omega) (by omega)).mpr z)
                  refine v_aload_n (pc := 85) 0 g dX5_lit_85 rfl rfl ?_
                  refine v_ldc (pc := 86) g dX5_lit_86 co_X5_166 ?_
                  refine v_cVd (pc := 88) g dX5_lit_88 lk_X5_81 (c_X5_finds _ 3 (-1000000004) (by decide) (by decide)) (Nat.le_of_ble_eq_true rfl) rfl rfl rfl rfl (Nat.le_of_ble_eq_true rfl) ?_
                  refine v_goto (pc := 91) 95 g dX5_lit_91 rfl ?_
                  exact v_iret (pc := 95) g hret dX5_lit_95 (by first | exact ⟨_, _, so_i (by unfold r_12 a_12; rw [if_pos hC, ei, hf]; rfl), by unfold f_12 a_12; rw [if_pos hC, ei, hf]; rfl⟩ | exact absurd e38 (by omega))
              · have e56 : lP S v i k = false := decide_eq_false (by first | (rw [bI_1 c48]; exact c56) | (rw [bI_0 c48]; exact c56))
                rw [fst_f (by omega) e56] at hf
                refine v_aload_n (pc := 59) 0 g dX5_lit_59 rfl rfl ?_
                refine v_cVd (pc := 60) g dX5_lit_60 lk_X5_148 (c_X5_oneMinute (minN S k) (hI.minN k)) (Nat.le_of_ble_eq_true rfl) rfl rfl rfl rfl (Nat.le_of_ble_eq_true rfl) ?_
                refine v_iincN (pc := 63) g dX5_lit_63 rfl hnL.symm ?_
                refine v_goto (pc := 66) 34 g dX5_lit_66 rfl ?_
                exact ih (k + 1) (by omega) hf (by omega)
            · refine v_iconst (pc := 51) (v := 1) g dX5_lit_51 (by decide) ?_
              refine v_goto (pc := 52) 56 g dX5_lit_52 rfl ?_
              refine v_icmp_eq (pc := 56) 69 g dX5_lit_56 rfl (fun c56 => ?_) (fun c56 => ?_)
              · have e56 : lP S v i k = true := decide_eq_true (by first | (rw [bI_1 c48]; exact c56) | (rw [bI_0 c48]; exact c56))
                rw [fst_t (by omega) e56] at hf
                refine v_aload_n (pc := 69) 0 g dX5_lit_69 rfl rfl ?_
                refine v_iconst (pc := 70) (v := 0) g dX5_lit_70 (by decide) ?_
                refine v_aload_n (pc := 71) 0 g dX5_lit_71 rfl rfl ?_
                refine v_get (pc := 72) g dX5_lit_72 fl_X5_16 rfl rfl ?_
                refine v_cVd (pc := 75) g dX5_lit_75 lk_X5_156 (c_mvB_tr _) (Nat.le_of_ble_eq_true rfl) rfl rfl rfl rfl (Nat.le_of_ble_eq_true rfl) ?_
                refine v_iload_n (pc := 78) 3 g dX5_lit_78 rfl rfl ?_
                refine v_sipush (pc := 79) (v := 200) g dX5_lit_79 (by decide) ?_
                refine v_icmp_le (pc := 82) 94 g dX5_lit_82 rfl (fun c82 => ?_) (fun c82 => ?_)
                · have e82 : k ≤ 200 := (nI_leI (a := k) (b := 200) (by omega) (by omega)).mp c82
                  refine v_iload_n (pc := 94) 3 g dX5_lit_94 rfl rfl ?_
                  exact v_iret (pc := 95) g hret dX5_lit_95 (by first | exact ⟨_, _, so_i (by unfold r_12 a_12; rw [if_pos hC, ei, hf]; rfl), by unfold f_12 a_12; rw [if_pos hC, ei, hf]; rfl⟩ | exact absurd e38 (by omega))
                · have e82 : ¬ k ≤ 200 := fun z => c82 ((nI_leI (a := k) (b := 200) (by omega) (by omega)).mpr z)
                  refine v_aload_n (pc := 85) 0 g dX5_lit_85 rfl rfl ?_
                  refine v_ldc (pc := 86) g dX5_lit_86 co_X5_166 ?_
                  refine v_cVd (pc := 88) g dX5_lit_88 lk_X5_81 (c_X5_finds _ 3 (-1000000004) (by decide) (by decide)) (Nat.le_of_ble_eq_true rfl) rfl rfl rfl rfl (Nat.le_of_ble_eq_true rfl) ?_
                  refine v_goto (pc := 91) 95 g dX5_lit_91 rfl ?_
                  exact v_iret (pc := 95) g hret dX5_lit_95 (by first | exact ⟨_, _, so_i (by unfold r_12 a_12; rw [if_pos hC, ei, hf]; rfl), by unfold f_12 a_12; rw [if_pos hC, ei, hf]; rfl⟩ | exact absurd e38 (by omega))
              · have e56 : lP S v i k = false := decide_eq_false (by first | (rw [bI_1 c48]; exact c56) | (rw [bI_0 c48]; exact c56))
                rw [fst_f (by omega) e56] at hf
                refine v_aload_n (pc := 59) 0 g dX5_lit_59 rfl rfl ?_
                refine v_cVd (pc := 60) g dX5_lit_60 lk_X5_148 (c_X5_oneMinute (minN S k) (hI.minN k)) (Nat.le_of_ble_eq_true rfl) rfl rfl rfl rfl (Nat.le_of_ble_eq_true rfl) ?_
                refine v_iincN (pc := 63) g dX5_lit_63 rfl hnL.symm ?_
                refine v_goto (pc := 66) 34 g dX5_lit_66 rfl ?_
                exact ih (k + 1) (by omega) hf (by omega)
      exact L34 202 0 (Nat.zero_le _) rfl (by omega)
    · refine v_aload_n (pc := 16) 0 g dX5_lit_16 rfl rfl ?_
      refine v_ldc (pc := 17) g dX5_lit_17 co_X5_44 ?_
      refine v_cVd (pc := 19) g dX5_lit_19 lk_X5_81 (c_X5_finds _ 0 (-1000000001) (by decide) (by decide)) (Nat.le_of_ble_eq_true rfl) rfl rfl rfl rfl (Nat.le_of_ble_eq_true rfl) ?_
      exact v_iret (pc := 22) g hret dX5_lit_22 (⟨_, _, so_i (by unfold r_12; rw [if_neg (by omega)]), by unfold f_12; rw [if_neg (by omega)]⟩)
set_option maxRecDepth 20000 in
set_option maxHeartbeats 2000000 in
theorem c_X5_well (S : St) {fo : Nat → Int32} {of : Int32} {tr : Nat → Int32} {b1 : Nat → Int32} {ta : Nat → Int32} {tm : Nat} {so : Int32} {be : Int32} {te : Int32} {wo : Int64} {va : Int32} {gd : Int32} {bi : Nat → Int32} {si : Nat → Int32} {sh : Nat → Int64} {le : Nat → Int64} {im : Nat → Int32} {bf : Nat → Int32} {kp : Int32} (hI : Inv S) : Runs 6 yX5_well cX5_well 2 (some .int) [.ref 0] (mW (rowOf S) fo of tr b1 ta tm so be te wo va gd bi si sh le im bf kp) (fun r0 w0 => ∃ o1 t1, r0 = some (.int (oI (a_14 S))) ∧ w0 = mW (rowOf S) (oF (a_14 S) fo) o1 t1 b1 ta tm so be te wo va gd bi si sh le im bf kp) := by
  refine Runs.of (by decide) (Nat.le_of_ble_eq_true rfl) rfl ?_
  intro X g hret hnL
  refine v_aload_n (pc := 0) 0 g dX5_well_0 rfl rfl ?_
  refine v_iconst (pc := 1) (v := 1) g dX5_well_1 (by decide) ?_
  refine v_aload_n (pc := 2) 0 g dX5_well_2 rfl rfl ?_
  refine v_get (pc := 3) g dX5_well_3 fl_X5_16 rfl rfl ?_
  refine v_cVd (pc := 6) g dX5_well_6 lk_X5_156 (c_mvK_tr (rowOf S)) (Nat.le_of_ble_eq_true rfl) rfl rfl rfl rfl (Nat.le_of_ble_eq_true rfl) ?_
  refine v_iconst (pc := 9) (v := 0) g dX5_well_9 (by decide) ?_
  refine v_istore_n (pc := 10) 1 _ g dX5_well_10 rfl (Nat.le_of_ble_eq_true rfl) hnL.symm rfl ?_
  have L11 : ∀ (fu : Nat) (k : Nat), k ≤ 201 → fst (wP S) 201 0 = fst (wP S) (201 - k) k → 201 - k < fu → V X 11 [some (.ref 0), some (.int (nI k))] [] (mW (rowOf (minN S k)) fo (weN S of k) (rowOf S) b1 ta tm so be te wo va gd bi si sh le im bf kp) := by
    intro fu
    induction fu with
    | zero => intro k hk hf hm; exact absurd hm (Nat.not_lt_zero _)
    | succ fu ih =>
      intro k hk hf hm
      refine v_iload_n (pc := 11) 1 g dX5_well_11 rfl rfl ?_
      refine v_sipush (pc := 12) (v := 200) g dX5_well_12 (by decide) ?_
      refine v_icmp_gt (pc := 15) 36 g dX5_well_15 rfl (fun c15 => ?_) (fun c15 => ?_)
      · have e38 : 200 < k := (nI_ltI (a := 200) (b := k) (by omega) (by omega)).mp c15
        rw [fst_e (by omega)] at hf
        refine v_aload_n (pc := 36) 0 g dX5_well_36 rfl rfl ?_
        refine v_iconst (pc := 37) (v := 0) g dX5_well_37 (by decide) ?_
        refine v_aload_n (pc := 38) 0 g dX5_well_38 rfl rfl ?_
        refine v_get (pc := 39) g dX5_well_39 fl_X5_16 rfl rfl ?_
        refine v_cVd (pc := 42) g dX5_well_42 lk_X5_156 (c_mvB_tr _) (Nat.le_of_ble_eq_true rfl) rfl rfl rfl rfl (Nat.le_of_ble_eq_true rfl) ?_
        refine v_iload_n (pc := 45) 1 g dX5_well_45 rfl rfl ?_
        refine v_sipush (pc := 46) (v := 200) g dX5_well_46 (by decide) ?_
        refine v_icmp_le (pc := 49) 61 g dX5_well_49 rfl (fun c49 => ?_) (fun c49 => ?_)
        · have e82 : k ≤ 200 := (nI_leI (a := k) (b := 200) (by omega) (by omega)).mp c49
          refine v_iload_n (pc := 61) 1 g dX5_well_61 rfl rfl ?_
          exact v_iret (pc := 62) g hret dX5_well_62 (by first | exact ⟨_, _, so_i (by unfold a_14; rw [hf]; rfl), by unfold a_14; rw [hf]; rfl⟩ | exact absurd e38 (by omega))
        · have e82 : ¬ k ≤ 200 := fun z => c49 ((nI_leI (a := k) (b := 200) (by omega) (by omega)).mpr z)
          refine v_aload_n (pc := 52) 0 g dX5_well_52 rfl rfl ?_
          refine v_ldc (pc := 53) g dX5_well_53 co_X5_166 ?_
          refine v_cVd (pc := 55) g dX5_well_55 lk_X5_81 (c_X5_finds _ 3 (-1000000004) (by decide) (by decide)) (Nat.le_of_ble_eq_true rfl) rfl rfl rfl rfl (Nat.le_of_ble_eq_true rfl) ?_
          refine v_goto (pc := 58) 62 g dX5_well_58 rfl ?_
          exact v_iret (pc := 62) g hret dX5_well_62 (by first | exact ⟨_, _, so_i (by unfold a_14; rw [hf]; rfl), by unfold a_14; rw [hf]; rfl⟩ | exact absurd e38 (by omega))
      · have e38 : k ≤ 200 := Nat.not_lt.mp (fun z => c15 ((nI_ltI (a := 200) (b := k) (by omega) (by omega)).mpr z))
        refine v_aload_n (pc := 18) 0 g dX5_well_18 rfl rfl ?_
        refine v_iconst (pc := 19) (v := 3) g dX5_well_19 (by decide) ?_
        refine v_cVd (pc := 20) g dX5_well_20 lk_X5_93 (c_su_Co (minN S k) (hI.minN k)) (Nat.le_of_ble_eq_true rfl) rfl rfl rfl rfl (Nat.le_of_ble_eq_true rfl) ?_
        refine v_if_le (pc := 23) 36 g dX5_well_23 rfl (fun c23 => ?_) (fun c23 => ?_)
        · rw [fst_t (by omega) (show wP S k = true from decide_eq_true ((cold_pos (hI.minN k)).mp (Int32.not_lt.mpr c23)))] at hf
          refine v_aload_n (pc := 36) 0 g dX5_well_36 rfl rfl ?_
          refine v_iconst (pc := 37) (v := 0) g dX5_well_37 (by decide) ?_
          refine v_aload_n (pc := 38) 0 g dX5_well_38 rfl rfl ?_
          refine v_get (pc := 39) g dX5_well_39 fl_X5_16 rfl rfl ?_
          refine v_cVd (pc := 42) g dX5_well_42 lk_X5_156 (c_mvB_tr _) (Nat.le_of_ble_eq_true rfl) rfl rfl rfl rfl (Nat.le_of_ble_eq_true rfl) ?_
          refine v_iload_n (pc := 45) 1 g dX5_well_45 rfl rfl ?_
          refine v_sipush (pc := 46) (v := 200) g dX5_well_46 (by decide) ?_
          refine v_icmp_le (pc := 49) 61 g dX5_well_49 rfl (fun c49 => ?_) (fun c49 => ?_)
          · have e82 : k ≤ 200 := (nI_leI (a := k) (b := 200) (by omega) (by omega)).mp c49
            refine v_iload_n (pc := 61) 1 g dX5_well_61 rfl rfl ?_
            exact v_iret (pc := 62) g hret dX5_well_62 (by first | exact ⟨_, _, so_i (by unfold a_14; rw [hf]; rfl), by unfold a_14; rw [hf]; rfl⟩ | exact absurd e38 (by omega))
          · have e82 : ¬ k ≤ 200 := fun z => c49 ((nI_leI (a := k) (b := 200) (by omega) (by omega)).mpr z)
            refine v_aload_n (pc := 52) 0 g dX5_well_52 rfl rfl ?_
            refine v_ldc (pc := 53) g dX5_well_53 co_X5_166 ?_
            refine v_cVd (pc := 55) g dX5_well_55 lk_X5_81 (c_X5_finds _ 3 (-1000000004) (by decide) (by decide)) (Nat.le_of_ble_eq_true rfl) rfl rfl rfl rfl (Nat.le_of_ble_eq_true rfl) ?_
            refine v_goto (pc := 58) 62 g dX5_well_58 rfl ?_
            exact v_iret (pc := 62) g hret dX5_well_62 (by first | exact ⟨_, _, so_i (by unfold a_14; rw [hf]; rfl), by unfold a_14; rw [hf]; rfl⟩ | exact absurd e38 (by omega))
        · rw [fst_f (by omega) (show wP S k = false from decide_eq_false (fun z => (cold_pos (hI.minN k)).mpr z (Int32.not_le.mp c23)))] at hf
          refine v_aload_n (pc := 26) 0 g dX5_well_26 rfl rfl ?_
          refine v_cVd (pc := 27) g dX5_well_27 lk_X5_148 (c_X5_oneMinute (minN S k) (hI.minN k)) (Nat.le_of_ble_eq_true rfl) rfl rfl rfl rfl (Nat.le_of_ble_eq_true rfl) ?_
          refine v_iincN (pc := 30) g dX5_well_30 rfl hnL.symm ?_
          refine v_goto (pc := 33) 11 g dX5_well_33 rfl ?_
          exact ih (k + 1) (by omega) hf (by omega)
  exact L11 202 0 (Nat.zero_le _) rfl (by omega)
