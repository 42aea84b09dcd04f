/-! ===== the reference: its calls, IV: what is best ===== -/
set_option maxRecDepth 20000 in
set_option maxHeartbeats 2000000 in
theorem c_X5_goes (S : St) {fo : Nat → Int32} {of : Int32} {tr : Nat → Int32} {b1 : Nat → Int32} {ta : Nat → Int32} {tm : Nat} {so : Int32} {be : Int32} {te : Int32} {wo : Int64} {va : Int32} {gd : Int32} {bi : Nat → Int32} {si : Nat → Int32} {sh : Nat → Int64} {le : Nat → Int64} {im : Nat → Int32} {bf : Nat → Int32} {kp : Int32} (p : Int32) (hI : Inv S) : Runs 6 yX5_goes cX5_goes 4 (some .int) [.ref 0, .int p] (mW (rowOf S) fo of tr b1 ta tm so be te wo va gd bi si sh le im bf kp) (fun r0 w0 => ∃ o1 t1, r0 = some (.int (r_13 S p)) ∧ w0 = mW (rowOf S) (f_13 S fo p) o1 t1 b1 ta tm so be te wo va gd bi si sh le im bf kp) := by
  refine Runs.of (by decide) (Nat.le_of_ble_eq_true rfl) rfl ?_
  intro X g hret hnL
  refine v_aload_n (pc := 0) 0 g dX5_goes_0 rfl rfl ?_
  refine v_iload_n (pc := 1) 1 g dX5_goes_1 rfl rfl ?_
  refine v_cVd (pc := 2) g dX5_goes_2 lk_X5_111 (c_X5_isOne S _ hI.n) (Nat.le_of_ble_eq_true rfl) rfl rfl rfl rfl (Nat.le_of_ble_eq_true rfl) ?_
  refine v_ifb_ne (pc := 5) 15 g dX5_goes_5 rfl (fun c5 => ?_) (fun c5 => ?_)
  · have hC : isP S p := c5
    obtain ⟨i, hi, rfl⟩ := hC.nat hI.n
    have ei : (nI i).toNatClampNeg = i := nI_clamp (by have := hI.n; omega)
    refine v_aload_n (pc := 15) 0 g dX5_goes_15 rfl rfl ?_
    refine v_iconst (pc := 16) (v := 1) g dX5_goes_16 (by decide) ?_
    refine v_aload_n (pc := 17) 0 g dX5_goes_17 rfl rfl ?_
    refine v_get (pc := 18) g dX5_goes_18 fl_X5_16 rfl rfl ?_
    refine v_cVd (pc := 21) g dX5_goes_21 lk_X5_156 (c_mvK_tr (rowOf S)) (Nat.le_of_ble_eq_true rfl) rfl rfl rfl rfl (Nat.le_of_ble_eq_true rfl) ?_
    refine v_iconst (pc := 24) (v := 0) g dX5_goes_24 (by decide) ?_
    refine v_istore_n (pc := 25) 2 _ g dX5_goes_25 rfl (Nat.le_of_ble_eq_true rfl) hnL.symm rfl ?_
    refine v_iconst (pc := 26) (v := 0) g dX5_goes_26 (by decide) ?_
    refine v_istore_n (pc := 27) 3 _ g dX5_goes_27 rfl (Nat.le_of_ble_eq_true rfl) hnL.symm rfl ?_
    have L28 : ∀ (fu : Nat) (b : Bool) (k : Nat), k ≤ 200 → (b = true → fst (gP S i) 200 0 = some (k - 1) ∧ 1 ≤ k) → (b = false → fst (gP S i) 200 0 = fst (gP S i) (200 - k) k) → 200 - k < fu → V X 28 [some (.ref 0), some (.int (nI i)), some (.int (bI (b = true))), some (.int (nI k))] [] (mW (rowOf (minN S k)) fo (weN S of k) (rowOf S) b1 ta tm so be te wo va gd bi si sh le im bf kp) := by
      intro fu
      induction fu with
      | zero => intro b k hk h1 h2 hm; exact absurd hm (Nat.not_lt_zero _)
      | succ fu ih =>
        intro b k hk h1 h2 hm
        refine v_iload_n (pc := 28) 3 g dX5_goes_28 rfl rfl ?_
        refine v_sipush (pc := 29) (v := 200) g dX5_goes_29 (by decide) ?_
        refine v_icmp_ge (pc := 32) 67 g dX5_goes_32 rfl (fun c32 => ?_) (fun c32 => ?_)
        · have e32 : k = 200 := ge_t (n := 200) rfl hk (by omega) c32
          subst e32
          refine v_aload_n (pc := 67) 0 g dX5_goes_67 rfl rfl ?_
          refine v_iconst (pc := 68) (v := 0) g dX5_goes_68 (by decide) ?_
          refine v_aload_n (pc := 69) 0 g dX5_goes_69 rfl rfl ?_
          refine v_get (pc := 70) g dX5_goes_70 fl_X5_16 rfl rfl ?_
          refine v_cVd (pc := 73) g dX5_goes_73 lk_X5_156 (c_mvB_tr _) (Nat.le_of_ble_eq_true rfl) rfl rfl rfl rfl (Nat.le_of_ble_eq_true rfl) ?_
          refine v_iload_n (pc := 76) 2 g dX5_goes_76 rfl rfl ?_
          refine v_ifb_eq (pc := 77) 84 g dX5_goes_77 rfl (fun c77 => ?_) (fun c77 => ?_)
          · refine v_aload_n (pc := 84) 0 g dX5_goes_84 rfl rfl ?_
            refine v_ldc (pc := 85) g dX5_goes_85 co_X5_166 ?_
            refine v_cVd (pc := 87) g dX5_goes_87 lk_X5_81 (c_X5_finds _ 3 (-1000000004) (by decide) (by decide)) (Nat.le_of_ble_eq_true rfl) rfl rfl rfl rfl (Nat.le_of_ble_eq_true rfl) ?_
            exact v_iret (pc := 90) g hret dX5_goes_90 (by first | exact ⟨_, _, so_i (by unfold r_13 a_13; rw [if_pos hC, ei, (h1 c77).1, show some (k - 1) = some (k - 1) from rfl]; show nI k = nI (k - 1 + 1); rw [show k - 1 + 1 = k by have := (h1 c77).2; omega]), by unfold f_13 a_13; rw [if_pos hC, ei, (h1 c77).1]; rfl⟩ | exact ⟨_, _, so_i (by unfold r_13 a_13; rw [if_pos hC, ei, (h1 c77).1]; rfl), by unfold f_13 a_13; rw [if_pos hC, ei, (h1 c77).1]; rfl⟩ | exact ⟨_, _, so_i (by unfold r_13 a_13; rw [if_pos hC, ei, h2 (Bool.eq_false_iff.mpr c77), fst_e (by omega)]; rfl), by unfold f_13 a_13; rw [if_pos hC, ei, h2 (Bool.eq_false_iff.mpr c77), fst_e (by omega)]; rfl⟩ | exact absurd c36 c77)
          · refine v_iload_n (pc := 80) 3 g dX5_goes_80 rfl rfl ?_
            refine v_goto (pc := 81) 90 g dX5_goes_81 rfl ?_
            exact v_iret (pc := 90) g hret dX5_goes_90 (by first | exact ⟨_, _, so_i (by unfold r_13 a_13; rw [if_pos hC, ei, (h1 c77).1, show some (k - 1) = some (k - 1) from rfl]; show nI k = nI (k - 1 + 1); rw [show k - 1 + 1 = k by have := (h1 c77).2; omega]), by unfold f_13 a_13; rw [if_pos hC, ei, (h1 c77).1]; rfl⟩ | exact ⟨_, _, so_i (by unfold r_13 a_13; rw [if_pos hC, ei, (h1 c77).1]; rfl), by unfold f_13 a_13; rw [if_pos hC, ei, (h1 c77).1]; rfl⟩ | exact ⟨_, _, so_i (by unfold r_13 a_13; rw [if_pos hC, ei, h2 (Bool.eq_false_iff.mpr c77), fst_e (by omega)]; rfl), by unfold f_13 a_13; rw [if_pos hC, ei, h2 (Bool.eq_false_iff.mpr c77), fst_e (by omega)]; rfl⟩ | exact absurd c36 c77)
        · have e32 : k < 200 := ge_f (n := 200) rfl hk (by omega) c32
          refine v_iload_n (pc := 35) 2 g dX5_goes_35 rfl rfl ?_
          refine v_ifb_ne (pc := 36) 67 g dX5_goes_36 rfl (fun c36 => ?_) (fun c36 => ?_)
          · refine v_aload_n (pc := 67) 0 g dX5_goes_67 rfl rfl ?_
            refine v_iconst (pc := 68) (v := 0) g dX5_goes_68 (by decide) ?_
            refine v_aload_n (pc := 69) 0 g dX5_goes_69 rfl rfl ?_
            refine v_get (pc := 70) g dX5_goes_70 fl_X5_16 rfl rfl ?_
            refine v_cVd (pc := 73) g dX5_goes_73 lk_X5_156 (c_mvB_tr _) (Nat.le_of_ble_eq_true rfl) rfl rfl rfl rfl (Nat.le_of_ble_eq_true rfl) ?_
            refine v_iload_n (pc := 76) 2 g dX5_goes_76 rfl rfl ?_
            refine v_ifb_eq (pc := 77) 84 g dX5_goes_77 rfl (fun c77 => ?_) (fun c77 => ?_)
            · refine v_aload_n (pc := 84) 0 g dX5_goes_84 rfl rfl ?_
              refine v_ldc (pc := 85) g dX5_goes_85 co_X5_166 ?_
              refine v_cVd (pc := 87) g dX5_goes_87 lk_X5_81 (c_X5_finds _ 3 (-1000000004) (by decide) (by decide)) (Nat.le_of_ble_eq_true rfl) rfl rfl rfl rfl (Nat.le_of_ble_eq_true rfl) ?_
              exact v_iret (pc := 90) g hret dX5_goes_90 (by first | exact ⟨_, _, so_i (by unfold r_13 a_13; rw [if_pos hC, ei, (h1 c77).1, show some (k - 1) = some (k - 1) from rfl]; show nI k = nI (k - 1 + 1); rw [show k - 1 + 1 = k by have := (h1 c77).2; omega]), by unfold f_13 a_13; rw [if_pos hC, ei, (h1 c77).1]; rfl⟩ | exact ⟨_, _, so_i (by unfold r_13 a_13; rw [if_pos hC, ei, (h1 c77).1]; rfl), by unfold f_13 a_13; rw [if_pos hC, ei, (h1 c77).1]; rfl⟩ | exact ⟨_, _, so_i (by unfold r_13 a_13; rw [if_pos hC, ei, h2 (Bool.eq_false_iff.mpr c77), fst_e (by omega)]; rfl), by unfold f_13 a_13; rw [if_pos hC, ei, h2 (Bool.eq_false_iff.mpr c77), fst_e (by omega)]; rfl⟩ | exact absurd c36 c77)
            · refine v_iload_n (pc := 80) 3 g dX5_goes_80 rfl rfl ?_
              refine v_goto (pc := 81) 90 g dX5_goes_81 rfl ?_
              exact v_iret (pc := 90) g hret dX5_goes_90 (by first | exact ⟨_, _, so_i (by unfold r_13 a_13; rw [if_pos hC, ei, (h1 c77).1, show some (k - 1) = some (k - 1) from rfl]; show nI k = nI (k - 1 + 1); rw [show k - 1 + 1 = k by have := (h1 c77).2; omega]), by unfold f_13 a_13; rw [if_pos hC, ei, (h1 c77).1]; rfl⟩ | exact ⟨_, _, so_i (by unfold r_13 a_13; rw [if_pos hC, ei, (h1 c77).1]; rfl), by unfold f_13 a_13; rw [if_pos hC, ei, (h1 c77).1]; rfl⟩ | exact ⟨_, _, so_i (by unfold r_13 a_13; rw [if_pos hC, ei, h2 (Bool.eq_false_iff.mpr c77), fst_e (by omega)]; rfl), by unfold f_13 a_13; rw [if_pos hC, ei, h2 (Bool.eq_false_iff.mpr c77), fst_e (by omega)]; rfl⟩ | exact absurd c36 c77)
          · have hf := h2 (Bool.eq_false_iff.mpr c36)
            refine v_aload_n (pc := 39) 0 g dX5_goes_39 rfl rfl ?_
            refine v_cVd (pc := 40) g dX5_goes_40 lk_X5_148 (c_X5_oneMinute (minN S k) (hI.minN k)) (Nat.le_of_ble_eq_true rfl) rfl rfl rfl rfl (Nat.le_of_ble_eq_true rfl) ?_
            refine v_iincN (pc := 43) g dX5_goes_43 rfl hnL.symm ?_
            refine v_aload_n (pc := 46) 0 g dX5_goes_46 rfl rfl ?_
            refine v_get (pc := 47) g dX5_goes_47 fl_X5_141 rfl rfl ?_
            refine v_iload_n (pc := 50) 1 g dX5_goes_50 rfl rfl ?_
            refine v_ishr (pc := 51) g dX5_goes_51 ?_
            refine v_iconst (pc := 52) (v := 1) g dX5_goes_52 (by decide) ?_
            refine v_iand (pc := 53) g dX5_goes_53 ?_
            refine v_iconst (pc := 54) (v := 1) g dX5_goes_54 (by decide) ?_
            refine v_icmp_ne (pc := 55) 62 g dX5_goes_55 rfl (fun c55 => ?_) (fun c55 => ?_)
            · rw [fst_f (by omega) (show gP S i k = false from decide_eq_false c55)] at hf
              refine v_iconst (pc := 62) (v := 0) g dX5_goes_62 (by decide) ?_
              refine v_istore_n (pc := 63) 2 _ g dX5_goes_63 rfl (Nat.le_of_ble_eq_true rfl) hnL.symm rfl ?_
              refine v_goto (pc := 64) 28 g dX5_goes_64 rfl ?_
              first | exact ih true (k + 1) (by omega) (fun _ => ⟨hf, by omega⟩) (fun z => by cases z) (by omega) | exact ih false (k + 1) (by omega) (fun z => by cases z) (fun _ => hf) (by omega)
            · rw [fst_t (by omega) (show gP S i k = true from decide_eq_true c55)] at hf
              refine v_iconst (pc := 58) (v := 1) g dX5_goes_58 (by decide) ?_
              refine v_goto (pc := 59) 63 g dX5_goes_59 rfl ?_
              refine v_istore_n (pc := 63) 2 _ g dX5_goes_63 rfl (Nat.le_of_ble_eq_true rfl) hnL.symm rfl ?_
              refine v_goto (pc := 64) 28 g dX5_goes_64 rfl ?_
              first | exact ih true (k + 1) (by omega) (fun _ => ⟨hf, by omega⟩) (fun z => by cases z) (by omega) | exact ih false (k + 1) (by omega) (fun z => by cases z) (fun _ => hf) (by omega)
    exact L28 201 false 0 (Nat.zero_le _) (fun z => by cases z) (fun _ => rfl) (by omega)
  · refine v_aload_n (pc := 8) 0 g dX5_goes_8 rfl rfl ?_
    refine v_ldc (pc := 9) g dX5_goes_9 co_X5_44 ?_
    refine v_cVd (pc := 11) g dX5_goes_11 lk_X5_81 (c_X5_finds _ 0 (-1000000001) (by decide) (by decide)) (Nat.le_of_ble_eq_true rfl) rfl rfl rfl rfl (Nat.le_of_ble_eq_true rfl) ?_
    exact v_iret (pc := 14) g hret dX5_goes_14 (⟨_, _, so_i (by unfold r_13; rw [if_neg c5]), by unfold f_13; rw [if_neg c5]⟩)
theorem rd_nat (n : Nat) {S : St} (h : Inv S) : ∃ a, a ≤ 119988 ∧ rd n S = nI a := by
  have hre : ∀ k, ∃ b, b ≤ 9999 ∧ sRe (minN S n) k = nI b := fun k => ((h.minN n).re k).nat (m := 9999) (by omega)
  have : ∀ m, m < 13 → ∃ a, a ≤ 9999 * m ∧ sumN (sRe (minN S n)) m = nI a := by
    intro m
    induction m with
    | zero => exact fun _ => ⟨0, by omega, rfl⟩
    | succ m ih =>
      intro hm
      obtain ⟨a, ha, ea⟩ := ih (by omega)
      obtain ⟨b, hb, eb⟩ := hre m
      exact ⟨a + b, by omega, by rw [sumN, ea, eb, nI_add]⟩
  obtain ⟨a, ha, ea⟩ := this 12 (by omega)
  exact ⟨a, by omega, ea⟩
set_option maxRecDepth 20000 in
set_option maxHeartbeats 2000000 in
theorem c_X5_seat (S : St) {fo : Nat → Int32} {of : Int32} {tr : Nat → Int32} {b1 : Nat → Int32} {ta : Nat → Int32} {tm : Nat} {so : Int32} {be : Int32} {te : Int32} {wo : Int64} {va : Int32} {gd : Int32} {bi : Nat → Int32} {si : Nat → Int32} {sh : Nat → Int64} {le : Nat → Int64} {im : Nat → Int32} {bf : Nat → Int32} {kp : Int32} (p n : Int32) (hI : Inv S) : Runs 8 yX5_seat cX5_seat 7 (some .int) [.ref 0, .int p, .int n] (mW (rowOf S) fo of tr b1 ta tm so be te wo va gd bi si sh le im bf kp) (fun r0 w0 => ∃ o1 t1, r0 = some (.int (r_16 S p n)) ∧ w0 = mW (rowOf S) (fdI (C16 S p n) fo 0) o1 t1 b1 ta tm so be te wo va gd bi si sh le im bf kp) := by
  refine Runs.of (by decide) (Nat.le_of_ble_eq_true rfl) rfl ?_
  intro X g hret hnL
  refine v_aload_n (pc := 0) 0 g dX5_seat_0 rfl rfl ?_
  refine v_iload_n (pc := 1) 1 g dX5_seat_1 rfl rfl ?_
  refine v_cVd (pc := 2) g dX5_seat_2 lk_X5_111 (c_X5_isOne S _ hI.n) (Nat.le_of_ble_eq_true rfl) rfl rfl rfl rfl (Nat.le_of_ble_eq_true rfl) ?_
  refine v_ifb_eq (pc := 5) 18 g dX5_seat_5 rfl (fun c5 => ?_) (fun c5 => ?_)
  · refine v_aload_n (pc := 18) 0 g dX5_seat_18 rfl rfl ?_
    refine v_ldc (pc := 19) g dX5_seat_19 co_X5_44 ?_
    refine v_cVd (pc := 21) g dX5_seat_21 lk_X5_81 (c_X5_finds _ 0 (-1000000001) (by decide) (by decide)) (Nat.le_of_ble_eq_true rfl) rfl rfl rfl rfl (Nat.le_of_ble_eq_true rfl) ?_
    exact v_iret (pc := 24) g hret dX5_seat_24 (⟨_, _, so_i (by unfold r_16; rw [if_neg (by omega)]), by unfold fdI; rw [if_neg (by omega)]⟩)
  · refine v_iload_n (pc := 8) 2 g dX5_seat_8 rfl rfl ?_
    refine v_iconst (pc := 9) (v := 1) g dX5_seat_9 (by decide) ?_
    refine v_bipush (pc := 10) (v := 60) g dX5_seat_10 (by decide) ?_
    refine v_cSd (pc := 12) g dX5_seat_12 lk_X5_45 ((c_X5_in _ _ _ 1 60 rfl rfl).any rfl rfl _) (Nat.le_of_ble_eq_true rfl) rfl rfl (Nat.le_of_ble_eq_true rfl) ?_
    refine v_ifb_ne (pc := 15) 25 g dX5_seat_15 rfl (fun c15 => ?_) (fun c15 => ?_)
    · have hC : C16 S p n := ⟨c5, c15⟩
      obtain ⟨i, hi, rfl⟩ := (show isP S p from c5).nat hI.n
      have ei : (nI i).toNatClampNeg = i := nI_clamp (by have := hI.n; omega)
      obtain ⟨m, hm, rfl⟩ := (show inR n 0 ((60 : Nat) : Int) from ⟨by have := c15.1; omega, c15.2⟩).nat (by omega)
      have em : (nI m).toNatClampNeg = m := nI_clamp (by omega)
      refine v_aload_n (pc := 25) 0 g dX5_seat_25 rfl rfl ?_
      refine v_iconst (pc := 26) (v := 1) g dX5_seat_26 (by decide) ?_
      refine v_aload_n (pc := 27) 0 g dX5_seat_27 rfl rfl ?_
      refine v_get (pc := 28) g dX5_seat_28 fl_X5_16 rfl rfl ?_
      refine v_cVd (pc := 31) g dX5_seat_31 lk_X5_156 (c_mvK_tr (rowOf S)) (Nat.le_of_ble_eq_true rfl) rfl rfl rfl rfl (Nat.le_of_ble_eq_true rfl) ?_
      refine v_iconst (pc := 34) (v := 0) g dX5_seat_34 (by decide) ?_
      refine v_istore_n (pc := 35) 3 _ g dX5_seat_35 rfl (Nat.le_of_ble_eq_true rfl) hnL.symm rfl ?_
      refine v_iconst (pc := 36) (v := (-1)) g dX5_seat_36 (by decide) ?_
      refine v_istore (pc := 37) _ g dX5_seat_37 (Nat.le_of_ble_eq_true rfl) hnL.symm rfl ?_
      refine v_iconst (pc := 39) (v := 0) g dX5_seat_39 (by decide) ?_
      refine v_istore (pc := 40) _ g dX5_seat_40 (Nat.le_of_ble_eq_true rfl) hnL.symm rfl ?_
      refine v_fg [true, true, true, true, true, true, false] ?_
      have L42 : ∀ (fu : Nat) (of : Int32) (k : Nat), k ≤ 24 → 24 - k < fu → V X 42 [some (.ref 0), some (.int (nI i)), some (.int (nI m)), some (.int (bst (fun c => rd m (ch1 S i c)) (k)).1), some (.int (bst (fun c => rd m (ch1 S i c)) (k)).2), some (.int (nI (k))), none] [] (mW (rowOf S) fo of (rowOf S) b1 ta tm so be te wo va gd bi si sh le im bf kp) := by
        intro fu
        induction fu with
        | zero => intro of k hk hm; exact absurd hm (Nat.not_lt_zero _)
        | succ fu ih =>
          intro of k hk hm
          refine v_iload (pc := 42) g dX5_seat_42 rfl ?_
          refine v_bipush (pc := 44) (v := 24) g dX5_seat_44 (by decide) ?_
          refine v_icmp_ge (pc := 46) 112 g dX5_seat_46 rfl (fun c46 => ?_) (fun c46 => ?_)
          · have e46 : k = 24 := ge_t (n := 24) rfl hk (by omega) c46
            subst e46
            refine v_iload_n (pc := 112) 3 g dX5_seat_112 rfl rfl ?_
            exact v_iret (pc := 113) g hret dX5_seat_113 (⟨_, _, so_i (by unfold r_16; rw [if_pos hC, ei, em]), by unfold fdI; rw [if_pos hC]⟩)
          · have e46 : k < 24 := ge_f (n := 24) rfl hk (by omega) c46
            refine v_aload_n (pc := 49) 0 g dX5_seat_49 rfl rfl ?_
            refine v_iload_n (pc := 50) 1 g dX5_seat_50 rfl rfl ?_
            refine v_iconst (pc := 51) (v := 1) g dX5_seat_51 (by decide) ?_
            refine v_iload (pc := 52) g dX5_seat_52 rfl ?_
            refine v_iconst (pc := 54) (v := 2) g dX5_seat_54 (by decide) ?_
            refine v_idiv (pc := 55) g dX5_seat_55 (by decide) ?_
            rw [show nI k / 2 = nI (k / 2) from pk_div (d := 2) (by omega) (by omega) (by omega)]
            refine v_cVd (pc := 56) g dX5_seat_56 lk_X5_99 (c_pu_At S i _ (by have := hI.n; omega)) (Nat.le_of_ble_eq_true rfl) rfl rfl rfl rfl (Nat.le_of_ble_eq_true rfl) ?_
            refine v_aload_n (pc := 59) 0 g dX5_seat_59 rfl rfl ?_
            refine v_iload_n (pc := 60) 1 g dX5_seat_60 rfl rfl ?_
            refine v_iconst (pc := 61) (v := 2) g dX5_seat_61 (by decide) ?_
            refine v_iload (pc := 62) g dX5_seat_62 rfl ?_
            refine v_iconst (pc := 64) (v := 2) g dX5_seat_64 (by decide) ?_
            refine v_irem (pc := 65) g dX5_seat_65 (by decide) ?_
            rw [show nI k - nI k / 2 * 2 = nI (k % 2) from pk_rem (d := 2) (by omega) (by omega) (by omega)]
            refine v_cVd (pc := 66) g dX5_seat_66 lk_X5_99 (c_pu_Fa _ i _ (by have := hI.n; omega)) (Nat.le_of_ble_eq_true rfl) rfl rfl rfl rfl (Nat.le_of_ble_eq_true rfl) ?_
            refine v_w (mW (rowOf (ch1 S i k)) fo of (rowOf S) b1 ta tm so be te wo va gd bi si sh le im bf kp) rfl ?_
            refine v_aload_n (pc := 69) 0 g dX5_seat_69 rfl rfl ?_
            refine v_iload_n (pc := 70) 2 g dX5_seat_70 rfl rfl ?_
            refine v_cVd (pc := 71) g dX5_seat_71 lk_X5_167 (c_X5_readBehind (tr := tr) (ch1 S i k) S m (hI.ch1 i e46) (by omega)) (Nat.le_of_ble_eq_true rfl) rfl rfl rfl rfl (Nat.le_of_ble_eq_true rfl) ?_
            refine v_istore (pc := 74) _ g dX5_seat_74 (Nat.le_of_ble_eq_true rfl) hnL.symm rfl ?_
            refine v_iload (pc := 76) g dX5_seat_76 rfl ?_
            refine v_iload (pc := 78) g dX5_seat_78 rfl ?_
            refine v_icmp_le (pc := 80) 88 g dX5_seat_80 rfl (fun c80 => ?_) (fun c80 => ?_)
            · have eb : bst (fun c => rd m (ch1 S i c)) (k + 1) = bst (fun c => rd m (ch1 S i c)) k := if_neg (Int32.not_lt.mpr c80)
              refine v_iload_n (pc := 88) 3 g dX5_seat_88 rfl rfl ?_
              refine v_istore_n (pc := 89) 3 _ g dX5_seat_89 rfl (Nat.le_of_ble_eq_true rfl) hnL.symm rfl ?_
              refine v_iload (pc := 90) g dX5_seat_90 rfl ?_
              refine v_iload (pc := 92) g dX5_seat_92 rfl ?_
              refine v_icmp_le (pc := 94) 102 g dX5_seat_94 rfl (fun c94 => ?_) (fun c94 => ?_)
              · have q2 := c80
                refine v_iload (pc := 102) g dX5_seat_102 rfl ?_
                refine v_istore (pc := 104) _ g dX5_seat_104 (Nat.le_of_ble_eq_true rfl) hnL.symm rfl ?_
                refine v_iincN (pc := 106) g dX5_seat_106 rfl hnL.symm ?_
                refine v_goto (pc := 109) 42 g dX5_seat_109 rfl ?_
                refine v_fg [true, true, true, true, true, true, false] ?_
                first | (refine v_loE [some (.ref 0), some (.int (nI i)), some (.int (nI m)), some (.int (bst (fun c => rd m (ch1 S i c)) (k + 1)).1), some (.int (bst (fun c => rd m (ch1 S i c)) (k + 1)).2), some (.int (nI (k + 1))), none] (by rw [eb]; rfl) ?_; exact ih _ (k + 1) (by omega) (by omega)) | exact absurd c80 c94 | exact absurd c94 c80
              · have q2 := c80
                refine v_iload (pc := 97) g dX5_seat_97 rfl ?_
                refine v_goto (pc := 99) 104 g dX5_seat_99 rfl ?_
                refine v_istore (pc := 104) _ g dX5_seat_104 (Nat.le_of_ble_eq_true rfl) hnL.symm rfl ?_
                refine v_iincN (pc := 106) g dX5_seat_106 rfl hnL.symm ?_
                refine v_goto (pc := 109) 42 g dX5_seat_109 rfl ?_
                refine v_fg [true, true, true, true, true, true, false] ?_
                first | (refine v_loE [some (.ref 0), some (.int (nI i)), some (.int (nI m)), some (.int (bst (fun c => rd m (ch1 S i c)) (k + 1)).1), some (.int (bst (fun c => rd m (ch1 S i c)) (k + 1)).2), some (.int (nI (k + 1))), none] (by rw [eb]; rfl) ?_; exact ih _ (k + 1) (by omega) (by omega)) | exact absurd c80 c94 | exact absurd c94 c80
            · have eb : bst (fun c => rd m (ch1 S i c)) (k + 1) = (nI k, rd m (ch1 S i k)) := if_pos (Int32.not_le.mp c80)
              refine v_iload (pc := 83) g dX5_seat_83 rfl ?_
              refine v_goto (pc := 85) 89 g dX5_seat_85 rfl ?_
              refine v_istore_n (pc := 89) 3 _ g dX5_seat_89 rfl (Nat.le_of_ble_eq_true rfl) hnL.symm rfl ?_
              refine v_iload (pc := 90) g dX5_seat_90 rfl ?_
              refine v_iload (pc := 92) g dX5_seat_92 rfl ?_
              refine v_icmp_le (pc := 94) 102 g dX5_seat_94 rfl (fun c94 => ?_) (fun c94 => ?_)
              · have q2 := c80
                refine v_iload (pc := 102) g dX5_seat_102 rfl ?_
                refine v_istore (pc := 104) _ g dX5_seat_104 (Nat.le_of_ble_eq_true rfl) hnL.symm rfl ?_
                refine v_iincN (pc := 106) g dX5_seat_106 rfl hnL.symm ?_
                refine v_goto (pc := 109) 42 g dX5_seat_109 rfl ?_
                refine v_fg [true, true, true, true, true, true, false] ?_
                first | (refine v_loE [some (.ref 0), some (.int (nI i)), some (.int (nI m)), some (.int (bst (fun c => rd m (ch1 S i c)) (k + 1)).1), some (.int (bst (fun c => rd m (ch1 S i c)) (k + 1)).2), some (.int (nI (k + 1))), none] (by rw [eb]; rfl) ?_; exact ih _ (k + 1) (by omega) (by omega)) | exact absurd c80 c94 | exact absurd c94 c80
              · have q2 := c80
                refine v_iload (pc := 97) g dX5_seat_97 rfl ?_
                refine v_goto (pc := 99) 104 g dX5_seat_99 rfl ?_
                refine v_istore (pc := 104) _ g dX5_seat_104 (Nat.le_of_ble_eq_true rfl) hnL.symm rfl ?_
                refine v_iincN (pc := 106) g dX5_seat_106 rfl hnL.symm ?_
                refine v_goto (pc := 109) 42 g dX5_seat_109 rfl ?_
                refine v_fg [true, true, true, true, true, true, false] ?_
                first | (refine v_loE [some (.ref 0), some (.int (nI i)), some (.int (nI m)), some (.int (bst (fun c => rd m (ch1 S i c)) (k + 1)).1), some (.int (bst (fun c => rd m (ch1 S i c)) (k + 1)).2), some (.int (nI (k + 1))), none] (by rw [eb]; rfl) ?_; exact ih _ (k + 1) (by omega) (by omega)) | exact absurd c80 c94 | exact absurd c94 c80
      exact L42 25 _ 0 (Nat.zero_le _) (by omega)
    · refine v_aload_n (pc := 18) 0 g dX5_seat_18 rfl rfl ?_
      refine v_ldc (pc := 19) g dX5_seat_19 co_X5_44 ?_
      refine v_cVd (pc := 21) g dX5_seat_21 lk_X5_81 (c_X5_finds _ 0 (-1000000001) (by decide) (by decide)) (Nat.le_of_ble_eq_true rfl) rfl rfl rfl rfl (Nat.le_of_ble_eq_true rfl) ?_
      exact v_iret (pc := 24) g hret dX5_seat_24 (⟨_, _, so_i (by unfold r_16; rw [if_neg (by omega)]), by unfold fdI; rw [if_neg (by omega)]⟩)
set_option maxRecDepth 20000 in
set_option maxHeartbeats 2000000 in
theorem c_X5_kind (S : St) {fo : Nat → Int32} {of : Int32} {tr : Nat → Int32} {b1 : Nat → Int32} {ta : Nat → Int32} {tm : Nat} {so : Int32} {be : Int32} {te : Int32} {wo : Int64} {va : Int32} {gd : Int32} {bi : Nat → Int32} {si : Nat → Int32} {sh : Nat → Int64} {le : Nat → Int64} {im : Nat → Int32} {bf : Nat → Int32} {kp : Int32} (p n : Int32) (hI : Inv S) : Runs 8 yX5_kind cX5_kind 7 (some .int) [.ref 0, .int p, .int n] (mW (rowOf S) fo of tr b1 ta tm so be te wo va gd bi si sh le im bf kp) (fun r0 w0 => ∃ o1 t1, r0 = some (.int (r_17 S p n)) ∧ w0 = mW (rowOf S) (fdI (C16 S p n) fo 0) o1 t1 b1 ta tm so be te wo va gd bi si sh le im bf kp) := by
  refine Runs.of (by decide) (Nat.le_of_ble_eq_true rfl) rfl ?_
  intro X g hret hnL
  refine v_aload_n (pc := 0) 0 g dX5_kind_0 rfl rfl ?_
  refine v_iload_n (pc := 1) 1 g dX5_kind_1 rfl rfl ?_
  refine v_cVd (pc := 2) g dX5_kind_2 lk_X5_111 (c_X5_isOne S _ hI.n) (Nat.le_of_ble_eq_true rfl) rfl rfl rfl rfl (Nat.le_of_ble_eq_true rfl) ?_
  refine v_ifb_eq (pc := 5) 18 g dX5_kind_5 rfl (fun c5 => ?_) (fun c5 => ?_)
  · refine v_aload_n (pc := 18) 0 g dX5_kind_18 rfl rfl ?_
    refine v_ldc (pc := 19) g dX5_kind_19 co_X5_44 ?_
    refine v_cVd (pc := 21) g dX5_kind_21 lk_X5_81 (c_X5_finds _ 0 (-1000000001) (by decide) (by decide)) (Nat.le_of_ble_eq_true rfl) rfl rfl rfl rfl (Nat.le_of_ble_eq_true rfl) ?_
    exact v_iret (pc := 24) g hret dX5_kind_24 (⟨_, _, so_i (by unfold r_17; rw [if_neg (by omega)]), by unfold fdI; rw [if_neg (by omega)]⟩)
  · refine v_iload_n (pc := 8) 2 g dX5_kind_8 rfl rfl ?_
    refine v_iconst (pc := 9) (v := 1) g dX5_kind_9 (by decide) ?_
    refine v_bipush (pc := 10) (v := 60) g dX5_kind_10 (by decide) ?_
    refine v_cSd (pc := 12) g dX5_kind_12 lk_X5_45 ((c_X5_in _ _ _ 1 60 rfl rfl).any rfl rfl _) (Nat.le_of_ble_eq_true rfl) rfl rfl (Nat.le_of_ble_eq_true rfl) ?_
    refine v_ifb_ne (pc := 15) 25 g dX5_kind_15 rfl (fun c15 => ?_) (fun c15 => ?_)
    · have hC : C16 S p n := ⟨c5, c15⟩
      obtain ⟨i, hi, rfl⟩ := (show isP S p from c5).nat hI.n
      have ei : (nI i).toNatClampNeg = i := nI_clamp (by have := hI.n; omega)
      obtain ⟨m, hm, rfl⟩ := (show inR n 0 ((60 : Nat) : Int) from ⟨by have := c15.1; omega, c15.2⟩).nat (by omega)
      have em : (nI m).toNatClampNeg = m := nI_clamp (by omega)
      refine v_aload_n (pc := 25) 0 g dX5_kind_25 rfl rfl ?_
      refine v_iconst (pc := 26) (v := 1) g dX5_kind_26 (by decide) ?_
      refine v_aload_n (pc := 27) 0 g dX5_kind_27 rfl rfl ?_
      refine v_get (pc := 28) g dX5_kind_28 fl_X5_16 rfl rfl ?_
      refine v_cVd (pc := 31) g dX5_kind_31 lk_X5_156 (c_mvK_tr (rowOf S)) (Nat.le_of_ble_eq_true rfl) rfl rfl rfl rfl (Nat.le_of_ble_eq_true rfl) ?_
      refine v_iconst (pc := 34) (v := 0) g dX5_kind_34 (by decide) ?_
      refine v_istore_n (pc := 35) 3 _ g dX5_kind_35 rfl (Nat.le_of_ble_eq_true rfl) hnL.symm rfl ?_
      refine v_iconst (pc := 36) (v := (-1)) g dX5_kind_36 (by decide) ?_
      refine v_istore (pc := 37) _ g dX5_kind_37 (Nat.le_of_ble_eq_true rfl) hnL.symm rfl ?_
      refine v_iconst (pc := 39) (v := 0) g dX5_kind_39 (by decide) ?_
      refine v_istore (pc := 40) _ g dX5_kind_40 (Nat.le_of_ble_eq_true rfl) hnL.symm rfl ?_
      refine v_fg [true, true, true, true, true, true, false] ?_
      have L42 : ∀ (fu : Nat) (of : Int32) (k : Nat), k ≤ 6 → 6 - k < fu → V X 42 [some (.ref 0), some (.int (nI i)), some (.int (nI m)), some (.int (bst (fun c => rd m (ch2 S i c)) (k)).1), some (.int (bst (fun c => rd m (ch2 S i c)) (k)).2), some (.int (nI (k))), none] [] (mW (rowOf S) fo of (rowOf S) b1 ta tm so be te wo va gd bi si sh le im bf kp) := by
        intro fu
        induction fu with
        | zero => intro of k hk hm; exact absurd hm (Nat.not_lt_zero _)
        | succ fu ih =>
          intro of k hk hm
          refine v_iload (pc := 42) g dX5_kind_42 rfl ?_
          refine v_bipush (pc := 44) (v := 6) g dX5_kind_44 (by decide) ?_
          refine v_icmp_ge (pc := 46) 100 g dX5_kind_46 rfl (fun c46 => ?_) (fun c46 => ?_)
          · have e46 : k = 6 := ge_t (n := 6) rfl hk (by omega) c46
            subst e46
            refine v_iload_n (pc := 100) 3 g dX5_kind_100 rfl rfl ?_
            exact v_iret (pc := 101) g hret dX5_kind_101 (⟨_, _, so_i (by unfold r_17; rw [if_pos hC, ei, em]), by unfold fdI; rw [if_pos hC]⟩)
          · have e46 : k < 6 := ge_f (n := 6) rfl hk (by omega) c46
            refine v_aload_n (pc := 49) 0 g dX5_kind_49 rfl rfl ?_
            refine v_iload_n (pc := 50) 1 g dX5_kind_50 rfl rfl ?_
            refine v_iconst (pc := 51) (v := 0) g dX5_kind_51 (by decide) ?_
            refine v_iload (pc := 52) g dX5_kind_52 rfl ?_
            refine v_cVd (pc := 54) g dX5_kind_54 lk_X5_99 (c_pu_Ki S i _ (by have := hI.n; omega)) (Nat.le_of_ble_eq_true rfl) rfl rfl rfl rfl (Nat.le_of_ble_eq_true rfl) ?_
            refine v_w (mW (rowOf (ch2 S i k)) fo of (rowOf S) b1 ta tm so be te wo va gd bi si sh le im bf kp) rfl ?_
            refine v_aload_n (pc := 57) 0 g dX5_kind_57 rfl rfl ?_
            refine v_iload_n (pc := 58) 2 g dX5_kind_58 rfl rfl ?_
            refine v_cVd (pc := 59) g dX5_kind_59 lk_X5_167 (c_X5_readBehind (tr := tr) (ch2 S i k) S m (hI.ch2 i e46) (by omega)) (Nat.le_of_ble_eq_true rfl) rfl rfl rfl rfl (Nat.le_of_ble_eq_true rfl) ?_
            refine v_istore (pc := 62) _ g dX5_kind_62 (Nat.le_of_ble_eq_true rfl) hnL.symm rfl ?_
            refine v_iload (pc := 64) g dX5_kind_64 rfl ?_
            refine v_iload (pc := 66) g dX5_kind_66 rfl ?_
            refine v_icmp_le (pc := 68) 76 g dX5_kind_68 rfl (fun c68 => ?_) (fun c68 => ?_)
            · have eb : bst (fun c => rd m (ch2 S i c)) (k + 1) = bst (fun c => rd m (ch2 S i c)) k := if_neg (Int32.not_lt.mpr c68)
              refine v_iload_n (pc := 76) 3 g dX5_kind_76 rfl rfl ?_
              refine v_istore_n (pc := 77) 3 _ g dX5_kind_77 rfl (Nat.le_of_ble_eq_true rfl) hnL.symm rfl ?_
              refine v_iload (pc := 78) g dX5_kind_78 rfl ?_
              refine v_iload (pc := 80) g dX5_kind_80 rfl ?_
              refine v_icmp_le (pc := 82) 90 g dX5_kind_82 rfl (fun c82 => ?_) (fun c82 => ?_)
              · have q2 := c68
                refine v_iload (pc := 90) g dX5_kind_90 rfl ?_
                refine v_istore (pc := 92) _ g dX5_kind_92 (Nat.le_of_ble_eq_true rfl) hnL.symm rfl ?_
                refine v_iincN (pc := 94) g dX5_kind_94 rfl hnL.symm ?_
                refine v_goto (pc := 97) 42 g dX5_kind_97 rfl ?_
                refine v_fg [true, true, true, true, true, true, false] ?_
                first | (refine v_loE [some (.ref 0), some (.int (nI i)), some (.int (nI m)), some (.int (bst (fun c => rd m (ch2 S i c)) (k + 1)).1), some (.int (bst (fun c => rd m (ch2 S i c)) (k + 1)).2), some (.int (nI (k + 1))), none] (by rw [eb]; rfl) ?_; exact ih _ (k + 1) (by omega) (by omega)) | exact absurd c68 c82 | exact absurd c82 c68
              · have q2 := c68
                refine v_iload (pc := 85) g dX5_kind_85 rfl ?_
                refine v_goto (pc := 87) 92 g dX5_kind_87 rfl ?_
                refine v_istore (pc := 92) _ g dX5_kind_92 (Nat.le_of_ble_eq_true rfl) hnL.symm rfl ?_
                refine v_iincN (pc := 94) g dX5_kind_94 rfl hnL.symm ?_
                refine v_goto (pc := 97) 42 g dX5_kind_97 rfl ?_
                refine v_fg [true, true, true, true, true, true, false] ?_
                first | (refine v_loE [some (.ref 0), some (.int (nI i)), some (.int (nI m)), some (.int (bst (fun c => rd m (ch2 S i c)) (k + 1)).1), some (.int (bst (fun c => rd m (ch2 S i c)) (k + 1)).2), some (.int (nI (k + 1))), none] (by rw [eb]; rfl) ?_; exact ih _ (k + 1) (by omega) (by omega)) | exact absurd c68 c82 | exact absurd c82 c68
            · have eb : bst (fun c => rd m (ch2 S i c)) (k + 1) = (nI k, rd m (ch2 S i k)) := if_pos (Int32.not_le.mp c68)
              refine v_iload (pc := 71) g dX5_kind_71 rfl ?_
              refine v_goto (pc := 73) 77 g dX5_kind_73 rfl ?_
              refine v_istore_n (pc := 77) 3 _ g dX5_kind_77 rfl (Nat.le_of_ble_eq_true rfl) hnL.symm rfl ?_
              refine v_iload (pc := 78) g dX5_kind_78 rfl ?_
              refine v_iload (pc := 80) g dX5_kind_80 rfl ?_
              refine v_icmp_le (pc := 82) 90 g dX5_kind_82 rfl (fun c82 => ?_) (fun c82 => ?_)
              · have q2 := c68
                refine v_iload (pc := 90) g dX5_kind_90 rfl ?_
                refine v_istore (pc := 92) _ g dX5_kind_92 (Nat.le_of_ble_eq_true rfl) hnL.symm rfl ?_
                refine v_iincN (pc := 94) g dX5_kind_94 rfl hnL.symm ?_
                refine v_goto (pc := 97) 42 g dX5_kind_97 rfl ?_
                refine v_fg [true, true, true, true, true, true, false] ?_
                first | (refine v_loE [some (.ref 0), some (.int (nI i)), some (.int (nI m)), some (.int (bst (fun c => rd m (ch2 S i c)) (k + 1)).1), some (.int (bst (fun c => rd m (ch2 S i c)) (k + 1)).2), some (.int (nI (k + 1))), none] (by rw [eb]; rfl) ?_; exact ih _ (k + 1) (by omega) (by omega)) | exact absurd c68 c82 | exact absurd c82 c68
              · have q2 := c68
                refine v_iload (pc := 85) g dX5_kind_85 rfl ?_
                refine v_goto (pc := 87) 92 g dX5_kind_87 rfl ?_
                refine v_istore (pc := 92) _ g dX5_kind_92 (Nat.le_of_ble_eq_true rfl) hnL.symm rfl ?_
                refine v_iincN (pc := 94) g dX5_kind_94 rfl hnL.symm ?_
                refine v_goto (pc := 97) 42 g dX5_kind_97 rfl ?_
                refine v_fg [true, true, true, true, true, true, false] ?_
                first | (refine v_loE [some (.ref 0), some (.int (nI i)), some (.int (nI m)), some (.int (bst (fun c => rd m (ch2 S i c)) (k + 1)).1), some (.int (bst (fun c => rd m (ch2 S i c)) (k + 1)).2), some (.int (nI (k + 1))), none] (by rw [eb]; rfl) ?_; exact ih _ (k + 1) (by omega) (by omega)) | exact absurd c68 c82 | exact absurd c82 c68
      exact L42 7 _ 0 (Nat.zero_le _) (by omega)
    · refine v_aload_n (pc := 18) 0 g dX5_kind_18 rfl rfl ?_
      refine v_ldc (pc := 19) g dX5_kind_19 co_X5_44 ?_
      refine v_cVd (pc := 21) g dX5_kind_21 lk_X5_81 (c_X5_finds _ 0 (-1000000001) (by decide) (by decide)) (Nat.le_of_ble_eq_true rfl) rfl rfl rfl rfl (Nat.le_of_ble_eq_true rfl) ?_
      exact v_iret (pc := 24) g hret dX5_kind_24 (⟨_, _, so_i (by unfold r_17; rw [if_neg (by omega)]), by unfold fdI; rw [if_neg (by omega)]⟩)
