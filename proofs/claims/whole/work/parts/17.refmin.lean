/-! ===== the reference: minutes, trials, findings ===== -/
set_option maxRecDepth 20000 in
set_option maxHeartbeats 2000000 in
theorem c_X5_catches (s : St) {fo : Nat → Int32} {of : Int32} {tr : Nat → Int32} {b1 : Nat → Int32} {ta : Nat → Int32} {tm : Nat} {so : Int32} {be : Int32} {te : Int32} {wo : Int64} {va : Int32} {gd : Int32} {bi : Nat → Int32} {si : Nat → Int32} {sh : Nat → Int64} {le : Nat → Int64} {im : Nat → Int32} {bf : Nat → Int32} {kp : Int32} (i : Nat) (hI : Inv s) (hi : i < 8) : RunD 1 yX5_catches cX5_catches 4 none [.ref 0, .int (nI i)] (mW (rowOf s) fo of tr b1 ta tm so be te wo va gd bi si sh le im bf kp) (none) (mW (rowOf (givN s i (sN s))) fo of tr b1 ta tm so be te wo va gd bi si sh le im bf kp) := by
  refine Runs.of (by decide) (Nat.le_of_ble_eq_true rfl) rfl ?_
  intro X g hret hnL
  refine v_iconst (pc := 0) (v := 0) g dX5_catches_0 (by decide) ?_
  refine v_istore_n (pc := 1) 2 _ g dX5_catches_1 rfl (Nat.le_of_ble_eq_true rfl) hnL.symm rfl ?_
  refine v_fg [true, true, true, false] ?_
  have L2 : ∀ (fu : Nat) (k : Nat), k ≤ sN s → sN s - k < fu → V X 2 [some (.ref 0), some (.int (nI i)), some (.int (nI k)), none] [] (mW (rowOf (givN s i k)) fo of tr b1 ta tm so be te wo va gd bi si sh le im bf kp) := by
    intro fu
    induction fu with
    | zero => intro k hk hm; exact absurd hm (Nat.not_lt_zero _)
    | succ fu ih =>
      intro k hk hm
      refine v_iload_n (pc := 2) 2 g dX5_catches_2 rfl rfl ?_
      refine v_aload_n (pc := 3) 0 g dX5_catches_3 rfl rfl ?_
      refine v_get (pc := 4) g dX5_catches_4 fl_X5_7 rfl rfl ?_
      refine v_iconst (pc := 7) (v := 2) g dX5_catches_7 (by decide) ?_
      refine v_ialdN (pc := 8) _ g dX5_catches_8 rfl rfl (Nat.le_of_ble_eq_true rfl) (Nat.le_of_ble_eq_true rfl) ?_
      rw [row_N]
      refine v_icmp_ge (pc := 9) 77 g dX5_catches_9 rfl (fun c9 => ?_) (fun c9 => ?_)
      · have e9 : k = sN s := ge_t (n := sN s) (by rw [sN_givN]) hk (by have := hI.n; omega) c9
        subst e9
        exact v_vret (pc := 77) g hret dX5_catches_77 (⟨rfl, rfl⟩)
      · have e9 : k < sN s := ge_f (n := sN s) (by rw [sN_givN]) hk (by have := hI.n; omega) c9
        refine v_aload_n (pc := 12) 0 g dX5_catches_12 rfl rfl ?_
        refine v_iload_n (pc := 13) 2 g dX5_catches_13 rfl rfl ?_
        refine v_iconst (pc := 14) (v := 1) g dX5_catches_14 (by decide) ?_
        refine v_cVd (pc := 15) g dX5_catches_15 lk_X5_53 (c_it_At (givN s i k) k (by have := hI.n; omega)) (Nat.le_of_ble_eq_true rfl) rfl rfl rfl rfl (Nat.le_of_ble_eq_true rfl) ?_
        refine v_aload_n (pc := 18) 0 g dX5_catches_18 rfl rfl ?_
        refine v_iload_n (pc := 19) 1 g dX5_catches_19 rfl rfl ?_
        refine v_iconst (pc := 20) (v := 1) g dX5_catches_20 (by decide) ?_
        refine v_cVd (pc := 21) g dX5_catches_21 lk_X5_53 (c_it_At (givN s i k) i hi) (Nat.le_of_ble_eq_true rfl) rfl rfl rfl rfl (Nat.le_of_ble_eq_true rfl) ?_
        refine v_isub (pc := 24) g dX5_catches_24 ?_
        refine v_istore_n (pc := 25) 3 _ g dX5_catches_25 rfl (Nat.le_of_ble_eq_true rfl) hnL.symm rfl ?_
        refine v_iload_n (pc := 26) 2 g dX5_catches_26 rfl rfl ?_
        refine v_iload_n (pc := 27) 1 g dX5_catches_27 rfl rfl ?_
        refine v_icmp_eq (pc := 28) 71 g dX5_catches_28 rfl (fun c28 => ?_) (fun c28 => ?_)
        · refine v_iincN (pc := 71) g dX5_catches_71 rfl hnL.symm ?_
          refine v_goto (pc := 74) 2 g dX5_catches_74 rfl ?_
          refine v_fg [true, true, true, false] ?_
          refine v_w (mW (rowOf (givN s i (k + 1))) fo of tr b1 ta tm so be te wo va gd bi si sh le im bf kp) (by first | (rw [givN, giv1_t ⟨fun z => c28 (by rw [z]), fun z => c47 (by rw [i_eq]; exact z), (far_in ((hI.givN i k).at k) ((hI.givN i k).at i)).mp c37⟩]) | (rw [givN, giv1_f (fun z => z.2.1 (by rw [c47]; rfl))]) | (rw [givN, giv1_f (fun z => c37 ((far_in ((hI.givN i k).at k) ((hI.givN i k).at i)).mpr z.2.2))]) | (rw [givN, giv1_f (fun z => z.1 ((nI_eq (by have := hI.n; omega) (by omega)).mp c28))])) ?_
          exact ih (k + 1) (by omega) (by omega)
        · refine v_iload_n (pc := 31) 3 g dX5_catches_31 rfl rfl ?_
          refine v_iconst (pc := 32) (v := (-1)) g dX5_catches_32 (by decide) ?_
          refine v_iconst (pc := 33) (v := 1) g dX5_catches_33 (by decide) ?_
          refine v_cSd (pc := 34) g dX5_catches_34 lk_X5_45 ((c_X5_in _ _ _ (-1) 1 rfl rfl).any rfl rfl _) (Nat.le_of_ble_eq_true rfl) rfl rfl (Nat.le_of_ble_eq_true rfl) ?_
          refine v_ifb_eq (pc := 37) 71 g dX5_catches_37 rfl (fun c37 => ?_) (fun c37 => ?_)
          · refine v_iincN (pc := 71) g dX5_catches_71 rfl hnL.symm ?_
            refine v_goto (pc := 74) 2 g dX5_catches_74 rfl ?_
            refine v_fg [true, true, true, false] ?_
            refine v_w (mW (rowOf (givN s i (k + 1))) fo of tr b1 ta tm so be te wo va gd bi si sh le im bf kp) (by first | (rw [givN, giv1_t ⟨fun z => c28 (by rw [z]), fun z => c47 (by rw [i_eq]; exact z), (far_in ((hI.givN i k).at k) ((hI.givN i k).at i)).mp c37⟩]) | (rw [givN, giv1_f (fun z => z.2.1 (by rw [c47]; rfl))]) | (rw [givN, giv1_f (fun z => c37 ((far_in ((hI.givN i k).at k) ((hI.givN i k).at i)).mpr z.2.2))]) | (rw [givN, giv1_f (fun z => z.1 ((nI_eq (by have := hI.n; omega) (by omega)).mp c28))])) ?_
            exact ih (k + 1) (by omega) (by omega)
          · refine v_aload_n (pc := 40) 0 g dX5_catches_40 rfl rfl ?_
            refine v_iload_n (pc := 41) 2 g dX5_catches_41 rfl rfl ?_
            refine v_iconst (pc := 42) (v := 0) g dX5_catches_42 (by decide) ?_
            refine v_cVd (pc := 43) g dX5_catches_43 lk_X5_53 (c_it_Ki (givN s i k) k (by have := hI.n; omega)) (Nat.le_of_ble_eq_true rfl) rfl rfl rfl rfl (Nat.le_of_ble_eq_true rfl) ?_
            refine v_iconst (pc := 46) (v := 3) g dX5_catches_46 (by decide) ?_
            refine v_icmp_eq (pc := 47) 71 g dX5_catches_47 rfl (fun c47 => ?_) (fun c47 => ?_)
            · refine v_iincN (pc := 71) g dX5_catches_71 rfl hnL.symm ?_
              refine v_goto (pc := 74) 2 g dX5_catches_74 rfl ?_
              refine v_fg [true, true, true, false] ?_
              refine v_w (mW (rowOf (givN s i (k + 1))) fo of tr b1 ta tm so be te wo va gd bi si sh le im bf kp) (by first | (rw [givN, giv1_t ⟨fun z => c28 (by rw [z]), fun z => c47 (by rw [i_eq]; exact z), (far_in ((hI.givN i k).at k) ((hI.givN i k).at i)).mp c37⟩]) | (rw [givN, giv1_f (fun z => z.2.1 (by rw [c47]; rfl))]) | (rw [givN, giv1_f (fun z => c37 ((far_in ((hI.givN i k).at k) ((hI.givN i k).at i)).mpr z.2.2))]) | (rw [givN, giv1_f (fun z => z.1 ((nI_eq (by have := hI.n; omega) (by omega)).mp c28))])) ?_
              exact ih (k + 1) (by omega) (by omega)
            · refine v_aload_n (pc := 50) 0 g dX5_catches_50 rfl rfl ?_
              refine v_iload_n (pc := 51) 2 g dX5_catches_51 rfl rfl ?_
              refine v_iconst (pc := 52) (v := 3) g dX5_catches_52 (by decide) ?_
              refine v_aload_n (pc := 53) 0 g dX5_catches_53 rfl rfl ?_
              refine v_iload_n (pc := 54) 2 g dX5_catches_54 rfl rfl ?_
              refine v_iconst (pc := 55) (v := 3) g dX5_catches_55 (by decide) ?_
              refine v_cVd (pc := 56) g dX5_catches_56 lk_X5_53 (c_it_Co (givN s i k) k (by have := hI.n; omega)) (Nat.le_of_ble_eq_true rfl) rfl rfl rfl rfl (Nat.le_of_ble_eq_true rfl) ?_
              refine v_bipush (pc := 59) (v := 6) g dX5_catches_59 (by decide) ?_
              refine v_iadd (pc := 61) g dX5_catches_61 ?_
              refine v_iconst (pc := 62) (v := 0) g dX5_catches_62 (by decide) ?_
              refine v_bipush (pc := 63) (v := 99) g dX5_catches_63 (by decide) ?_
              refine v_cSd (pc := 65) g dX5_catches_65 lk_X5_56 ((c_X5_held _ _ _).any rfl rfl _) (Nat.le_of_ble_eq_true rfl) rfl rfl (Nat.le_of_ble_eq_true rfl) ?_
              rw [held_co (hI.givN i k) k]
              refine v_cVd (pc := 68) g dX5_catches_68 lk_X5_99 (c_pu_Co (givN s i k) k _ (by have := hI.n; omega)) (Nat.le_of_ble_eq_true rfl) rfl rfl rfl rfl (Nat.le_of_ble_eq_true rfl) ?_
              refine v_iincN (pc := 71) g dX5_catches_71 rfl hnL.symm ?_
              refine v_goto (pc := 74) 2 g dX5_catches_74 rfl ?_
              refine v_fg [true, true, true, false] ?_
              refine v_w (mW (rowOf (givN s i (k + 1))) fo of tr b1 ta tm so be te wo va gd bi si sh le im bf kp) (by first | (rw [givN, giv1_t ⟨fun z => c28 (by rw [z]), fun z => c47 (by rw [i_eq]; exact z), (far_in ((hI.givN i k).at k) ((hI.givN i k).at i)).mp c37⟩]) | (rw [givN, giv1_f (fun z => z.2.1 (by rw [c47]; rfl))]) | (rw [givN, giv1_f (fun z => c37 ((far_in ((hI.givN i k).at k) ((hI.givN i k).at i)).mpr z.2.2))]) | (rw [givN, giv1_f (fun z => z.1 ((nI_eq (by have := hI.n; omega) (by omega)).mp c28))])) ?_
              exact ih (k + 1) (by omega) (by omega)
  exact L2 (sN s + 1) 0 (Nat.zero_le _) (by omega)
set_option maxRecDepth 20000 in
set_option maxHeartbeats 2000000 in
theorem c_X5_goesOff (s : St) {fo : Nat → Int32} {of : Int32} {tr : Nat → Int32} {b1 : Nat → Int32} {ta : Nat → Int32} {tm : Nat} {so : Int32} {be : Int32} {te : Int32} {wo : Int64} {va : Int32} {gd : Int32} {bi : Nat → Int32} {si : Nat → Int32} {sh : Nat → Int64} {le : Nat → Int64} {im : Nat → Int32} {bf : Nat → Int32} {kp : Int32} (i : Nat) (hI : Inv s) (hi : i < 8) : RunD 3 yX5_goesOff cX5_goesOff 2 none [.ref 0, .int (nI i)] (mW (rowOf s) fo of tr b1 ta tm so be te wo va gd bi si sh le im bf kp) (none) (mW (rowOf (goesOff s i)) fo of tr b1 ta tm so be te wo va gd bi si sh le im bf kp) := by
  refine Runs.of (by decide) (Nat.le_of_ble_eq_true rfl) rfl ?_
  intro X g hret hnL
  refine v_aload_n (pc := 0) 0 g dX5_goesOff_0 rfl rfl ?_
  refine v_iload_n (pc := 1) 1 g dX5_goesOff_1 rfl rfl ?_
  refine v_iconst (pc := 2) (v := 4) g dX5_goesOff_2 (by decide) ?_
  refine v_iconst (pc := 3) (v := 0) g dX5_goesOff_3 (by decide) ?_
  refine v_cVd (pc := 4) g dX5_goesOff_4 lk_X5_99 (c_pu_Ti s i 0 hi) (Nat.le_of_ble_eq_true rfl) rfl rfl rfl rfl (Nat.le_of_ble_eq_true rfl) ?_
  refine v_aload_n (pc := 7) 0 g dX5_goesOff_7 rfl rfl ?_
  refine v_iload_n (pc := 8) 1 g dX5_goesOff_8 rfl rfl ?_
  refine v_iconst (pc := 9) (v := 5) g dX5_goesOff_9 (by decide) ?_
  refine v_aload_n (pc := 10) 0 g dX5_goesOff_10 rfl rfl ?_
  refine v_iload_n (pc := 11) 1 g dX5_goesOff_11 rfl rfl ?_
  refine v_iconst (pc := 12) (v := 5) g dX5_goesOff_12 (by decide) ?_
  refine v_cVd (pc := 13) g dX5_goesOff_13 lk_X5_53 (c_it_Go _ i hi) (Nat.le_of_ble_eq_true rfl) rfl rfl rfl rfl (Nat.le_of_ble_eq_true rfl) ?_
  refine v_iconst (pc := 16) (v := 1) g dX5_goesOff_16 (by decide) ?_
  refine v_iadd (pc := 17) g dX5_goesOff_17 ?_
  refine v_iconst (pc := 18) (v := 0) g dX5_goesOff_18 (by decide) ?_
  refine v_sipush (pc := 19) (v := 9999) g dX5_goesOff_19 (by decide) ?_
  refine v_cSd (pc := 22) g dX5_goesOff_22 lk_X5_56 ((c_X5_held _ _ _).any rfl rfl _) (Nat.le_of_ble_eq_true rfl) rfl rfl (Nat.le_of_ble_eq_true rfl) ?_
  rw [held_go (hI.pTi (updR hI.ti (by show inR 0 0 99; decide))) i]
  refine v_cVd (pc := 25) g dX5_goesOff_25 lk_X5_99 (c_pu_Go _ i _ hi) (Nat.le_of_ble_eq_true rfl) rfl rfl rfl rfl (Nat.le_of_ble_eq_true rfl) ?_
  refine v_w (mW (rowOf (off1 s i)) fo of tr b1 ta tm so be te wo va gd bi si sh le im bf kp) rfl ?_
  refine v_aload_n (pc := 28) 0 g dX5_goesOff_28 rfl rfl ?_
  refine v_iload_n (pc := 29) 1 g dX5_goesOff_29 rfl rfl ?_
  refine v_cVd (pc := 30) g dX5_goesOff_30 lk_X5_131 (c_X5_lights (off1 s i) i (hI.off1 i) hi) (Nat.le_of_ble_eq_true rfl) rfl rfl rfl rfl (Nat.le_of_ble_eq_true rfl) ?_
  refine v_aload_n (pc := 33) 0 g dX5_goesOff_33 rfl rfl ?_
  refine v_iload_n (pc := 34) 1 g dX5_goesOff_34 rfl rfl ?_
  refine v_cVd (pc := 35) g dX5_goesOff_35 lk_X5_135 (c_X5_catches (lights (off1 s i) i) i ((hI.off1 i).lights i) hi) (Nat.le_of_ble_eq_true rfl) rfl rfl rfl rfl (Nat.le_of_ble_eq_true rfl) ?_
  exact v_vret (pc := 38) g hret dX5_goesOff_38 (⟨rfl, by rw [goesOff, sN_lights]; rfl⟩)
set_option maxRecDepth 20000 in
set_option maxHeartbeats 2000000 in
theorem c_X5_oneMinute (s : St) {fo : Nat → Int32} {of : Int32} {tr : Nat → Int32} {b1 : Nat → Int32} {ta : Nat → Int32} {tm : Nat} {so : Int32} {be : Int32} {te : Int32} {wo : Int64} {va : Int32} {gd : Int32} {bi : Nat → Int32} {si : Nat → Int32} {sh : Nat → Int64} {le : Nat → Int64} {im : Nat → Int32} {bf : Nat → Int32} {kp : Int32} (hI : Inv s) : RunD 5 yX5_oneMinute cX5_oneMinute 3 none [.ref 0] (mW (rowOf s) fo of tr b1 ta tm so be te wo va gd bi si sh le im bf kp) (none) (mW (rowOf (minute s)) fo (mdue s) tr b1 ta tm so be te wo va gd bi si sh le im bf kp) := by
  refine Runs.of (by decide) (Nat.le_of_ble_eq_true rfl) rfl ?_
  intro X g hret hnL
  refine v_iconst (pc := 0) (v := 0) g dX5_oneMinute_0 (by decide) ?_
  refine v_istore_n (pc := 1) 1 _ g dX5_oneMinute_1 rfl (Nat.le_of_ble_eq_true rfl) hnL.symm rfl ?_
  refine v_fg [true, true, false] ?_
  have L2 : ∀ (fu : Nat) (k : Nat), k ≤ 12 → 12 - k < fu → V X 2 [some (.ref 0), some (.int (nI k)), none] [] (mW (rowOf (burnN s k)) fo of tr b1 ta tm so be te wo va gd bi si sh le im bf kp) := by
    intro fu
    induction fu with
    | zero => intro k hk hm; exact absurd hm (Nat.not_lt_zero _)
    | succ fu ih =>
      intro k hk hm
      refine v_iload_n (pc := 2) 1 g dX5_oneMinute_2 rfl rfl ?_
      refine v_bipush (pc := 3) (v := 12) g dX5_oneMinute_3 (by decide) ?_
      refine v_icmp_ge (pc := 5) 19 g dX5_oneMinute_5 rfl (fun c5 => ?_) (fun c5 => ?_)
      · have e5 : k = 12 := ge_t (n := 12) rfl hk (by omega) c5
        subst e5
        refine v_iconst (pc := 19) (v := 0) g dX5_oneMinute_19 (by decide) ?_
        refine v_istore_n (pc := 20) 1 _ g dX5_oneMinute_20 rfl (Nat.le_of_ble_eq_true rfl) hnL.symm rfl ?_
        refine v_fg [true, true, false] ?_
        have L21 : ∀ (fu : Nat) (k : Nat), k ≤ sN s → sN s - k < fu → V X 21 [some (.ref 0), some (.int (nI k)), none] [] (mW (rowOf (tickN (burnN s 12) k)) fo of tr b1 ta tm so be te wo va gd bi si sh le im bf kp) := by
          intro fu
          induction fu with
          | zero => intro k hk hm; exact absurd hm (Nat.not_lt_zero _)
          | succ fu ih =>
            intro k hk hm
            refine v_iload_n (pc := 21) 1 g dX5_oneMinute_21 rfl rfl ?_
            refine v_aload_n (pc := 22) 0 g dX5_oneMinute_22 rfl rfl ?_
            refine v_get (pc := 23) g dX5_oneMinute_23 fl_X5_7 rfl rfl ?_
            refine v_iconst (pc := 26) (v := 2) g dX5_oneMinute_26 (by decide) ?_
            refine v_ialdN (pc := 27) _ g dX5_oneMinute_27 rfl rfl (Nat.le_of_ble_eq_true rfl) (Nat.le_of_ble_eq_true rfl) ?_
            rw [row_N]
            refine v_icmp_ge (pc := 28) 61 g dX5_oneMinute_28 rfl (fun c28 => ?_) (fun c28 => ?_)
            · have e28 : k = sN s := ge_t (n := sN s) (by rw [sN_tickN, sN_burnN]) hk (by have := hI.n; omega) c28
              subst e28
              refine v_w (mW (rowOf (ticked s)) fo of tr b1 ta tm so be te wo va gd bi si sh le im bf kp) rfl ?_
              refine v_aload_n (pc := 61) 0 g dX5_oneMinute_61 rfl rfl ?_
              refine v_cVd (pc := 62) g dX5_oneMinute_62 lk_X5_90 (c_X5_dueSet (ticked s) hI.ticked) (Nat.le_of_ble_eq_true rfl) rfl rfl rfl rfl (Nat.le_of_ble_eq_true rfl) ?_
              refine v_istore_n (pc := 65) 1 _ g dX5_oneMinute_65 rfl (Nat.le_of_ble_eq_true rfl) hnL.symm rfl ?_
              refine v_aload_n (pc := 66) 0 g dX5_oneMinute_66 rfl rfl ?_
              refine v_iload_n (pc := 67) 1 g dX5_oneMinute_67 rfl rfl ?_
              refine v_put (pc := 68) _ g dX5_oneMinute_68 fp_X5_141 rfl (Nat.le_of_ble_eq_true rfl) rfl rfl rfl rfl ?_
              refine v_w (mW (rowOf (ticked s)) fo (mdue s) tr b1 ta tm so be te wo va gd bi si sh le im bf kp) rfl ?_
              refine v_iconst (pc := 71) (v := 0) g dX5_oneMinute_71 (by decide) ?_
              refine v_istore_n (pc := 72) 2 _ g dX5_oneMinute_72 rfl (Nat.le_of_ble_eq_true rfl) hnL.symm rfl ?_
              have L73 : ∀ (fu : Nat) (k : Nat), k ≤ sN s → sN s - k < fu → V X 73 [some (.ref 0), some (.int (mdue s)), some (.int (nI k))] [] (mW (rowOf (offN (ticked s) (mdue s) k)) fo (mdue s) tr b1 ta tm so be te wo va gd bi si sh le im bf kp) := by
                intro fu
                induction fu with
                | zero => intro k hk hm; exact absurd hm (Nat.not_lt_zero _)
                | succ fu ih =>
                  intro k hk hm
                  refine v_iload_n (pc := 73) 2 g dX5_oneMinute_73 rfl rfl ?_
                  refine v_aload_n (pc := 74) 0 g dX5_oneMinute_74 rfl rfl ?_
                  refine v_get (pc := 75) g dX5_oneMinute_75 fl_X5_7 rfl rfl ?_
                  refine v_iconst (pc := 78) (v := 2) g dX5_oneMinute_78 (by decide) ?_
                  refine v_ialdN (pc := 79) _ g dX5_oneMinute_79 rfl rfl (Nat.le_of_ble_eq_true rfl) (Nat.le_of_ble_eq_true rfl) ?_
                  rw [row_N]
                  refine v_icmp_ge (pc := 80) 103 g dX5_oneMinute_80 rfl (fun c80 => ?_) (fun c80 => ?_)
                  · have e80 : k = sN s := ge_t (n := sN s) (by rw [sN_offN, sN_ticked]) hk (by have := hI.n; omega) c80
                    subst e80
                    refine v_iconst (pc := 103) (v := 0) g dX5_oneMinute_103 (by decide) ?_
                    refine v_istore_n (pc := 104) 2 _ g dX5_oneMinute_104 rfl (Nat.le_of_ble_eq_true rfl) hnL.symm rfl ?_
                    refine v_fg [true, false, true] ?_
                    have L105 : ∀ (fu : Nat) (k : Nat), k ≤ sN s → sN s - k < fu → V X 105 [some (.ref 0), none, some (.int (nI k))] [] (mW (rowOf (healN (offN (ticked s) (mdue s) (sN s)) k)) fo (mdue s) tr b1 ta tm so be te wo va gd bi si sh le im bf kp) := by
                      intro fu
                      induction fu with
                      | zero => intro k hk hm; exact absurd hm (Nat.not_lt_zero _)
                      | succ fu ih =>
                        intro k hk hm
                        refine v_iload_n (pc := 105) 2 g dX5_oneMinute_105 rfl rfl ?_
                        refine v_aload_n (pc := 106) 0 g dX5_oneMinute_106 rfl rfl ?_
                        refine v_get (pc := 107) g dX5_oneMinute_107 fl_X5_7 rfl rfl ?_
                        refine v_iconst (pc := 110) (v := 2) g dX5_oneMinute_110 (by decide) ?_
                        refine v_ialdN (pc := 111) _ g dX5_oneMinute_111 rfl rfl (Nat.le_of_ble_eq_true rfl) (Nat.le_of_ble_eq_true rfl) ?_
                        rw [row_N]
                        refine v_icmp_ge (pc := 112) 145 g dX5_oneMinute_112 rfl (fun c112 => ?_) (fun c112 => ?_)
                        · have e112 : k = sN s := ge_t (n := sN s) (by rw [sN_healN, sN_offN, sN_ticked]) hk (by have := hI.n; omega) c112
                          subst e112
                          refine v_aload_n (pc := 145) 0 g dX5_oneMinute_145 rfl rfl ?_
                          refine v_get (pc := 146) g dX5_oneMinute_146 fl_X5_7 rfl rfl ?_
                          refine v_iconst (pc := 149) (v := 0) g dX5_oneMinute_149 (by decide) ?_
                          refine v_dup2 (pc := 150) g dX5_oneMinute_150 rfl rfl ?_
                          refine v_ialdN (pc := 151) _ g dX5_oneMinute_151 rfl rfl (Nat.le_of_ble_eq_true rfl) (Nat.le_of_ble_eq_true rfl) ?_
                          rw [row_Mi]
                          refine v_iconst (pc := 152) (v := 1) g dX5_oneMinute_152 (by decide) ?_
                          refine v_iadd (pc := 153) g dX5_oneMinute_153 ?_
                          refine v_iastN (pc := 154) _ _ g dX5_oneMinute_154 rfl rfl (Nat.le_of_ble_eq_true rfl) (Nat.le_of_ble_eq_true rfl) rfl ?_
                          refine v_w (mW (rowOf (minute s)) fo (mdue s) tr b1 ta tm so be te wo va gd bi si sh le im bf kp) (congrArg (fun z => mW z fo (mdue s) tr b1 ta tm so be te wo va gd bi si sh le im bf kp) (rup_Mi _ _)) ?_
                          exact v_vret (pc := 155) g hret dX5_oneMinute_155 (⟨rfl, rfl⟩)
                        · have e112 : k < sN s := ge_f (n := sN s) (by rw [sN_healN, sN_offN, sN_ticked]) hk (by have := hI.n; omega) c112
                          refine v_aload_n (pc := 115) 0 g dX5_oneMinute_115 rfl rfl ?_
                          refine v_iload_n (pc := 116) 2 g dX5_oneMinute_116 rfl rfl ?_
                          refine v_iconst (pc := 117) (v := 3) g dX5_oneMinute_117 (by decide) ?_
                          refine v_aload_n (pc := 118) 0 g dX5_oneMinute_118 rfl rfl ?_
                          refine v_iload_n (pc := 119) 2 g dX5_oneMinute_119 rfl rfl ?_
                          refine v_iconst (pc := 120) (v := 3) g dX5_oneMinute_120 (by decide) ?_
                          refine v_cVd (pc := 121) g dX5_oneMinute_121 lk_X5_53 (c_it_Co (healN (offN (ticked s) (mdue s) (sN s)) k) k (by have := hI.n; omega)) (Nat.le_of_ble_eq_true rfl) rfl rfl rfl rfl (Nat.le_of_ble_eq_true rfl) ?_
                          refine v_aload_n (pc := 124) 0 g dX5_oneMinute_124 rfl rfl ?_
                          refine v_iload_n (pc := 125) 2 g dX5_oneMinute_125 rfl rfl ?_
                          refine v_cVd (pc := 126) g dX5_oneMinute_126 lk_X5_120 (c_X5_heals (healN (offN (ticked s) (mdue s) (sN s)) k) k (by have := hI.n; omega)) (Nat.le_of_ble_eq_true rfl) rfl rfl rfl rfl (Nat.le_of_ble_eq_true rfl) ?_
                          refine v_isub (pc := 129) g dX5_oneMinute_129 ?_
                          refine v_iconst (pc := 130) (v := 0) g dX5_oneMinute_130 (by decide) ?_
                          refine v_bipush (pc := 131) (v := 99) g dX5_oneMinute_131 (by decide) ?_
                          refine v_cSd (pc := 133) g dX5_oneMinute_133 lk_X5_56 ((c_X5_held _ _ _).any rfl rfl _) (Nat.le_of_ble_eq_true rfl) rfl rfl (Nat.le_of_ble_eq_true rfl) ?_
                          rw [held_he ((hI.ticked.offN _ _).healN k) k]
                          refine v_cVd (pc := 136) g dX5_oneMinute_136 lk_X5_99 (c_pu_Co (healN (offN (ticked s) (mdue s) (sN s)) k) k _ (by have := hI.n; omega)) (Nat.le_of_ble_eq_true rfl) rfl rfl rfl rfl (Nat.le_of_ble_eq_true rfl) ?_
                          refine v_iincN (pc := 139) g dX5_oneMinute_139 rfl hnL.symm ?_
                          refine v_goto (pc := 142) 105 g dX5_oneMinute_142 rfl ?_
                          refine v_fg [true, false, true] ?_
                          exact ih (k + 1) (by omega) (by omega)
                    exact L105 (sN s + 1) 0 (Nat.zero_le _) (by omega)
                  · have e80 : k < sN s := ge_f (n := sN s) (by rw [sN_offN, sN_ticked]) hk (by have := hI.n; omega) c80
                    refine v_iload_n (pc := 83) 1 g dX5_oneMinute_83 rfl rfl ?_
                    refine v_iload_n (pc := 84) 2 g dX5_oneMinute_84 rfl rfl ?_
                    refine v_ishr (pc := 85) g dX5_oneMinute_85 ?_
                    refine v_iconst (pc := 86) (v := 1) g dX5_oneMinute_86 (by decide) ?_
                    refine v_iand (pc := 87) g dX5_oneMinute_87 ?_
                    refine v_iconst (pc := 88) (v := 1) g dX5_oneMinute_88 (by decide) ?_
                    refine v_icmp_ne (pc := 89) 97 g dX5_oneMinute_89 rfl (fun c89 => ?_) (fun c89 => ?_)
                    · refine v_iincN (pc := 97) g dX5_oneMinute_97 rfl hnL.symm ?_
                      refine v_goto (pc := 100) 73 g dX5_oneMinute_100 rfl ?_
                      refine v_w (mW (rowOf (offN (ticked s) (mdue s) (k + 1))) fo (mdue s) tr b1 ta tm so be te wo va gd bi si sh le im bf kp) (by first | (rw [offN, if_pos c89]) | (rw [offN, if_neg c89])) ?_
                      exact ih (k + 1) (by omega) (by omega)
                    · refine v_aload_n (pc := 92) 0 g dX5_oneMinute_92 rfl rfl ?_
                      refine v_iload_n (pc := 93) 2 g dX5_oneMinute_93 rfl rfl ?_
                      refine v_cVd (pc := 94) g dX5_oneMinute_94 lk_X5_145 (c_X5_goesOff (offN (ticked s) (mdue s) k) k (hI.ticked.offN _ _) (by have := hI.n; omega)) (Nat.le_of_ble_eq_true rfl) rfl rfl rfl rfl (Nat.le_of_ble_eq_true rfl) ?_
                      refine v_iincN (pc := 97) g dX5_oneMinute_97 rfl hnL.symm ?_
                      refine v_goto (pc := 100) 73 g dX5_oneMinute_100 rfl ?_
                      refine v_w (mW (rowOf (offN (ticked s) (mdue s) (k + 1))) fo (mdue s) tr b1 ta tm so be te wo va gd bi si sh le im bf kp) (by first | (rw [offN, if_pos c89]) | (rw [offN, if_neg c89])) ?_
                      exact ih (k + 1) (by omega) (by omega)
              exact L73 (sN s + 1) 0 (Nat.zero_le _) (by omega)
            · have e28 : k < sN s := ge_f (n := sN s) (by rw [sN_tickN, sN_burnN]) hk (by have := hI.n; omega) c28
              refine v_aload_n (pc := 31) 0 g dX5_oneMinute_31 rfl rfl ?_
              refine v_iload_n (pc := 32) 1 g dX5_oneMinute_32 rfl rfl ?_
              refine v_iconst (pc := 33) (v := 4) g dX5_oneMinute_33 (by decide) ?_
              refine v_aload_n (pc := 34) 0 g dX5_oneMinute_34 rfl rfl ?_
              refine v_iload_n (pc := 35) 1 g dX5_oneMinute_35 rfl rfl ?_
              refine v_iconst (pc := 36) (v := 4) g dX5_oneMinute_36 (by decide) ?_
              refine v_cVd (pc := 37) g dX5_oneMinute_37 lk_X5_53 (c_it_Ti (tickN (burnN s 12) k) k (by have := hI.n; omega)) (Nat.le_of_ble_eq_true rfl) rfl rfl rfl rfl (Nat.le_of_ble_eq_true rfl) ?_
              refine v_aload_n (pc := 40) 0 g dX5_oneMinute_40 rfl rfl ?_
              refine v_iload_n (pc := 41) 1 g dX5_oneMinute_41 rfl rfl ?_
              refine v_cVd (pc := 42) g dX5_oneMinute_42 lk_X5_114 (c_X5_tickles (tickN (burnN s 12) k) k ((hI.burnN 12).tickN k) (by have := hI.n; omega)) (Nat.le_of_ble_eq_true rfl) rfl rfl rfl rfl (Nat.le_of_ble_eq_true rfl) ?_
              refine v_iadd (pc := 45) g dX5_oneMinute_45 ?_
              refine v_iconst (pc := 46) (v := 0) g dX5_oneMinute_46 (by decide) ?_
              refine v_bipush (pc := 47) (v := 99) g dX5_oneMinute_47 (by decide) ?_
              refine v_cSd (pc := 49) g dX5_oneMinute_49 lk_X5_56 ((c_X5_held _ _ _).any rfl rfl _) (Nat.le_of_ble_eq_true rfl) rfl rfl (Nat.le_of_ble_eq_true rfl) ?_
              rw [held_ti ((hI.burnN 12).tickN k) k]
              refine v_cVd (pc := 52) g dX5_oneMinute_52 lk_X5_99 (c_pu_Ti (tickN (burnN s 12) k) k _ (by have := hI.n; omega)) (Nat.le_of_ble_eq_true rfl) rfl rfl rfl rfl (Nat.le_of_ble_eq_true rfl) ?_
              refine v_iincN (pc := 55) g dX5_oneMinute_55 rfl hnL.symm ?_
              refine v_goto (pc := 58) 21 g dX5_oneMinute_58 rfl ?_
              refine v_fg [true, true, false] ?_
              exact ih (k + 1) (by omega) (by omega)
        exact L21 (sN s + 1) 0 (Nat.zero_le _) (by omega)
      · have e5 : k < 12 := ge_f (n := 12) rfl hk (by omega) c5
        refine v_aload_n (pc := 8) 0 g dX5_oneMinute_8 rfl rfl ?_
        refine v_iload_n (pc := 9) 1 g dX5_oneMinute_9 rfl rfl ?_
        refine v_cVd (pc := 10) g dX5_oneMinute_10 lk_X5_138 (c_X5_burns (burnN s k) k (hI.burnN k) (by omega)) (Nat.le_of_ble_eq_true rfl) rfl rfl rfl rfl (Nat.le_of_ble_eq_true rfl) ?_
        refine v_iincN (pc := 13) g dX5_oneMinute_13 rfl hnL.symm ?_
        refine v_goto (pc := 16) 2 g dX5_oneMinute_16 rfl ?_
        refine v_fg [true, true, false] ?_
        exact ih (k + 1) (by omega) (by omega)
  exact L2 (12 + 1) 0 (Nat.zero_le _) (by omega)
set_option maxRecDepth 20000 in
set_option maxHeartbeats 2000000 in
theorem c_X5_passes (s : St) {fo : Nat → Int32} {of : Int32} {tr : Nat → Int32} {b1 : Nat → Int32} {ta : Nat → Int32} {tm : Nat} {so : Int32} {be : Int32} {te : Int32} {wo : Int64} {va : Int32} {gd : Int32} {bi : Nat → Int32} {si : Nat → Int32} {sh : Nat → Int64} {le : Nat → Int64} {im : Nat → Int32} {bf : Nat → Int32} {kp : Int32} (m : Nat) (hI : Inv s) (hm : m < 1000) : RunD 6 yX5_passes cX5_passes 3 none [.ref 0, .int (nI m)] (mW (rowOf s) fo of tr b1 ta tm so be te wo va gd bi si sh le im bf kp) (none) (mW (rowOf (minN s m)) fo (weN s of m) tr b1 ta tm so be te wo va gd bi si sh le im bf kp) := by
  refine Runs.of (by decide) (Nat.le_of_ble_eq_true rfl) rfl ?_
  intro X g hret hnL
  refine v_iconst (pc := 0) (v := 0) g dX5_passes_0 (by decide) ?_
  refine v_istore_n (pc := 1) 2 _ g dX5_passes_1 rfl (Nat.le_of_ble_eq_true rfl) hnL.symm rfl ?_
  have L2 : ∀ (fu : Nat) (k : Nat), k ≤ m → m - k < fu → V X 2 [some (.ref 0), some (.int (nI m)), some (.int (nI k))] [] (mW (rowOf (minN s k)) fo (weN s of k) tr b1 ta tm so be te wo va gd bi si sh le im bf kp) := by
    intro fu
    induction fu with
    | zero => intro k hk hm; exact absurd hm (Nat.not_lt_zero _)
    | succ fu ih =>
      intro k hk hm
      refine v_iload_n (pc := 2) 2 g dX5_passes_2 rfl rfl ?_
      refine v_iload_n (pc := 3) 1 g dX5_passes_3 rfl rfl ?_
      refine v_icmp_ge (pc := 4) 17 g dX5_passes_4 rfl (fun c4 => ?_) (fun c4 => ?_)
      · have e4 : k = m := ge_t (n := m) rfl hk (by omega) c4
        subst e4
        exact v_vret (pc := 17) g hret dX5_passes_17 (⟨rfl, rfl⟩)
      · have e4 : k < m := ge_f (n := m) rfl hk (by omega) c4
        refine v_aload_n (pc := 7) 0 g dX5_passes_7 rfl rfl ?_
        refine v_cVd (pc := 8) g dX5_passes_8 lk_X5_148 (c_X5_oneMinute (minN s k) (hI.minN k)) (Nat.le_of_ble_eq_true rfl) rfl rfl rfl rfl (Nat.le_of_ble_eq_true rfl) ?_
        refine v_iincN (pc := 11) g dX5_passes_11 rfl hnL.symm ?_
        refine v_goto (pc := 14) 2 g dX5_passes_14 rfl ?_
        exact ih (k + 1) (by omega) (by omega)
  exact L2 (m + 1) 0 (Nat.zero_le _) (by omega)
set_option maxRecDepth 20000 in
set_option maxHeartbeats 2000000 in
theorem c_mvK_tr (r : Nat → Int32) {fo : Nat → Int32} {of : Int32} {tr : Nat → Int32} {b1 : Nat → Int32} {ta : Nat → Int32} {tm : Nat} {so : Int32} {be : Int32} {te : Int32} {wo : Int64} {va : Int32} {gd : Int32} {bi : Nat → Int32} {si : Nat → Int32} {sh : Nat → Int64} {le : Nat → Int64} {im : Nat → Int32} {bf : Nat → Int32} {kp : Int32} : RunD 0 yX5_moveAll cX5_moveAll 4 none [.ref 0, .int 1, .ref 3] (mW r fo of tr b1 ta tm so be te wo va gd bi si sh le im bf kp) (none) (mW r fo of r b1 ta tm so be te wo va gd bi si sh le im bf kp) := by
  refine Runs.of (by decide) (Nat.le_of_ble_eq_true rfl) rfl ?_
  intro X g hret hnL
  refine v_iconst (pc := 0) (v := 0) g dX5_moveAll_0 (by decide) ?_
  refine v_istore_n (pc := 1) 3 _ g dX5_moveAll_1 rfl (Nat.le_of_ble_eq_true rfl) hnL.symm rfl ?_
  have L2 : ∀ (fu : Nat) (k : Nat), k ≤ 87 → 87 - k < fu → V X 2 [some (.ref 0), some (.int 1), some (.ref 3), some (.int (nI k))] [] (mW r fo of (fil r tr k) b1 ta tm so be te wo va gd bi si sh le im bf kp) := by
    intro fu
    induction fu with
    | zero => intro k hk hm; exact absurd hm (Nat.not_lt_zero _)
    | succ fu ih =>
      intro k hk hm
      refine v_iload_n (pc := 2) 3 g dX5_moveAll_2 rfl rfl ?_
      refine v_bipush (pc := 3) (v := 87) g dX5_moveAll_3 (by decide) ?_
      refine v_icmp_ge (pc := 5) 39 g dX5_moveAll_5 rfl (fun c5 => ?_) (fun c5 => ?_)
      · have e5 : k = 87 := ge_t (n := 87) rfl hk (by omega) c5
        subst e5
        refine v_eqc 3 (.inl (87, .inl r)) (mW r fo of r b1 ta tm so be te wo va gd bi si sh le im bf kp) rfl ⟨rfl, fun j hj => if_pos hj⟩ rfl ?_
        exact v_vret (pc := 39) g hret dX5_moveAll_39 (⟨rfl, rfl⟩)
      · have e5 : k < 87 := ge_f (n := 87) rfl hk (by omega) c5
        refine v_iload_n (pc := 8) 1 g dX5_moveAll_8 rfl rfl ?_
        refine v_if_eq (pc := 9) 24 g dX5_moveAll_9 rfl (fun c9 => ?_) (fun c9 => ?_)
        · exact absurd c9 (by decide)
        · refine v_aload_n (pc := 12) 2 g dX5_moveAll_12 rfl rfl ?_
          refine v_iload_n (pc := 13) 3 g dX5_moveAll_13 rfl rfl ?_
          refine v_aload_n (pc := 14) 0 g dX5_moveAll_14 rfl rfl ?_
          refine v_get (pc := 15) g dX5_moveAll_15 fl_X5_7 rfl rfl ?_
          refine v_iload_n (pc := 18) 3 g dX5_moveAll_18 rfl rfl ?_
          refine v_ialdN (pc := 19) _ g dX5_moveAll_19 rfl rfl (by omega) (Nat.le_of_ble_eq_true rfl) ?_
          refine v_iastN (pc := 20) _ _ g dX5_moveAll_20 rfl rfl (by omega) (Nat.le_of_ble_eq_true rfl) rfl ?_
          refine v_goto (pc := 21) 33 g dX5_moveAll_21 rfl ?_
          refine v_iincN (pc := 33) g dX5_moveAll_33 rfl hnL.symm ?_
          refine v_goto (pc := 36) 2 g dX5_moveAll_36 rfl ?_
          refine v_w (mW r fo of (fil r tr (k + 1)) b1 ta tm so be te wo va gd bi si sh le im bf kp) (by rw [← fil_up]; rfl) ?_
          exact ih (k + 1) (by omega) (by omega)
  refine v_w (mW r fo of (fil r tr 0) b1 ta tm so be te wo va gd bi si sh le im bf kp) (by rw [show fil r tr 0 = tr from fil_0 _ _]) ?_
  exact L2 88 0 (Nat.zero_le _) (by omega)
set_option maxRecDepth 20000 in
set_option maxHeartbeats 2000000 in
theorem c_mvB_tr (r : Nat → Int32) {fo : Nat → Int32} {of : Int32} {tr : Nat → Int32} {b1 : Nat → Int32} {ta : Nat → Int32} {tm : Nat} {so : Int32} {be : Int32} {te : Int32} {wo : Int64} {va : Int32} {gd : Int32} {bi : Nat → Int32} {si : Nat → Int32} {sh : Nat → Int64} {le : Nat → Int64} {im : Nat → Int32} {bf : Nat → Int32} {kp : Int32} : RunD 0 yX5_moveAll cX5_moveAll 4 none [.ref 0, .int 0, .ref 3] (mW r fo of tr b1 ta tm so be te wo va gd bi si sh le im bf kp) (none) (mW tr fo of tr b1 ta tm so be te wo va gd bi si sh le im bf kp) := by
  refine Runs.of (by decide) (Nat.le_of_ble_eq_true rfl) rfl ?_
  intro X g hret hnL
  refine v_iconst (pc := 0) (v := 0) g dX5_moveAll_0 (by decide) ?_
  refine v_istore_n (pc := 1) 3 _ g dX5_moveAll_1 rfl (Nat.le_of_ble_eq_true rfl) hnL.symm rfl ?_
  have L2 : ∀ (fu : Nat) (k : Nat), k ≤ 87 → 87 - k < fu → V X 2 [some (.ref 0), some (.int 0), some (.ref 3), some (.int (nI k))] [] (mW (fil tr r k) fo of tr b1 ta tm so be te wo va gd bi si sh le im bf kp) := by
    intro fu
    induction fu with
    | zero => intro k hk hm; exact absurd hm (Nat.not_lt_zero _)
    | succ fu ih =>
      intro k hk hm
      refine v_iload_n (pc := 2) 3 g dX5_moveAll_2 rfl rfl ?_
      refine v_bipush (pc := 3) (v := 87) g dX5_moveAll_3 (by decide) ?_
      refine v_icmp_ge (pc := 5) 39 g dX5_moveAll_5 rfl (fun c5 => ?_) (fun c5 => ?_)
      · have e5 : k = 87 := ge_t (n := 87) rfl hk (by omega) c5
        subst e5
        refine v_eqc 1 (.inl (87, .inl tr)) (mW tr fo of tr b1 ta tm so be te wo va gd bi si sh le im bf kp) rfl ⟨rfl, fun j hj => if_pos hj⟩ rfl ?_
        exact v_vret (pc := 39) g hret dX5_moveAll_39 (⟨rfl, rfl⟩)
      · have e5 : k < 87 := ge_f (n := 87) rfl hk (by omega) c5
        refine v_iload_n (pc := 8) 1 g dX5_moveAll_8 rfl rfl ?_
        refine v_if_eq (pc := 9) 24 g dX5_moveAll_9 rfl (fun c9 => ?_) (fun c9 => ?_)
        · refine v_aload_n (pc := 24) 0 g dX5_moveAll_24 rfl rfl ?_
          refine v_get (pc := 25) g dX5_moveAll_25 fl_X5_7 rfl rfl ?_
          refine v_iload_n (pc := 28) 3 g dX5_moveAll_28 rfl rfl ?_
          refine v_aload_n (pc := 29) 2 g dX5_moveAll_29 rfl rfl ?_
          refine v_iload_n (pc := 30) 3 g dX5_moveAll_30 rfl rfl ?_
          refine v_ialdN (pc := 31) _ g dX5_moveAll_31 rfl rfl (by omega) (Nat.le_of_ble_eq_true rfl) ?_
          refine v_iastN (pc := 32) _ _ g dX5_moveAll_32 rfl rfl (by omega) (Nat.le_of_ble_eq_true rfl) rfl ?_
          refine v_iincN (pc := 33) g dX5_moveAll_33 rfl hnL.symm ?_
          refine v_goto (pc := 36) 2 g dX5_moveAll_36 rfl ?_
          refine v_w (mW (fil tr r (k + 1)) fo of tr b1 ta tm so be te wo va gd bi si sh le im bf kp) (by rw [← fil_up]; rfl) ?_
          exact ih (k + 1) (by omega) (by omega)
        · exact absurd rfl c9
  refine v_w (mW (fil tr r 0) fo of tr b1 ta tm so be te wo va gd bi si sh le im bf kp) (by rw [show fil tr r 0 = r from fil_0 _ _]) ?_
  exact L2 88 0 (Nat.zero_le _) (by omega)
set_option maxRecDepth 20000 in
set_option maxHeartbeats 2000000 in
theorem c_mvK_b1 (r : Nat → Int32) {fo : Nat → Int32} {of : Int32} {tr : Nat → Int32} {b1 : Nat → Int32} {ta : Nat → Int32} {tm : Nat} {so : Int32} {be : Int32} {te : Int32} {wo : Int64} {va : Int32} {gd : Int32} {bi : Nat → Int32} {si : Nat → Int32} {sh : Nat → Int64} {le : Nat → Int64} {im : Nat → Int32} {bf : Nat → Int32} {kp : Int32} : RunD 0 yX5_moveAll cX5_moveAll 4 none [.ref 0, .int 1, .ref 4] (mW r fo of tr b1 ta tm so be te wo va gd bi si sh le im bf kp) (none) (mW r fo of tr r ta tm so be te wo va gd bi si sh le im bf kp) := by
  refine Runs.of (by decide) (Nat.le_of_ble_eq_true rfl) rfl ?_
  intro X g hret hnL
  refine v_iconst (pc := 0) (v := 0) g dX5_moveAll_0 (by decide) ?_
  refine v_istore_n (pc := 1) 3 _ g dX5_moveAll_1 rfl (Nat.le_of_ble_eq_true rfl) hnL.symm rfl ?_
  have L2 : ∀ (fu : Nat) (k : Nat), k ≤ 87 → 87 - k < fu → V X 2 [some (.ref 0), some (.int 1), some (.ref 4), some (.int (nI k))] [] (mW r fo of tr (fil r b1 k) ta tm so be te wo va gd bi si sh le im bf kp) := by
    intro fu
    induction fu with
    | zero => intro k hk hm; exact absurd hm (Nat.not_lt_zero _)
    | succ fu ih =>
      intro k hk hm
      refine v_iload_n (pc := 2) 3 g dX5_moveAll_2 rfl rfl ?_
      refine v_bipush (pc := 3) (v := 87) g dX5_moveAll_3 (by decide) ?_
      refine v_icmp_ge (pc := 5) 39 g dX5_moveAll_5 rfl (fun c5 => ?_) (fun c5 => ?_)
      · have e5 : k = 87 := ge_t (n := 87) rfl hk (by omega) c5
        subst e5
        refine v_eqc 4 (.inl (87, .inl r)) (mW r fo of tr r ta tm so be te wo va gd bi si sh le im bf kp) rfl ⟨rfl, fun j hj => if_pos hj⟩ rfl ?_
        exact v_vret (pc := 39) g hret dX5_moveAll_39 (⟨rfl, rfl⟩)
      · have e5 : k < 87 := ge_f (n := 87) rfl hk (by omega) c5
        refine v_iload_n (pc := 8) 1 g dX5_moveAll_8 rfl rfl ?_
        refine v_if_eq (pc := 9) 24 g dX5_moveAll_9 rfl (fun c9 => ?_) (fun c9 => ?_)
        · exact absurd c9 (by decide)
        · refine v_aload_n (pc := 12) 2 g dX5_moveAll_12 rfl rfl ?_
          refine v_iload_n (pc := 13) 3 g dX5_moveAll_13 rfl rfl ?_
          refine v_aload_n (pc := 14) 0 g dX5_moveAll_14 rfl rfl ?_
          refine v_get (pc := 15) g dX5_moveAll_15 fl_X5_7 rfl rfl ?_
          refine v_iload_n (pc := 18) 3 g dX5_moveAll_18 rfl rfl ?_
          refine v_ialdN (pc := 19) _ g dX5_moveAll_19 rfl rfl (by omega) (Nat.le_of_ble_eq_true rfl) ?_
          refine v_iastN (pc := 20) _ _ g dX5_moveAll_20 rfl rfl (by omega) (Nat.le_of_ble_eq_true rfl) rfl ?_
          refine v_goto (pc := 21) 33 g dX5_moveAll_21 rfl ?_
          refine v_iincN (pc := 33) g dX5_moveAll_33 rfl hnL.symm ?_
          refine v_goto (pc := 36) 2 g dX5_moveAll_36 rfl ?_
          refine v_w (mW r fo of tr (fil r b1 (k + 1)) ta tm so be te wo va gd bi si sh le im bf kp) (by rw [← fil_up]; rfl) ?_
          exact ih (k + 1) (by omega) (by omega)
  refine v_w (mW r fo of tr (fil r b1 0) ta tm so be te wo va gd bi si sh le im bf kp) (by rw [show fil r b1 0 = b1 from fil_0 _ _]) ?_
  exact L2 88 0 (Nat.zero_le _) (by omega)
set_option maxRecDepth 20000 in
set_option maxHeartbeats 2000000 in
theorem c_mvB_b1 (r : Nat → Int32) {fo : Nat → Int32} {of : Int32} {tr : Nat → Int32} {b1 : Nat → Int32} {ta : Nat → Int32} {tm : Nat} {so : Int32} {be : Int32} {te : Int32} {wo : Int64} {va : Int32} {gd : Int32} {bi : Nat → Int32} {si : Nat → Int32} {sh : Nat → Int64} {le : Nat → Int64} {im : Nat → Int32} {bf : Nat → Int32} {kp : Int32} : RunD 0 yX5_moveAll cX5_moveAll 4 none [.ref 0, .int 0, .ref 4] (mW r fo of tr b1 ta tm so be te wo va gd bi si sh le im bf kp) (none) (mW b1 fo of tr b1 ta tm so be te wo va gd bi si sh le im bf kp) := by
  refine Runs.of (by decide) (Nat.le_of_ble_eq_true rfl) rfl ?_
  intro X g hret hnL
  refine v_iconst (pc := 0) (v := 0) g dX5_moveAll_0 (by decide) ?_
  refine v_istore_n (pc := 1) 3 _ g dX5_moveAll_1 rfl (Nat.le_of_ble_eq_true rfl) hnL.symm rfl ?_
  have L2 : ∀ (fu : Nat) (k : Nat), k ≤ 87 → 87 - k < fu → V X 2 [some (.ref 0), some (.int 0), some (.ref 4), some (.int (nI k))] [] (mW (fil b1 r k) fo of tr b1 ta tm so be te wo va gd bi si sh le im bf kp) := by
    intro fu
    induction fu with
    | zero => intro k hk hm; exact absurd hm (Nat.not_lt_zero _)
    | succ fu ih =>
      intro k hk hm
      refine v_iload_n (pc := 2) 3 g dX5_moveAll_2 rfl rfl ?_
      refine v_bipush (pc := 3) (v := 87) g dX5_moveAll_3 (by decide) ?_
      refine v_icmp_ge (pc := 5) 39 g dX5_moveAll_5 rfl (fun c5 => ?_) (fun c5 => ?_)
      · have e5 : k = 87 := ge_t (n := 87) rfl hk (by omega) c5
        subst e5
        refine v_eqc 1 (.inl (87, .inl b1)) (mW b1 fo of tr b1 ta tm so be te wo va gd bi si sh le im bf kp) rfl ⟨rfl, fun j hj => if_pos hj⟩ rfl ?_
        exact v_vret (pc := 39) g hret dX5_moveAll_39 (⟨rfl, rfl⟩)
      · have e5 : k < 87 := ge_f (n := 87) rfl hk (by omega) c5
        refine v_iload_n (pc := 8) 1 g dX5_moveAll_8 rfl rfl ?_
        refine v_if_eq (pc := 9) 24 g dX5_moveAll_9 rfl (fun c9 => ?_) (fun c9 => ?_)
        · refine v_aload_n (pc := 24) 0 g dX5_moveAll_24 rfl rfl ?_
          refine v_get (pc := 25) g dX5_moveAll_25 fl_X5_7 rfl rfl ?_
          refine v_iload_n (pc := 28) 3 g dX5_moveAll_28 rfl rfl ?_
          refine v_aload_n (pc := 29) 2 g dX5_moveAll_29 rfl rfl ?_
          refine v_iload_n (pc := 30) 3 g dX5_moveAll_30 rfl rfl ?_
          refine v_ialdN (pc := 31) _ g dX5_moveAll_31 rfl rfl (by omega) (Nat.le_of_ble_eq_true rfl) ?_
          refine v_iastN (pc := 32) _ _ g dX5_moveAll_32 rfl rfl (by omega) (Nat.le_of_ble_eq_true rfl) rfl ?_
          refine v_iincN (pc := 33) g dX5_moveAll_33 rfl hnL.symm ?_
          refine v_goto (pc := 36) 2 g dX5_moveAll_36 rfl ?_
          refine v_w (mW (fil b1 r (k + 1)) fo of tr b1 ta tm so be te wo va gd bi si sh le im bf kp) (by rw [← fil_up]; rfl) ?_
          exact ih (k + 1) (by omega) (by omega)
        · exact absurd rfl c9
  refine v_w (mW (fil b1 r 0) fo of tr b1 ta tm so be te wo va gd bi si sh le im bf kp) (by rw [show fil b1 r 0 = r from fil_0 _ _]) ?_
  exact L2 88 0 (Nat.zero_le _) (by omega)
set_option maxRecDepth 20000 in
set_option maxHeartbeats 2000000 in
theorem c_mvK_im (r : Nat → Int32) {fo : Nat → Int32} {of : Int32} {tr : Nat → Int32} {b1 : Nat → Int32} {ta : Nat → Int32} {tm : Nat} {so : Int32} {be : Int32} {te : Int32} {wo : Int64} {va : Int32} {gd : Int32} {bi : Nat → Int32} {si : Nat → Int32} {sh : Nat → Int64} {le : Nat → Int64} {im : Nat → Int32} {bf : Nat → Int32} {kp : Int32} : RunD 0 yX5_moveAll cX5_moveAll 4 none [.ref 0, .int 1, .ref 10] (mW r fo of tr b1 ta tm so be te wo va gd bi si sh le im bf kp) (none) (mW r fo of tr b1 ta tm so be te wo va gd bi si sh le r bf kp) := by
  refine Runs.of (by decide) (Nat.le_of_ble_eq_true rfl) rfl ?_
  intro X g hret hnL
  refine v_iconst (pc := 0) (v := 0) g dX5_moveAll_0 (by decide) ?_
  refine v_istore_n (pc := 1) 3 _ g dX5_moveAll_1 rfl (Nat.le_of_ble_eq_true rfl) hnL.symm rfl ?_
  have L2 : ∀ (fu : Nat) (k : Nat), k ≤ 87 → 87 - k < fu → V X 2 [some (.ref 0), some (.int 1), some (.ref 10), some (.int (nI k))] [] (mW r fo of tr b1 ta tm so be te wo va gd bi si sh le (fil r im k) bf kp) := by
    intro fu
    induction fu with
    | zero => intro k hk hm; exact absurd hm (Nat.not_lt_zero _)
    | succ fu ih =>
      intro k hk hm
      refine v_iload_n (pc := 2) 3 g dX5_moveAll_2 rfl rfl ?_
      refine v_bipush (pc := 3) (v := 87) g dX5_moveAll_3 (by decide) ?_
      refine v_icmp_ge (pc := 5) 39 g dX5_moveAll_5 rfl (fun c5 => ?_) (fun c5 => ?_)
      · have e5 : k = 87 := ge_t (n := 87) rfl hk (by omega) c5
        subst e5
        refine v_eqc 10 (.inl (87, .inl r)) (mW r fo of tr b1 ta tm so be te wo va gd bi si sh le r bf kp) rfl ⟨rfl, fun j hj => if_pos hj⟩ rfl ?_
        exact v_vret (pc := 39) g hret dX5_moveAll_39 (⟨rfl, rfl⟩)
      · have e5 : k < 87 := ge_f (n := 87) rfl hk (by omega) c5
        refine v_iload_n (pc := 8) 1 g dX5_moveAll_8 rfl rfl ?_
        refine v_if_eq (pc := 9) 24 g dX5_moveAll_9 rfl (fun c9 => ?_) (fun c9 => ?_)
        · exact absurd c9 (by decide)
        · refine v_aload_n (pc := 12) 2 g dX5_moveAll_12 rfl rfl ?_
          refine v_iload_n (pc := 13) 3 g dX5_moveAll_13 rfl rfl ?_
          refine v_aload_n (pc := 14) 0 g dX5_moveAll_14 rfl rfl ?_
          refine v_get (pc := 15) g dX5_moveAll_15 fl_X5_7 rfl rfl ?_
          refine v_iload_n (pc := 18) 3 g dX5_moveAll_18 rfl rfl ?_
          refine v_ialdN (pc := 19) _ g dX5_moveAll_19 rfl rfl (by omega) (Nat.le_of_ble_eq_true rfl) ?_
          refine v_iastN (pc := 20) _ _ g dX5_moveAll_20 rfl rfl (by omega) (Nat.le_of_ble_eq_true rfl) rfl ?_
          refine v_goto (pc := 21) 33 g dX5_moveAll_21 rfl ?_
          refine v_iincN (pc := 33) g dX5_moveAll_33 rfl hnL.symm ?_
          refine v_goto (pc := 36) 2 g dX5_moveAll_36 rfl ?_
          refine v_w (mW r fo of tr b1 ta tm so be te wo va gd bi si sh le (fil r im (k + 1)) bf kp) (by rw [← fil_up]; rfl) ?_
          exact ih (k + 1) (by omega) (by omega)
  refine v_w (mW r fo of tr b1 ta tm so be te wo va gd bi si sh le (fil r im 0) bf kp) (by rw [show fil r im 0 = im from fil_0 _ _]) ?_
  exact L2 88 0 (Nat.zero_le _) (by omega)
set_option maxRecDepth 20000 in
set_option maxHeartbeats 2000000 in
theorem c_mvB_im (r : Nat → Int32) {fo : Nat → Int32} {of : Int32} {tr : Nat → Int32} {b1 : Nat → Int32} {ta : Nat → Int32} {tm : Nat} {so : Int32} {be : Int32} {te : Int32} {wo : Int64} {va : Int32} {gd : Int32} {bi : Nat → Int32} {si : Nat → Int32} {sh : Nat → Int64} {le : Nat → Int64} {im : Nat → Int32} {bf : Nat → Int32} {kp : Int32} : RunD 0 yX5_moveAll cX5_moveAll 4 none [.ref 0, .int 0, .ref 10] (mW r fo of tr b1 ta tm so be te wo va gd bi si sh le im bf kp) (none) (mW im fo of tr b1 ta tm so be te wo va gd bi si sh le im bf kp) := by
  refine Runs.of (by decide) (Nat.le_of_ble_eq_true rfl) rfl ?_
  intro X g hret hnL
  refine v_iconst (pc := 0) (v := 0) g dX5_moveAll_0 (by decide) ?_
  refine v_istore_n (pc := 1) 3 _ g dX5_moveAll_1 rfl (Nat.le_of_ble_eq_true rfl) hnL.symm rfl ?_
  have L2 : ∀ (fu : Nat) (k : Nat), k ≤ 87 → 87 - k < fu → V X 2 [some (.ref 0), some (.int 0), some (.ref 10), some (.int (nI k))] [] (mW (fil im r k) fo of tr b1 ta tm so be te wo va gd bi si sh le im bf kp) := by
    intro fu
    induction fu with
    | zero => intro k hk hm; exact absurd hm (Nat.not_lt_zero _)
    | succ fu ih =>
      intro k hk hm
      refine v_iload_n (pc := 2) 3 g dX5_moveAll_2 rfl rfl ?_
      refine v_bipush (pc := 3) (v := 87) g dX5_moveAll_3 (by decide) ?_
      refine v_icmp_ge (pc := 5) 39 g dX5_moveAll_5 rfl (fun c5 => ?_) (fun c5 => ?_)
      · have e5 : k = 87 := ge_t (n := 87) rfl hk (by omega) c5
        subst e5
        refine v_eqc 1 (.inl (87, .inl im)) (mW im fo of tr b1 ta tm so be te wo va gd bi si sh le im bf kp) rfl ⟨rfl, fun j hj => if_pos hj⟩ rfl ?_
        exact v_vret (pc := 39) g hret dX5_moveAll_39 (⟨rfl, rfl⟩)
      · have e5 : k < 87 := ge_f (n := 87) rfl hk (by omega) c5
        refine v_iload_n (pc := 8) 1 g dX5_moveAll_8 rfl rfl ?_
        refine v_if_eq (pc := 9) 24 g dX5_moveAll_9 rfl (fun c9 => ?_) (fun c9 => ?_)
        · refine v_aload_n (pc := 24) 0 g dX5_moveAll_24 rfl rfl ?_
          refine v_get (pc := 25) g dX5_moveAll_25 fl_X5_7 rfl rfl ?_
          refine v_iload_n (pc := 28) 3 g dX5_moveAll_28 rfl rfl ?_
          refine v_aload_n (pc := 29) 2 g dX5_moveAll_29 rfl rfl ?_
          refine v_iload_n (pc := 30) 3 g dX5_moveAll_30 rfl rfl ?_
          refine v_ialdN (pc := 31) _ g dX5_moveAll_31 rfl rfl (by omega) (Nat.le_of_ble_eq_true rfl) ?_
          refine v_iastN (pc := 32) _ _ g dX5_moveAll_32 rfl rfl (by omega) (Nat.le_of_ble_eq_true rfl) rfl ?_
          refine v_iincN (pc := 33) g dX5_moveAll_33 rfl hnL.symm ?_
          refine v_goto (pc := 36) 2 g dX5_moveAll_36 rfl ?_
          refine v_w (mW (fil im r (k + 1)) fo of tr b1 ta tm so be te wo va gd bi si sh le im bf kp) (by rw [← fil_up]; rfl) ?_
          exact ih (k + 1) (by omega) (by omega)
        · exact absurd rfl c9
  refine v_w (mW (fil im r 0) fo of tr b1 ta tm so be te wo va gd bi si sh le im bf kp) (by rw [show fil im r 0 = r from fil_0 _ _]) ?_
  exact L2 88 0 (Nat.zero_le _) (by omega)
set_option maxRecDepth 20000 in
set_option maxHeartbeats 2000000 in
theorem c_mvK_bf (r : Nat → Int32) {fo : Nat → Int32} {of : Int32} {tr : Nat → Int32} {b1 : Nat → Int32} {ta : Nat → Int32} {tm : Nat} {so : Int32} {be : Int32} {te : Int32} {wo : Int64} {va : Int32} {gd : Int32} {bi : Nat → Int32} {si : Nat → Int32} {sh : Nat → Int64} {le : Nat → Int64} {im : Nat → Int32} {bf : Nat → Int32} {kp : Int32} : RunD 0 yX5_moveAll cX5_moveAll 4 none [.ref 0, .int 1, .ref 11] (mW r fo of tr b1 ta tm so be te wo va gd bi si sh le im bf kp) (none) (mW r fo of tr b1 ta tm so be te wo va gd bi si sh le im r kp) := by
  refine Runs.of (by decide) (Nat.le_of_ble_eq_true rfl) rfl ?_
  intro X g hret hnL
  refine v_iconst (pc := 0) (v := 0) g dX5_moveAll_0 (by decide) ?_
  refine v_istore_n (pc := 1) 3 _ g dX5_moveAll_1 rfl (Nat.le_of_ble_eq_true rfl) hnL.symm rfl ?_
  have L2 : ∀ (fu : Nat) (k : Nat), k ≤ 87 → 87 - k < fu → V X 2 [some (.ref 0), some (.int 1), some (.ref 11), some (.int (nI k))] [] (mW r fo of tr b1 ta tm so be te wo va gd bi si sh le im (fil r bf k) kp) := by
    intro fu
    induction fu with
    | zero => intro k hk hm; exact absurd hm (Nat.not_lt_zero _)
    | succ fu ih =>
      intro k hk hm
      refine v_iload_n (pc := 2) 3 g dX5_moveAll_2 rfl rfl ?_
      refine v_bipush (pc := 3) (v := 87) g dX5_moveAll_3 (by decide) ?_
      refine v_icmp_ge (pc := 5) 39 g dX5_moveAll_5 rfl (fun c5 => ?_) (fun c5 => ?_)
      · have e5 : k = 87 := ge_t (n := 87) rfl hk (by omega) c5
        subst e5
        refine v_eqc 11 (.inl (87, .inl r)) (mW r fo of tr b1 ta tm so be te wo va gd bi si sh le im r kp) rfl ⟨rfl, fun j hj => if_pos hj⟩ rfl ?_
        exact v_vret (pc := 39) g hret dX5_moveAll_39 (⟨rfl, rfl⟩)
      · have e5 : k < 87 := ge_f (n := 87) rfl hk (by omega) c5
        refine v_iload_n (pc := 8) 1 g dX5_moveAll_8 rfl rfl ?_
        refine v_if_eq (pc := 9) 24 g dX5_moveAll_9 rfl (fun c9 => ?_) (fun c9 => ?_)
        · exact absurd c9 (by decide)
        · refine v_aload_n (pc := 12) 2 g dX5_moveAll_12 rfl rfl ?_
          refine v_iload_n (pc := 13) 3 g dX5_moveAll_13 rfl rfl ?_
          refine v_aload_n (pc := 14) 0 g dX5_moveAll_14 rfl rfl ?_
          refine v_get (pc := 15) g dX5_moveAll_15 fl_X5_7 rfl rfl ?_
          refine v_iload_n (pc := 18) 3 g dX5_moveAll_18 rfl rfl ?_
          refine v_ialdN (pc := 19) _ g dX5_moveAll_19 rfl rfl (by omega) (Nat.le_of_ble_eq_true rfl) ?_
          refine v_iastN (pc := 20) _ _ g dX5_moveAll_20 rfl rfl (by omega) (Nat.le_of_ble_eq_true rfl) rfl ?_
          refine v_goto (pc := 21) 33 g dX5_moveAll_21 rfl ?_
          refine v_iincN (pc := 33) g dX5_moveAll_33 rfl hnL.symm ?_
          refine v_goto (pc := 36) 2 g dX5_moveAll_36 rfl ?_
          refine v_w (mW r fo of tr b1 ta tm so be te wo va gd bi si sh le im (fil r bf (k + 1)) kp) (by rw [← fil_up]; rfl) ?_
          exact ih (k + 1) (by omega) (by omega)
  refine v_w (mW r fo of tr b1 ta tm so be te wo va gd bi si sh le im (fil r bf 0) kp) (by rw [show fil r bf 0 = bf from fil_0 _ _]) ?_
  exact L2 88 0 (Nat.zero_le _) (by omega)
set_option maxRecDepth 20000 in
set_option maxHeartbeats 2000000 in
theorem c_mvB_bf (r : Nat → Int32) {fo : Nat → Int32} {of : Int32} {tr : Nat → Int32} {b1 : Nat → Int32} {ta : Nat → Int32} {tm : Nat} {so : Int32} {be : Int32} {te : Int32} {wo : Int64} {va : Int32} {gd : Int32} {bi : Nat → Int32} {si : Nat → Int32} {sh : Nat → Int64} {le : Nat → Int64} {im : Nat → Int32} {bf : Nat → Int32} {kp : Int32} : RunD 0 yX5_moveAll cX5_moveAll 4 none [.ref 0, .int 0, .ref 11] (mW r fo of tr b1 ta tm so be te wo va gd bi si sh le im bf kp) (none) (mW bf fo of tr b1 ta tm so be te wo va gd bi si sh le im bf kp) := by
  refine Runs.of (by decide) (Nat.le_of_ble_eq_true rfl) rfl ?_
  intro X g hret hnL
  refine v_iconst (pc := 0) (v := 0) g dX5_moveAll_0 (by decide) ?_
  refine v_istore_n (pc := 1) 3 _ g dX5_moveAll_1 rfl (Nat.le_of_ble_eq_true rfl) hnL.symm rfl ?_
  have L2 : ∀ (fu : Nat) (k : Nat), k ≤ 87 → 87 - k < fu → V X 2 [some (.ref 0), some (.int 0), some (.ref 11), some (.int (nI k))] [] (mW (fil bf r k) fo of tr b1 ta tm so be te wo va gd bi si sh le im bf kp) := by
    intro fu
    induction fu with
    | zero => intro k hk hm; exact absurd hm (Nat.not_lt_zero _)
    | succ fu ih =>
      intro k hk hm
      refine v_iload_n (pc := 2) 3 g dX5_moveAll_2 rfl rfl ?_
      refine v_bipush (pc := 3) (v := 87) g dX5_moveAll_3 (by decide) ?_
      refine v_icmp_ge (pc := 5) 39 g dX5_moveAll_5 rfl (fun c5 => ?_) (fun c5 => ?_)
      · have e5 : k = 87 := ge_t (n := 87) rfl hk (by omega) c5
        subst e5
        refine v_eqc 1 (.inl (87, .inl bf)) (mW bf fo of tr b1 ta tm so be te wo va gd bi si sh le im bf kp) rfl ⟨rfl, fun j hj => if_pos hj⟩ rfl ?_
        exact v_vret (pc := 39) g hret dX5_moveAll_39 (⟨rfl, rfl⟩)
      · have e5 : k < 87 := ge_f (n := 87) rfl hk (by omega) c5
        refine v_iload_n (pc := 8) 1 g dX5_moveAll_8 rfl rfl ?_
        refine v_if_eq (pc := 9) 24 g dX5_moveAll_9 rfl (fun c9 => ?_) (fun c9 => ?_)
        · refine v_aload_n (pc := 24) 0 g dX5_moveAll_24 rfl rfl ?_
          refine v_get (pc := 25) g dX5_moveAll_25 fl_X5_7 rfl rfl ?_
          refine v_iload_n (pc := 28) 3 g dX5_moveAll_28 rfl rfl ?_
          refine v_aload_n (pc := 29) 2 g dX5_moveAll_29 rfl rfl ?_
          refine v_iload_n (pc := 30) 3 g dX5_moveAll_30 rfl rfl ?_
          refine v_ialdN (pc := 31) _ g dX5_moveAll_31 rfl rfl (by omega) (Nat.le_of_ble_eq_true rfl) ?_
          refine v_iastN (pc := 32) _ _ g dX5_moveAll_32 rfl rfl (by omega) (Nat.le_of_ble_eq_true rfl) rfl ?_
          refine v_iincN (pc := 33) g dX5_moveAll_33 rfl hnL.symm ?_
          refine v_goto (pc := 36) 2 g dX5_moveAll_36 rfl ?_
          refine v_w (mW (fil bf r (k + 1)) fo of tr b1 ta tm so be te wo va gd bi si sh le im bf kp) (by rw [← fil_up]; rfl) ?_
          exact ih (k + 1) (by omega) (by omega)
        · exact absurd rfl c9
  refine v_w (mW (fil bf r 0) fo of tr b1 ta tm so be te wo va gd bi si sh le im bf kp) (by rw [show fil bf r 0 = r from fil_0 _ _]) ?_
  exact L2 88 0 (Nat.zero_le _) (by omega)
set_option maxRecDepth 20000 in
set_option maxHeartbeats 2000000 in
theorem c_X5_behind (s z : St) {fo : Nat → Int32} {of : Int32} {tr : Nat → Int32} {b1 : Nat → Int32} {ta : Nat → Int32} {tm : Nat} {so : Int32} {be : Int32} {te : Int32} {wo : Int64} {va : Int32} {gd : Int32} {bi : Nat → Int32} {si : Nat → Int32} {sh : Nat → Int64} {le : Nat → Int64} {im : Nat → Int32} {bf : Nat → Int32} {kp : Int32} (m j : Nat) (hI : Inv s) (hm : m < 1000) (hj : j < 87) : RunD 7 yX5_behind cX5_behind 4 (some .int) [.ref 0, .int (nI m), .int (nI j)] (mW (rowOf s) fo of (rowOf z) b1 ta tm so be te wo va gd bi si sh le im bf kp) (some (.int (rowOf (minN s m) j))) (mW (rowOf z) fo (weN s of m) (rowOf z) b1 ta tm so be te wo va gd bi si sh le im bf kp) := by
  refine Runs.of (by decide) (Nat.le_of_ble_eq_true rfl) rfl ?_
  intro X g hret hnL
  refine v_aload_n (pc := 0) 0 g dX5_behind_0 rfl rfl ?_
  refine v_iload_n (pc := 1) 1 g dX5_behind_1 rfl rfl ?_
  refine v_cVd (pc := 2) g dX5_behind_2 lk_X5_153 (c_X5_passes s m hI hm) (Nat.le_of_ble_eq_true rfl) rfl rfl rfl rfl (Nat.le_of_ble_eq_true rfl) ?_
  refine v_aload_n (pc := 5) 0 g dX5_behind_5 rfl rfl ?_
  refine v_get (pc := 6) g dX5_behind_6 fl_X5_7 rfl rfl ?_
  refine v_iload_n (pc := 9) 2 g dX5_behind_9 rfl rfl ?_
  refine v_ialdN (pc := 10) _ g dX5_behind_10 rfl rfl (by omega) (Nat.le_of_ble_eq_true rfl) ?_
  refine v_istore_n (pc := 11) 3 _ g dX5_behind_11 rfl (Nat.le_of_ble_eq_true rfl) hnL.symm rfl ?_
  refine v_aload_n (pc := 12) 0 g dX5_behind_12 rfl rfl ?_
  refine v_iconst (pc := 13) (v := 0) g dX5_behind_13 (by decide) ?_
  refine v_aload_n (pc := 14) 0 g dX5_behind_14 rfl rfl ?_
  refine v_get (pc := 15) g dX5_behind_15 fl_X5_16 rfl rfl ?_
  refine v_cVd (pc := 18) g dX5_behind_18 lk_X5_156 (c_mvB_tr _) (Nat.le_of_ble_eq_true rfl) rfl rfl rfl rfl (Nat.le_of_ble_eq_true rfl) ?_
  refine v_iload_n (pc := 21) 3 g dX5_behind_21 rfl rfl ?_
  exact v_iret (pc := 22) g hret dX5_behind_22 (⟨rfl, rfl⟩)
set_option maxRecDepth 20000 in
set_option maxHeartbeats 2000000 in
theorem c_X5_readBehind (s z : St) {fo : Nat → Int32} {of : Int32} {tr : Nat → Int32} {b1 : Nat → Int32} {ta : Nat → Int32} {tm : Nat} {so : Int32} {be : Int32} {te : Int32} {wo : Int64} {va : Int32} {gd : Int32} {bi : Nat → Int32} {si : Nat → Int32} {sh : Nat → Int64} {le : Nat → Int64} {im : Nat → Int32} {bf : Nat → Int32} {kp : Int32} (m : Nat) (hI : Inv s) (hm : m < 1000) : RunD 7 yX5_readBehind cX5_readBehind 3 (some .int) [.ref 0, .int (nI m)] (mW (rowOf s) fo of (rowOf z) b1 ta tm so be te wo va gd bi si sh le im bf kp) (some (.int (readAll (minN s m)))) (mW (rowOf z) fo (weN s of m) (rowOf z) b1 ta tm so be te wo va gd bi si sh le im bf kp) := by
  refine Runs.of (by decide) (Nat.le_of_ble_eq_true rfl) rfl ?_
  intro X g hret hnL
  refine v_aload_n (pc := 0) 0 g dX5_readBehind_0 rfl rfl ?_
  refine v_iload_n (pc := 1) 1 g dX5_readBehind_1 rfl rfl ?_
  refine v_cVd (pc := 2) g dX5_readBehind_2 lk_X5_153 (c_X5_passes s m hI hm) (Nat.le_of_ble_eq_true rfl) rfl rfl rfl rfl (Nat.le_of_ble_eq_true rfl) ?_
  refine v_aload_n (pc := 5) 0 g dX5_readBehind_5 rfl rfl ?_
  refine v_cVd (pc := 6) g dX5_readBehind_6 lk_X5_96 (c_X5_readOfAll _) (Nat.le_of_ble_eq_true rfl) rfl rfl rfl rfl (Nat.le_of_ble_eq_true rfl) ?_
  refine v_istore_n (pc := 9) 2 _ g dX5_readBehind_9 rfl (Nat.le_of_ble_eq_true rfl) hnL.symm rfl ?_
  refine v_aload_n (pc := 10) 0 g dX5_readBehind_10 rfl rfl ?_
  refine v_iconst (pc := 11) (v := 0) g dX5_readBehind_11 (by decide) ?_
  refine v_aload_n (pc := 12) 0 g dX5_readBehind_12 rfl rfl ?_
  refine v_get (pc := 13) g dX5_readBehind_13 fl_X5_16 rfl rfl ?_
  refine v_cVd (pc := 16) g dX5_readBehind_16 lk_X5_156 (c_mvB_tr _) (Nat.le_of_ble_eq_true rfl) rfl rfl rfl rfl (Nat.le_of_ble_eq_true rfl) ?_
  refine v_iload_n (pc := 19) 2 g dX5_readBehind_19 rfl rfl ?_
  exact v_iret (pc := 20) g hret dX5_readBehind_20 (⟨rfl, rfl⟩)
set_option maxRecDepth 20000 in
set_option maxHeartbeats 2000000 in
theorem c_X5_isLit (s : St) {fo : Nat → Int32} {of : Int32} {tr : Nat → Int32} {b1 : Nat → Int32} {ta : Nat → Int32} {tm : Nat} {so : Int32} {be : Int32} {te : Int32} {wo : Int64} {va : Int32} {gd : Int32} {bi : Nat → Int32} {si : Nat → Int32} {sh : Nat → Int64} {le : Nat → Int64} {im : Nat → Int32} {bf : Nat → Int32} {kp : Int32} (i : Nat) (hi : i < 12) : RunD 1 yX5_isLit cX5_isLit 2 (some .boolean) [.ref 0, .int (nI i)] (mW (rowOf s) fo of tr b1 ta tm so be te wo va gd bi si sh le im bf kp) (some (.int (bI (0 < sLa s i)))) (mW (rowOf s) fo of tr b1 ta tm so be te wo va gd bi si sh le im bf kp) := by
  refine Runs.of (by decide) (Nat.le_of_ble_eq_true rfl) rfl ?_
  intro X g hret hnL
  refine v_aload_n (pc := 0) 0 g dX5_isLit_0 rfl rfl ?_
  refine v_iload_n (pc := 1) 1 g dX5_isLit_1 rfl rfl ?_
  refine v_iconst (pc := 2) (v := 0) g dX5_isLit_2 (by decide) ?_
  refine v_cVd (pc := 3) g dX5_isLit_3 lk_X5_49 (c_st_La s i hi) (Nat.le_of_ble_eq_true rfl) rfl rfl rfl rfl (Nat.le_of_ble_eq_true rfl) ?_
  refine v_if_le (pc := 6) 13 g dX5_isLit_6 rfl (fun c6 => ?_) (fun c6 => ?_)
  · refine v_iconst (pc := 13) (v := 0) g dX5_isLit_13 (by decide) ?_
    exact v_zret (pc := 14) g hret dX5_isLit_14 (by first | exact nb1 | exact nb0 | exact nbI) (by first | exact ⟨so1 (Int32.not_le.mp c6), rfl⟩ | exact ⟨so0 (Int32.not_lt.mpr c6), rfl⟩)
  · refine v_iconst (pc := 9) (v := 1) g dX5_isLit_9 (by decide) ?_
    refine v_goto (pc := 10) 14 g dX5_isLit_10 rfl ?_
    exact v_zret (pc := 14) g hret dX5_isLit_14 (by first | exact nb1 | exact nb0 | exact nbI) (by first | exact ⟨so1 (Int32.not_le.mp c6), rfl⟩ | exact ⟨so0 (Int32.not_lt.mpr c6), rfl⟩)
/-- a finding is counted -/
def fdn (f : Nat → Int32) (k : Nat) : Nat → Int32 := upd f k (f k + 1)
theorem fd_ix {k : Nat} (hk : k < 7) : (-1000000001 : Int32) - Int32.ofInt (-1000000001 - k) = nI k := by
  rcases (show k = 0 ∨ k = 1 ∨ k = 2 ∨ k = 3 ∨ k = 4 ∨ k = 5 ∨ k = 6 by omega) with rfl | rfl | rfl | rfl | rfl | rfl | rfl <;> decide
set_option maxRecDepth 20000 in
set_option maxHeartbeats 2000000 in
theorem c_X5_finds (r : Nat → Int32) {fo : Nat → Int32} {of : Int32} {tr : Nat → Int32} {b1 : Nat → Int32} {ta : Nat → Int32} {tm : Nat} {so : Int32} {be : Int32} {te : Int32} {wo : Int64} {va : Int32} {gd : Int32} {bi : Nat → Int32} {si : Nat → Int32} {sh : Nat → Int64} {le : Nat → Int64} {im : Nat → Int32} {bf : Nat → Int32} {kp : Int32} (k : Nat) (v : Int32) (hk : k < 7) (hv : v = Int32.ofInt (-1000000001 - k)) : RunD 0 yX5_finds cX5_finds 2 (some .int) [.ref 0, .int v] (mW r fo of tr b1 ta tm so be te wo va gd bi si sh le im bf kp) (some (.int v)) (mW r (fdn fo k) of tr b1 ta tm so be te wo va gd bi si sh le im bf kp) := by
  refine Runs.of (by decide) (Nat.le_of_ble_eq_true rfl) rfl ?_
  intro X g hret hnL
  refine v_aload_n (pc := 0) 0 g dX5_finds_0 rfl rfl ?_
  refine v_get (pc := 1) g dX5_finds_1 fl_X5_13 rfl rfl ?_
  refine v_ldc (pc := 4) g dX5_finds_4 co_X5_44 ?_
  refine v_iload_n (pc := 6) 1 g dX5_finds_6 rfl rfl ?_
  refine v_isub (pc := 7) g dX5_finds_7 ?_
  refine v_dup2 (pc := 8) g dX5_finds_8 rfl rfl ?_
  refine v_ialdN (pc := 9) _ g dX5_finds_9 rfl (by rw [hv]; exact fd_ix hk) hk (Nat.le_of_ble_eq_true rfl) ?_
  refine v_iconst (pc := 10) (v := 1) g dX5_finds_10 (by decide) ?_
  refine v_iadd (pc := 11) g dX5_finds_11 ?_
  refine v_iastN (pc := 12) _ _ g dX5_finds_12 rfl (by rw [hv]; exact fd_ix hk) hk (Nat.le_of_ble_eq_true rfl) rfl ?_
  refine v_iload_n (pc := 13) 1 g dX5_finds_13 rfl rfl ?_
  exact v_iret (pc := 14) g hret dX5_finds_14 (⟨rfl, rfl⟩)
set_option maxRecDepth 20000 in
set_option maxHeartbeats 2000000 in
theorem c_X5_isPart2 (k v : Int32) : RunD 2 yX5_isPart cX5_isPart 2 (some .boolean) [.int k, .int v] ([]) (some (.int (bI (inR k 1 5 ∧ inR v 0 (moS k).toInt)))) ([]) := by
  refine Runs.of (by decide) (Nat.le_of_ble_eq_true rfl) rfl ?_
  intro X g hret hnL
  refine v_iload_n (pc := 0) 0 g dX5_isPart_0 rfl rfl ?_
  refine v_top (fun x1 e1 => ?_)
  by_cases t1_1 : x1.toInt = 1
  · refine v_tin (pc := 1) 1 32 g dX5_isPart_1 t1_1 (by decide) (by decide) rfl rfl ?_
    rw [e1] at t1_1
    refine v_iload_n (pc := 32) 1 g dX5_isPart_32 rfl rfl ?_
    refine v_cSd (pc := 33) g dX5_isPart_33 lk_X5_72 ((c_X5_isHouse _).any rfl rfl _) (Nat.le_of_ble_eq_true rfl) rfl rfl (Nat.le_of_ble_eq_true rfl) ?_
    exact v_zret (pc := 36) g hret dX5_isPart_36 (by first | exact nb1 | exact nb0 | exact nbI) (by first | exact ⟨so_i (bI_cong (by unfold moS; simp only [*, reduceIte, Int.reduceEq, Int32.reduceToInt]; omega)), rfl⟩ | (refine ⟨so1 ?_, rfl⟩; have hk : k.toInt = 5 := (by rw [c54]; rfl); unfold moS; simp only [hk, reduceIte, Int.reduceEq, Int32.reduceToInt]; exact ⟨by omega, c65⟩) | (refine ⟨so0 (fun z => ?_), rfl⟩; have hk : k.toInt = 5 := (by rw [c54]; rfl); unfold moS at z; simp only [hk, reduceIte, Int.reduceEq, Int32.reduceToInt] at z; exact c65 z.2) | (refine ⟨so0 (fun z => c54 ?_), rfl⟩; rw [i_eq]; show k.toInt = 5; omega))
  by_cases t1_2 : x1.toInt = 2
  · refine v_tin (pc := 1) 2 37 g dX5_isPart_1 t1_2 (by decide) (by decide) rfl rfl ?_
    rw [e1] at t1_2
    refine v_iload_n (pc := 37) 1 g dX5_isPart_37 rfl rfl ?_
    refine v_iconst (pc := 38) (v := 0) g dX5_isPart_38 (by decide) ?_
    refine v_iconst (pc := 39) (v := 1) g dX5_isPart_39 (by decide) ?_
    refine v_cSd (pc := 40) g dX5_isPart_40 lk_X5_45 ((c_X5_in _ _ _ 0 1 rfl rfl).any rfl rfl _) (Nat.le_of_ble_eq_true rfl) rfl rfl (Nat.le_of_ble_eq_true rfl) ?_
    exact v_zret (pc := 43) g hret dX5_isPart_43 (by first | exact nb1 | exact nb0 | exact nbI) (by first | exact ⟨so_i (bI_cong (by unfold moS; simp only [*, reduceIte, Int.reduceEq, Int32.reduceToInt]; omega)), rfl⟩ | (refine ⟨so1 ?_, rfl⟩; have hk : k.toInt = 5 := (by rw [c54]; rfl); unfold moS; simp only [hk, reduceIte, Int.reduceEq, Int32.reduceToInt]; exact ⟨by omega, c65⟩) | (refine ⟨so0 (fun z => ?_), rfl⟩; have hk : k.toInt = 5 := (by rw [c54]; rfl); unfold moS at z; simp only [hk, reduceIte, Int.reduceEq, Int32.reduceToInt] at z; exact c65 z.2) | (refine ⟨so0 (fun z => c54 ?_), rfl⟩; rw [i_eq]; show k.toInt = 5; omega))
  by_cases t1_3 : x1.toInt = 3
  · refine v_tin (pc := 1) 3 44 g dX5_isPart_1 t1_3 (by decide) (by decide) rfl rfl ?_
    rw [e1] at t1_3
    refine v_iload_n (pc := 44) 1 g dX5_isPart_44 rfl rfl ?_
    refine v_iconst (pc := 45) (v := 0) g dX5_isPart_45 (by decide) ?_
    refine v_bipush (pc := 46) (v := 99) g dX5_isPart_46 (by decide) ?_
    refine v_cSd (pc := 48) g dX5_isPart_48 lk_X5_45 ((c_X5_in _ _ _ 0 99 rfl rfl).any rfl rfl _) (Nat.le_of_ble_eq_true rfl) rfl rfl (Nat.le_of_ble_eq_true rfl) ?_
    exact v_zret (pc := 51) g hret dX5_isPart_51 (by first | exact nb1 | exact nb0 | exact nbI) (by first | exact ⟨so_i (bI_cong (by unfold moS; simp only [*, reduceIte, Int.reduceEq, Int32.reduceToInt]; omega)), rfl⟩ | (refine ⟨so1 ?_, rfl⟩; have hk : k.toInt = 5 := (by rw [c54]; rfl); unfold moS; simp only [hk, reduceIte, Int.reduceEq, Int32.reduceToInt]; exact ⟨by omega, c65⟩) | (refine ⟨so0 (fun z => ?_), rfl⟩; have hk : k.toInt = 5 := (by rw [c54]; rfl); unfold moS at z; simp only [hk, reduceIte, Int.reduceEq, Int32.reduceToInt] at z; exact c65 z.2) | (refine ⟨so0 (fun z => c54 ?_), rfl⟩; rw [i_eq]; show k.toInt = 5; omega))
  by_cases t1_4 : x1.toInt = 4
  · refine v_tin (pc := 1) 4 44 g dX5_isPart_1 t1_4 (by decide) (by decide) rfl rfl ?_
    rw [e1] at t1_4
    refine v_iload_n (pc := 44) 1 g dX5_isPart_44 rfl rfl ?_
    refine v_iconst (pc := 45) (v := 0) g dX5_isPart_45 (by decide) ?_
    refine v_bipush (pc := 46) (v := 99) g dX5_isPart_46 (by decide) ?_
    refine v_cSd (pc := 48) g dX5_isPart_48 lk_X5_45 ((c_X5_in _ _ _ 0 99 rfl rfl).any rfl rfl _) (Nat.le_of_ble_eq_true rfl) rfl rfl (Nat.le_of_ble_eq_true rfl) ?_
    exact v_zret (pc := 51) g hret dX5_isPart_51 (by first | exact nb1 | exact nb0 | exact nbI) (by first | exact ⟨so_i (bI_cong (by unfold moS; simp only [*, reduceIte, Int.reduceEq, Int32.reduceToInt]; omega)), rfl⟩ | (refine ⟨so1 ?_, rfl⟩; have hk : k.toInt = 5 := (by rw [c54]; rfl); unfold moS; simp only [hk, reduceIte, Int.reduceEq, Int32.reduceToInt]; exact ⟨by omega, c65⟩) | (refine ⟨so0 (fun z => ?_), rfl⟩; have hk : k.toInt = 5 := (by rw [c54]; rfl); unfold moS at z; simp only [hk, reduceIte, Int.reduceEq, Int32.reduceToInt] at z; exact c65 z.2) | (refine ⟨so0 (fun z => c54 ?_), rfl⟩; rw [i_eq]; show k.toInt = 5; omega))
  refine v_tout (pc := 1) 52 g dX5_isPart_1 (by omega) rfl ?_
  rw [e1] at t1_1
  rw [e1] at t1_2
  rw [e1] at t1_3
  rw [e1] at t1_4
  refine v_iload_n (pc := 52) 0 g dX5_isPart_52 rfl rfl ?_
  refine v_iconst (pc := 53) (v := 5) g dX5_isPart_53 (by decide) ?_
  refine v_icmp_ne (pc := 54) 72 g dX5_isPart_54 rfl (fun c54 => ?_) (fun c54 => ?_)
  · refine v_iconst (pc := 72) (v := 0) g dX5_isPart_72 (by decide) ?_
    exact v_zret (pc := 73) g hret dX5_isPart_73 (by first | exact nb1 | exact nb0 | exact nbI) (by first | exact ⟨so_i (bI_cong (by unfold moS; simp only [*, reduceIte, Int.reduceEq, Int32.reduceToInt]; omega)), rfl⟩ | (refine ⟨so1 ?_, rfl⟩; have hk : k.toInt = 5 := (by rw [c54]; rfl); unfold moS; simp only [hk, reduceIte, Int.reduceEq, Int32.reduceToInt]; exact ⟨by omega, c65⟩) | (refine ⟨so0 (fun z => ?_), rfl⟩; have hk : k.toInt = 5 := (by rw [c54]; rfl); unfold moS at z; simp only [hk, reduceIte, Int.reduceEq, Int32.reduceToInt] at z; exact c65 z.2) | (refine ⟨so0 (fun z => c54 ?_), rfl⟩; rw [i_eq]; show k.toInt = 5; omega))
  · refine v_iload_n (pc := 57) 1 g dX5_isPart_57 rfl rfl ?_
    refine v_iconst (pc := 58) (v := 0) g dX5_isPart_58 (by decide) ?_
    refine v_sipush (pc := 59) (v := 9999) g dX5_isPart_59 (by decide) ?_
    refine v_cSd (pc := 62) g dX5_isPart_62 lk_X5_45 ((c_X5_in _ _ _ 0 9999 rfl rfl).any rfl rfl _) (Nat.le_of_ble_eq_true rfl) rfl rfl (Nat.le_of_ble_eq_true rfl) ?_
    refine v_ifb_eq (pc := 65) 72 g dX5_isPart_65 rfl (fun c65 => ?_) (fun c65 => ?_)
    · refine v_iconst (pc := 72) (v := 0) g dX5_isPart_72 (by decide) ?_
      exact v_zret (pc := 73) g hret dX5_isPart_73 (by first | exact nb1 | exact nb0 | exact nbI) (by first | exact ⟨so_i (bI_cong (by unfold moS; simp only [*, reduceIte, Int.reduceEq, Int32.reduceToInt]; omega)), rfl⟩ | (refine ⟨so1 ?_, rfl⟩; have hk : k.toInt = 5 := (by rw [c54]; rfl); unfold moS; simp only [hk, reduceIte, Int.reduceEq, Int32.reduceToInt]; exact ⟨by omega, c65⟩) | (refine ⟨so0 (fun z => ?_), rfl⟩; have hk : k.toInt = 5 := (by rw [c54]; rfl); unfold moS at z; simp only [hk, reduceIte, Int.reduceEq, Int32.reduceToInt] at z; exact c65 z.2) | (refine ⟨so0 (fun z => c54 ?_), rfl⟩; rw [i_eq]; show k.toInt = 5; omega))
    · refine v_iconst (pc := 68) (v := 1) g dX5_isPart_68 (by decide) ?_
      refine v_goto (pc := 69) 73 g dX5_isPart_69 rfl ?_
      exact v_zret (pc := 73) g hret dX5_isPart_73 (by first | exact nb1 | exact nb0 | exact nbI) (by first | exact ⟨so_i (bI_cong (by unfold moS; simp only [*, reduceIte, Int.reduceEq, Int32.reduceToInt]; omega)), rfl⟩ | (refine ⟨so1 ?_, rfl⟩; have hk : k.toInt = 5 := (by rw [c54]; rfl); unfold moS; simp only [hk, reduceIte, Int.reduceEq, Int32.reduceToInt]; exact ⟨by omega, c65⟩) | (refine ⟨so0 (fun z => ?_), rfl⟩; have hk : k.toInt = 5 := (by rw [c54]; rfl); unfold moS at z; simp only [hk, reduceIte, Int.reduceEq, Int32.reduceToInt] at z; exact c65 z.2) | (refine ⟨so0 (fun z => c54 ?_), rfl⟩; rw [i_eq]; show k.toInt = 5; omega))
