/-! ===== the class: its calls, I ===== -/
set_option maxRecDepth 20000 in
set_option maxHeartbeats 2000000 in
theorem c_X4_house {S : St} {u0 : Int32} {T : St} {u1 : Int32} {K : St} {u2 : Int32} {tb : Nat → Int32} {tl : Nat} {ni : Int32} {ns : Int32} {ne : Int32} {nk : Int32} {nv : Int32} {wi : Nat → Int32} {si : Nat → Int32} {nu : Nat → Int64} {fn : Nat → Int32} {kp : Int32} (h w v : Int32) (hI : Inv S) : RunD 2 yX4_house cX4_house 6 (some .int) [.ref 0, .int h, .int w, .int v] (xW S u0 T u1 K u2 tb tl ni ns ne nk nv wi si nu fn kp) (some (.int (r_0 S h w v))) (xW (s_0 S h w v) u0 T u1 K u2 tb tl ni ns ne nk nv wi si nu (fdI (C0 h w v) fn 0) kp) := by
  refine Runs.of (by decide) (Nat.le_of_ble_eq_true rfl) rfl ?_
  intro X g hret hnL
  refine v_iload_n (pc := 0) 1 g dX4_house_0 rfl rfl ?_
  refine v_cSd (pc := 1) g dX4_house_1 lk_X4_51 ((c_X4_isHouse _).any rfl rfl _) (Nat.le_of_ble_eq_true rfl) rfl rfl (Nat.le_of_ble_eq_true rfl) ?_
  refine v_ifb_eq (pc := 4) 28 g dX4_house_4 rfl (fun c4 => ?_) (fun c4 => ?_)
  · refine v_aload_n (pc := 28) 0 g dX4_house_28 rfl rfl ?_
    refine v_ldc (pc := 29) g dX4_house_29 co_X4_63 ?_
    refine v_cVd (pc := 31) g dX4_house_31 lk_X4_64 (c_X4_tell 0 (-1000000001) (by decide) (by decide)) (Nat.le_of_ble_eq_true rfl) rfl rfl rfl rfl (Nat.le_of_ble_eq_true rfl) ?_
    exact v_iret (pc := 34) g hret dX4_house_34 (⟨so_i (by unfold r_0; rw [if_neg (by omega)]), by unfold s_0 fdI; rw [if_neg (by omega), if_neg (by omega)]⟩)
  · refine v_iload_n (pc := 7) 2 g dX4_house_7 rfl rfl ?_
    refine v_iconst (pc := 8) (v := 0) g dX4_house_8 (by decide) ?_
    refine v_iconst (pc := 9) (v := 2) g dX4_house_9 (by decide) ?_
    refine v_cSd (pc := 10) g dX4_house_10 lk_X4_55 ((c_X4_within _ _ _ 0 2 rfl rfl).any rfl rfl _) (Nat.le_of_ble_eq_true rfl) rfl rfl (Nat.le_of_ble_eq_true rfl) ?_
    refine v_ifb_eq (pc := 13) 28 g dX4_house_13 rfl (fun c13 => ?_) (fun c13 => ?_)
    · refine v_aload_n (pc := 28) 0 g dX4_house_28 rfl rfl ?_
      refine v_ldc (pc := 29) g dX4_house_29 co_X4_63 ?_
      refine v_cVd (pc := 31) g dX4_house_31 lk_X4_64 (c_X4_tell 0 (-1000000001) (by decide) (by decide)) (Nat.le_of_ble_eq_true rfl) rfl rfl rfl rfl (Nat.le_of_ble_eq_true rfl) ?_
      exact v_iret (pc := 34) g hret dX4_house_34 (⟨so_i (by unfold r_0; rw [if_neg (by omega)]), by unfold s_0 fdI; rw [if_neg (by omega), if_neg (by omega)]⟩)
    · refine v_iload_n (pc := 16) 3 g dX4_house_16 rfl rfl ?_
      refine v_iconst (pc := 17) (v := 0) g dX4_house_17 (by decide) ?_
      refine v_iload_n (pc := 18) 2 g dX4_house_18 rfl rfl ?_
      refine v_cSd (pc := 19) g dX4_house_19 lk_X4_59 ((c_X4_mostOfHouse _).any rfl rfl _) (Nat.le_of_ble_eq_true rfl) rfl rfl (Nat.le_of_ble_eq_true rfl) ?_
      refine v_cSd (pc := 22) g dX4_house_22 lk_X4_55 ((c_X4_within _ _ _ 0 _ rfl rfl).any rfl rfl _) (Nat.le_of_ble_eq_true rfl) rfl rfl (Nat.le_of_ble_eq_true rfl) ?_
      refine v_ifb_ne (pc := 25) 35 g dX4_house_25 rfl (fun c25 => ?_) (fun c25 => ?_)
      · obtain ⟨i, hi, rfl⟩ := c4.nat (m := 11) (by omega)
        have hC : C0 (nI i) w v := ⟨c4, c13, c25⟩
        have ei : (nI i).toNatClampNeg = i := nI_clamp (by omega)
        rcases (show w.toInt = 0 ∨ w.toInt = 1 ∨ w.toInt = 2 by omega) with hw | hw | hw
        · refine v_aload_n (pc := 35) 0 g dX4_house_35 rfl rfl ?_
          refine v_get (pc := 36) g dX4_house_36 fl_X4_10 rfl rfl ?_
          refine v_iload_n (pc := 39) 2 g dX4_house_39 rfl rfl ?_
          refine v_cVd (pc := 40) g dX4_house_40 lk_X4_67 (xs_houseRow0 _ hw) (Nat.le_of_ble_eq_true rfl) rfl rfl rfl rfl (Nat.le_of_ble_eq_true rfl) ?_
          refine v_astore (pc := 43) _ g dX4_house_43 (Nat.le_of_ble_eq_true rfl) hnL.symm rfl ?_
          refine v_aload (pc := 45) g dX4_house_45 rfl ?_
          refine v_iload_n (pc := 47) 1 g dX4_house_47 rfl rfl ?_
          refine v_ialdN (pc := 48) _ g dX4_house_48 rfl rfl (by omega) (Nat.le_of_ble_eq_true rfl) ?_
          refine v_istore (pc := 49) _ g dX4_house_49 (Nat.le_of_ble_eq_true rfl) hnL.symm rfl ?_
          refine v_aload (pc := 51) g dX4_house_51 rfl ?_
          refine v_iload_n (pc := 53) 1 g dX4_house_53 rfl rfl ?_
          refine v_iload_n (pc := 54) 3 g dX4_house_54 rfl rfl ?_
          refine v_iastN (pc := 55) _ _ g dX4_house_55 rfl rfl (by omega) (Nat.le_of_ble_eq_true rfl) rfl ?_
          refine v_iload (pc := 56) g dX4_house_56 rfl ?_
          exact v_iret (pc := 58) g hret dX4_house_58 (⟨so_i (by unfold r_0 hGet; rw [if_pos hC, ei]; simp only [hw, reduceIte, Int.reduceEq]; try rfl), by unfold s_0 fdI hSet; rw [if_pos hC, if_pos hC, ei]; simp only [hw, reduceIte, Int.reduceEq]; rfl⟩)
        · refine v_aload_n (pc := 35) 0 g dX4_house_35 rfl rfl ?_
          refine v_get (pc := 36) g dX4_house_36 fl_X4_10 rfl rfl ?_
          refine v_iload_n (pc := 39) 2 g dX4_house_39 rfl rfl ?_
          refine v_cVd (pc := 40) g dX4_house_40 lk_X4_67 (xs_houseRow1 _ hw) (Nat.le_of_ble_eq_true rfl) rfl rfl rfl rfl (Nat.le_of_ble_eq_true rfl) ?_
          refine v_astore (pc := 43) _ g dX4_house_43 (Nat.le_of_ble_eq_true rfl) hnL.symm rfl ?_
          refine v_aload (pc := 45) g dX4_house_45 rfl ?_
          refine v_iload_n (pc := 47) 1 g dX4_house_47 rfl rfl ?_
          refine v_ialdN (pc := 48) _ g dX4_house_48 rfl rfl (by omega) (Nat.le_of_ble_eq_true rfl) ?_
          refine v_istore (pc := 49) _ g dX4_house_49 (Nat.le_of_ble_eq_true rfl) hnL.symm rfl ?_
          refine v_aload (pc := 51) g dX4_house_51 rfl ?_
          refine v_iload_n (pc := 53) 1 g dX4_house_53 rfl rfl ?_
          refine v_iload_n (pc := 54) 3 g dX4_house_54 rfl rfl ?_
          refine v_iastN (pc := 55) _ _ g dX4_house_55 rfl rfl (by omega) (Nat.le_of_ble_eq_true rfl) rfl ?_
          refine v_iload (pc := 56) g dX4_house_56 rfl ?_
          exact v_iret (pc := 58) g hret dX4_house_58 (⟨so_i (by unfold r_0 hGet; rw [if_pos hC, ei]; simp only [hw, reduceIte, Int.reduceEq]; try rfl), by unfold s_0 fdI hSet; rw [if_pos hC, if_pos hC, ei]; simp only [hw, reduceIte, Int.reduceEq]; rfl⟩)
        · refine v_aload_n (pc := 35) 0 g dX4_house_35 rfl rfl ?_
          refine v_get (pc := 36) g dX4_house_36 fl_X4_10 rfl rfl ?_
          refine v_iload_n (pc := 39) 2 g dX4_house_39 rfl rfl ?_
          refine v_cVd (pc := 40) g dX4_house_40 lk_X4_67 (xs_houseRow2 _ hw) (Nat.le_of_ble_eq_true rfl) rfl rfl rfl rfl (Nat.le_of_ble_eq_true rfl) ?_
          refine v_astore (pc := 43) _ g dX4_house_43 (Nat.le_of_ble_eq_true rfl) hnL.symm rfl ?_
          refine v_aload (pc := 45) g dX4_house_45 rfl ?_
          refine v_iload_n (pc := 47) 1 g dX4_house_47 rfl rfl ?_
          refine v_ialdN (pc := 48) _ g dX4_house_48 rfl rfl (by omega) (Nat.le_of_ble_eq_true rfl) ?_
          refine v_istore (pc := 49) _ g dX4_house_49 (Nat.le_of_ble_eq_true rfl) hnL.symm rfl ?_
          refine v_aload (pc := 51) g dX4_house_51 rfl ?_
          refine v_iload_n (pc := 53) 1 g dX4_house_53 rfl rfl ?_
          refine v_iload_n (pc := 54) 3 g dX4_house_54 rfl rfl ?_
          refine v_iastN (pc := 55) _ _ g dX4_house_55 rfl rfl (by omega) (Nat.le_of_ble_eq_true rfl) rfl ?_
          refine v_iload (pc := 56) g dX4_house_56 rfl ?_
          exact v_iret (pc := 58) g hret dX4_house_58 (⟨so_i (by unfold r_0 hGet; rw [if_pos hC, ei]; simp only [hw, reduceIte, Int.reduceEq]; try rfl), by unfold s_0 fdI hSet; rw [if_pos hC, if_pos hC, ei]; simp only [hw, reduceIte, Int.reduceEq]; rfl⟩)
      · refine v_aload_n (pc := 28) 0 g dX4_house_28 rfl rfl ?_
        refine v_ldc (pc := 29) g dX4_house_29 co_X4_63 ?_
        refine v_cVd (pc := 31) g dX4_house_31 lk_X4_64 (c_X4_tell 0 (-1000000001) (by decide) (by decide)) (Nat.le_of_ble_eq_true rfl) rfl rfl rfl rfl (Nat.le_of_ble_eq_true rfl) ?_
        exact v_iret (pc := 34) g hret dX4_house_34 (⟨so_i (by unfold r_0; rw [if_neg (by omega)]), by unfold s_0 fdI; rw [if_neg (by omega), if_neg (by omega)]⟩)
set_option maxRecDepth 20000 in
set_option maxHeartbeats 2000000 in
theorem c_X4_houseOf {S : St} {u0 : Int32} {T : St} {u1 : Int32} {K : St} {u2 : Int32} {tb : Nat → Int32} {tl : Nat} {ni : Int32} {ns : Int32} {ne : Int32} {nk : Int32} {nv : Int32} {wi : Nat → Int32} {si : Nat → Int32} {nu : Nat → Int64} {fn : Nat → Int32} {kp : Int32} (h w : Int32) (hI : Inv S) : RunD 2 yX4_houseOf cX4_houseOf 3 (some .int) [.ref 0, .int h, .int w] (xW S u0 T u1 K u2 tb tl ni ns ne nk nv wi si nu fn kp) (some (.int (r_1 S h w))) (xW S u0 T u1 K u2 tb tl ni ns ne nk nv wi si nu (fdI (C1 h w) fn 0) kp) := by
  refine Runs.of (by decide) (Nat.le_of_ble_eq_true rfl) rfl ?_
  intro X g hret hnL
  refine v_iload_n (pc := 0) 1 g dX4_houseOf_0 rfl rfl ?_
  refine v_cSd (pc := 1) g dX4_houseOf_1 lk_X4_51 ((c_X4_isHouse _).any rfl rfl _) (Nat.le_of_ble_eq_true rfl) rfl rfl (Nat.le_of_ble_eq_true rfl) ?_
  refine v_ifb_eq (pc := 4) 16 g dX4_houseOf_4 rfl (fun c4 => ?_) (fun c4 => ?_)
  · refine v_aload_n (pc := 16) 0 g dX4_houseOf_16 rfl rfl ?_
    refine v_ldc (pc := 17) g dX4_houseOf_17 co_X4_63 ?_
    refine v_cVd (pc := 19) g dX4_houseOf_19 lk_X4_64 (c_X4_tell 0 (-1000000001) (by decide) (by decide)) (Nat.le_of_ble_eq_true rfl) rfl rfl rfl rfl (Nat.le_of_ble_eq_true rfl) ?_
    exact v_iret (pc := 22) g hret dX4_houseOf_22 (⟨so_i (by unfold r_1; rw [if_neg (by omega)]), by unfold fdI; rw [if_neg (by omega)]⟩)
  · refine v_iload_n (pc := 7) 2 g dX4_houseOf_7 rfl rfl ?_
    refine v_iconst (pc := 8) (v := 0) g dX4_houseOf_8 (by decide) ?_
    refine v_iconst (pc := 9) (v := 3) g dX4_houseOf_9 (by decide) ?_
    refine v_cSd (pc := 10) g dX4_houseOf_10 lk_X4_55 ((c_X4_within _ _ _ 0 3 rfl rfl).any rfl rfl _) (Nat.le_of_ble_eq_true rfl) rfl rfl (Nat.le_of_ble_eq_true rfl) ?_
    refine v_ifb_ne (pc := 13) 23 g dX4_houseOf_13 rfl (fun c13 => ?_) (fun c13 => ?_)
    · refine v_iload_n (pc := 23) 2 g dX4_houseOf_23 rfl rfl ?_
      refine v_iconst (pc := 24) (v := 3) g dX4_houseOf_24 (by decide) ?_
      refine v_icmp_ne (pc := 25) 39 g dX4_houseOf_25 rfl (fun c25 => ?_) (fun c25 => ?_)
      · have hw0 : ¬ w.toInt = 3 := fun z => c25 (by rw [i_eq]; exact z)
        obtain ⟨i, hi, rfl⟩ := c4.nat (m := 11) (by omega)
        have hC : C1 (nI i) w := ⟨c4, c13⟩
        have ei : (nI i).toNatClampNeg = i := nI_clamp (by omega)
        rcases (show w.toInt = 0 ∨ w.toInt = 1 ∨ w.toInt = 2 by omega) with hw | hw | hw
        · refine v_aload_n (pc := 39) 0 g dX4_houseOf_39 rfl rfl ?_
          refine v_get (pc := 40) g dX4_houseOf_40 fl_X4_10 rfl rfl ?_
          refine v_iload_n (pc := 43) 2 g dX4_houseOf_43 rfl rfl ?_
          refine v_cVd (pc := 44) g dX4_houseOf_44 lk_X4_67 (xs_houseRow0 _ hw) (Nat.le_of_ble_eq_true rfl) rfl rfl rfl rfl (Nat.le_of_ble_eq_true rfl) ?_
          refine v_iload_n (pc := 47) 1 g dX4_houseOf_47 rfl rfl ?_
          refine v_ialdN (pc := 48) _ g dX4_houseOf_48 rfl rfl (by omega) (Nat.le_of_ble_eq_true rfl) ?_
          exact v_iret (pc := 49) g hret dX4_houseOf_49 (⟨so_i (by unfold r_1 hGet; rw [if_pos hC, ei]; simp only [hw, reduceIte, Int.reduceEq]; try rfl), by unfold fdI; rw [if_pos hC]⟩)
        · refine v_aload_n (pc := 39) 0 g dX4_houseOf_39 rfl rfl ?_
          refine v_get (pc := 40) g dX4_houseOf_40 fl_X4_10 rfl rfl ?_
          refine v_iload_n (pc := 43) 2 g dX4_houseOf_43 rfl rfl ?_
          refine v_cVd (pc := 44) g dX4_houseOf_44 lk_X4_67 (xs_houseRow1 _ hw) (Nat.le_of_ble_eq_true rfl) rfl rfl rfl rfl (Nat.le_of_ble_eq_true rfl) ?_
          refine v_iload_n (pc := 47) 1 g dX4_houseOf_47 rfl rfl ?_
          refine v_ialdN (pc := 48) _ g dX4_houseOf_48 rfl rfl (by omega) (Nat.le_of_ble_eq_true rfl) ?_
          exact v_iret (pc := 49) g hret dX4_houseOf_49 (⟨so_i (by unfold r_1 hGet; rw [if_pos hC, ei]; simp only [hw, reduceIte, Int.reduceEq]; try rfl), by unfold fdI; rw [if_pos hC]⟩)
        · refine v_aload_n (pc := 39) 0 g dX4_houseOf_39 rfl rfl ?_
          refine v_get (pc := 40) g dX4_houseOf_40 fl_X4_10 rfl rfl ?_
          refine v_iload_n (pc := 43) 2 g dX4_houseOf_43 rfl rfl ?_
          refine v_cVd (pc := 44) g dX4_houseOf_44 lk_X4_67 (xs_houseRow2 _ hw) (Nat.le_of_ble_eq_true rfl) rfl rfl rfl rfl (Nat.le_of_ble_eq_true rfl) ?_
          refine v_iload_n (pc := 47) 1 g dX4_houseOf_47 rfl rfl ?_
          refine v_ialdN (pc := 48) _ g dX4_houseOf_48 rfl rfl (by omega) (Nat.le_of_ble_eq_true rfl) ?_
          exact v_iret (pc := 49) g hret dX4_houseOf_49 (⟨so_i (by unfold r_1 hGet; rw [if_pos hC, ei]; simp only [hw, reduceIte, Int.reduceEq]; try rfl), by unfold fdI; rw [if_pos hC]⟩)
      · have hw : w.toInt = 3 := by rw [c25]; rfl
        refine v_aload_n (pc := 28) 0 g dX4_houseOf_28 rfl rfl ?_
        refine v_get (pc := 29) g dX4_houseOf_29 fl_X4_10 rfl rfl ?_
        refine v_iload_n (pc := 32) 1 g dX4_houseOf_32 rfl rfl ?_
        refine v_cVd (pc := 33) g dX4_houseOf_33 lk_X4_71 (xs_whoIsAt _ hI) (Nat.le_of_ble_eq_true rfl) rfl rfl rfl rfl (Nat.le_of_ble_eq_true rfl) ?_
        refine v_goto (pc := 36) 49 g dX4_houseOf_36 rfl ?_
        exact v_iret (pc := 49) g hret dX4_houseOf_49 (⟨so_i (by unfold r_1; rw [if_pos ⟨c4, c13⟩, if_pos hw]), by unfold fdI; rw [if_pos ⟨c4, c13⟩]⟩)
    · refine v_aload_n (pc := 16) 0 g dX4_houseOf_16 rfl rfl ?_
      refine v_ldc (pc := 17) g dX4_houseOf_17 co_X4_63 ?_
      refine v_cVd (pc := 19) g dX4_houseOf_19 lk_X4_64 (c_X4_tell 0 (-1000000001) (by decide) (by decide)) (Nat.le_of_ble_eq_true rfl) rfl rfl rfl rfl (Nat.le_of_ble_eq_true rfl) ?_
      exact v_iret (pc := 22) g hret dX4_houseOf_22 (⟨so_i (by unfold r_1; rw [if_neg (by omega)]), by unfold fdI; rw [if_neg (by omega)]⟩)
set_option maxRecDepth 20000 in
set_option maxHeartbeats 2000000 in
theorem c_X4_dry {S : St} {u0 : Int32} {T : St} {u1 : Int32} {K : St} {u2 : Int32} {tb : Nat → Int32} {tl : Nat} {ni : Int32} {ns : Int32} {ne : Int32} {nk : Int32} {nv : Int32} {wi : Nat → Int32} {si : Nat → Int32} {nu : Nat → Int64} {fn : Nat → Int32} {kp : Int32} (v : Int32) : RunD 2 yX4_dry cX4_dry 3 (some .int) [.ref 0, .int v] (xW S u0 T u1 K u2 tb tl ni ns ne nk nv wi si nu fn kp) (some (.int (r_2 S v))) (xW (s_2 S v) u0 T u1 K u2 tb tl ni ns ne nk nv wi si nu (fdI (inR v 0 9) fn 0) kp) := by
  refine Runs.of (by decide) (Nat.le_of_ble_eq_true rfl) rfl ?_
  intro X g hret hnL
  refine v_iload_n (pc := 0) 1 g dX4_dry_0 rfl rfl ?_
  refine v_iconst (pc := 1) (v := 0) g dX4_dry_1 (by decide) ?_
  refine v_bipush (pc := 2) (v := 9) g dX4_dry_2 (by decide) ?_
  refine v_cSd (pc := 4) g dX4_dry_4 lk_X4_55 ((c_X4_within _ _ _ 0 9 rfl rfl).any rfl rfl _) (Nat.le_of_ble_eq_true rfl) rfl rfl (Nat.le_of_ble_eq_true rfl) ?_
  refine v_ifb_ne (pc := 7) 17 g dX4_dry_7 rfl (fun c7 => ?_) (fun c7 => ?_)
  · refine v_aload_n (pc := 17) 0 g dX4_dry_17 rfl rfl ?_
    refine v_get (pc := 18) g dX4_dry_18 fl_X4_10 rfl rfl ?_
    refine v_get (pc := 21) g dX4_dry_21 fl_X4_74 rfl rfl ?_
    refine v_istore_n (pc := 24) 2 _ g dX4_dry_24 rfl (Nat.le_of_ble_eq_true rfl) hnL.symm rfl ?_
    refine v_aload_n (pc := 25) 0 g dX4_dry_25 rfl rfl ?_
    refine v_get (pc := 26) g dX4_dry_26 fl_X4_10 rfl rfl ?_
    refine v_iload_n (pc := 29) 1 g dX4_dry_29 rfl rfl ?_
    refine v_put (pc := 30) _ g dX4_dry_30 fp_X4_74 rfl (Nat.le_of_ble_eq_true rfl) rfl rfl rfl rfl ?_
    refine v_iload_n (pc := 33) 2 g dX4_dry_33 rfl rfl ?_
    exact v_iret (pc := 34) g hret dX4_dry_34 (⟨so_i (by unfold r_2; rw [if_pos c7]), by unfold s_2 fdI; rw [if_pos c7, if_pos c7]; rfl⟩)
  · refine v_aload_n (pc := 10) 0 g dX4_dry_10 rfl rfl ?_
    refine v_ldc (pc := 11) g dX4_dry_11 co_X4_63 ?_
    refine v_cVd (pc := 13) g dX4_dry_13 lk_X4_64 (c_X4_tell 0 (-1000000001) (by decide) (by decide)) (Nat.le_of_ble_eq_true rfl) rfl rfl rfl rfl (Nat.le_of_ble_eq_true rfl) ?_
    exact v_iret (pc := 16) g hret dX4_dry_16 (⟨so_i (by unfold r_2; rw [if_neg c7]), by unfold s_2 fdI; rw [if_neg c7, if_neg c7]⟩)
set_option maxRecDepth 20000 in
set_option maxHeartbeats 2000000 in
theorem c_X4_now {S : St} {u0 : Int32} {T : St} {u1 : Int32} {K : St} {u2 : Int32} {tb : Nat → Int32} {tl : Nat} {ni : Int32} {ns : Int32} {ne : Int32} {nk : Int32} {nv : Int32} {wi : Nat → Int32} {si : Nat → Int32} {nu : Nat → Int64} {fn : Nat → Int32} {kp : Int32} (w : Int32) (hI : Inv S) : RunD 3 yX4_now cX4_now 2 (some .int) [.ref 0, .int w] (xW S u0 T u1 K u2 tb tl ni ns ne nk nv wi si nu fn kp) (some (.int (r_3 S w))) (xW S u0 T u1 K u2 tb tl ni ns ne nk nv wi si nu (fdI (inR w 0 6) fn 0) kp) := by
  refine Runs.of (by decide) (Nat.le_of_ble_eq_true rfl) rfl ?_
  intro X g hret hnL
  refine v_iload_n (pc := 0) 1 g dX4_now_0 rfl rfl ?_
  refine v_top (fun x1 e1 => ?_)
  by_cases t1_0 : x1.toInt = 0
  · refine v_tin (pc := 1) 0 44 g dX4_now_1 t1_0 (by decide) (by decide) rfl rfl ?_
    rw [e1] at t1_0
    refine v_aload_n (pc := 44) 0 g dX4_now_44 rfl rfl ?_
    refine v_get (pc := 45) g dX4_now_45 fl_X4_10 rfl rfl ?_
    refine v_get (pc := 48) g dX4_now_48 fl_X4_78 rfl rfl ?_
    exact v_iret (pc := 51) g hret dX4_now_51 (⟨so_i (by unfold r_3; simp only [*, reduceIte, Int.reduceEq]), by unfold fdI; first | rw [if_pos (by omega)] | rw [if_neg (by omega)]⟩)
  by_cases t1_1 : x1.toInt = 1
  · refine v_tin (pc := 1) 1 52 g dX4_now_1 t1_1 (by decide) (by decide) rfl rfl ?_
    rw [e1] at t1_1
    refine v_aload_n (pc := 52) 0 g dX4_now_52 rfl rfl ?_
    refine v_get (pc := 53) g dX4_now_53 fl_X4_10 rfl rfl ?_
    refine v_get (pc := 56) g dX4_now_56 fl_X4_74 rfl rfl ?_
    exact v_iret (pc := 59) g hret dX4_now_59 (⟨so_i (by unfold r_3; simp only [*, reduceIte, Int.reduceEq]), by unfold fdI; first | rw [if_pos (by omega)] | rw [if_neg (by omega)]⟩)
  by_cases t1_2 : x1.toInt = 2
  · refine v_tin (pc := 1) 2 60 g dX4_now_1 t1_2 (by decide) (by decide) rfl rfl ?_
    rw [e1] at t1_2
    refine v_aload_n (pc := 60) 0 g dX4_now_60 rfl rfl ?_
    refine v_get (pc := 61) g dX4_now_61 fl_X4_10 rfl rfl ?_
    refine v_cVd (pc := 64) g dX4_now_64 lk_X4_81 (xs_burning) (Nat.le_of_ble_eq_true rfl) rfl rfl rfl rfl (Nat.le_of_ble_eq_true rfl) ?_
    exact v_iret (pc := 67) g hret dX4_now_67 (⟨so_i (by unfold r_3; simp only [*, reduceIte, Int.reduceEq]), by unfold fdI; first | rw [if_pos (by omega)] | rw [if_neg (by omega)]⟩)
  by_cases t1_3 : x1.toInt = 3
  · refine v_tin (pc := 1) 3 68 g dX4_now_1 t1_3 (by decide) (by decide) rfl rfl ?_
    rw [e1] at t1_3
    refine v_aload_n (pc := 68) 0 g dX4_now_68 rfl rfl ?_
    refine v_get (pc := 69) g dX4_now_69 fl_X4_10 rfl rfl ?_
    refine v_cVd (pc := 72) g dX4_now_72 lk_X4_85 (xs_openBooks) (Nat.le_of_ble_eq_true rfl) rfl rfl rfl rfl (Nat.le_of_ble_eq_true rfl) ?_
    exact v_iret (pc := 75) g hret dX4_now_75 (⟨so_i (by unfold r_3; simp only [*, reduceIte, Int.reduceEq]), by unfold fdI; first | rw [if_pos (by omega)] | rw [if_neg (by omega)]⟩)
  by_cases t1_4 : x1.toInt = 4
  · refine v_tin (pc := 1) 4 76 g dX4_now_1 t1_4 (by decide) (by decide) rfl rfl ?_
    rw [e1] at t1_4
    refine v_aload_n (pc := 76) 0 g dX4_now_76 rfl rfl ?_
    refine v_get (pc := 77) g dX4_now_77 fl_X4_10 rfl rfl ?_
    refine v_cVd (pc := 80) g dX4_now_80 lk_X4_88 (xs_ready hI) (Nat.le_of_ble_eq_true rfl) rfl rfl rfl rfl (Nat.le_of_ble_eq_true rfl) ?_
    exact v_iret (pc := 83) g hret dX4_now_83 (⟨so_i (by unfold r_3; simp only [*, reduceIte, Int.reduceEq]), by unfold fdI; first | rw [if_pos (by omega)] | rw [if_neg (by omega)]⟩)
  by_cases t1_5 : x1.toInt = 5
  · refine v_tin (pc := 1) 5 84 g dX4_now_1 t1_5 (by decide) (by decide) rfl rfl ?_
    rw [e1] at t1_5
    refine v_aload_n (pc := 84) 0 g dX4_now_84 rfl rfl ?_
    refine v_get (pc := 85) g dX4_now_85 fl_X4_10 rfl rfl ?_
    refine v_cVd (pc := 88) g dX4_now_88 lk_X4_91 (xs_coldOfAll hI) (Nat.le_of_ble_eq_true rfl) rfl rfl rfl rfl (Nat.le_of_ble_eq_true rfl) ?_
    exact v_iret (pc := 91) g hret dX4_now_91 (⟨so_i (by unfold r_3; simp only [*, reduceIte, Int.reduceEq]), by unfold fdI; first | rw [if_pos (by omega)] | rw [if_neg (by omega)]⟩)
  by_cases t1_6 : x1.toInt = 6
  · refine v_tin (pc := 1) 6 92 g dX4_now_1 t1_6 (by decide) (by decide) rfl rfl ?_
    rw [e1] at t1_6
    refine v_aload_n (pc := 92) 0 g dX4_now_92 rfl rfl ?_
    refine v_get (pc := 93) g dX4_now_93 fl_X4_10 rfl rfl ?_
    refine v_cVd (pc := 96) g dX4_now_96 lk_X4_94 (xs_readOfAll) (Nat.le_of_ble_eq_true rfl) rfl rfl rfl rfl (Nat.le_of_ble_eq_true rfl) ?_
    exact v_iret (pc := 99) g hret dX4_now_99 (⟨so_i (by unfold r_3; simp only [*, reduceIte, Int.reduceEq]), by unfold fdI; first | rw [if_pos (by omega)] | rw [if_neg (by omega)]⟩)
  refine v_tout (pc := 1) 100 g dX4_now_1 (by omega) rfl ?_
  rw [e1] at t1_0
  rw [e1] at t1_1
  rw [e1] at t1_2
  rw [e1] at t1_3
  rw [e1] at t1_4
  rw [e1] at t1_5
  rw [e1] at t1_6
  refine v_aload_n (pc := 100) 0 g dX4_now_100 rfl rfl ?_
  refine v_ldc (pc := 101) g dX4_now_101 co_X4_63 ?_
  refine v_cVd (pc := 103) g dX4_now_103 lk_X4_64 (c_X4_tell 0 (-1000000001) (by decide) (by decide)) (Nat.le_of_ble_eq_true rfl) rfl rfl rfl rfl (Nat.le_of_ble_eq_true rfl) ?_
  exact v_iret (pc := 106) g hret dX4_now_106 (⟨so_i (by unfold r_3; simp only [*, reduceIte, Int.reduceEq]), by unfold fdI; first | rw [if_pos (by omega)] | rw [if_neg (by omega)]⟩)
