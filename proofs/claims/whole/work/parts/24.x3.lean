theorem dec1 (x : Int32) : x + Int32.ofInt (-1) = x - 1 := by rw [Int32.sub_eq_add_neg]; rfl
theorem so_l {a b : Int64} (h : a = b) : some (Value.long a) = some (Value.long b) := by rw [h]
/-! ===== the class: its calls, III ===== -/
set_option maxRecDepth 20000 in
set_option maxHeartbeats 2000000 in
theorem c_X4_feed {S : St} {u0 : Int32} {T : St} {u1 : Int32} {K : St} {u2 : Int32} {tb : Nat → Int32} {tl : Nat} {ni : Int32} {ns : Int32} {ne : Int32} {nk : Int32} {nv : Int32} {wi : Nat → Int32} {si : Nat → Int32} {nu : Nat → Int64} {fn : Nat → Int32} {kp : Int32} (b n : Int32) (hl : tl ≤ 120) : RunD 2 yX4_feed cX4_feed 4 (some .int) [.ref 0, .int b, .int n] (xW S u0 T u1 K u2 tb tl ni ns ne nk nv wi si nu fn kp) (some (.int (r_22 tl n))) (xW S u0 T u1 K u2 (t_22 tb tl b n) (l_22 tl n) ni ns ne nk nv wi si nu (f_22 tl fn n) kp) := by
  refine Runs.of (by decide) (Nat.le_of_ble_eq_true rfl) rfl ?_
  intro X g hret hnL
  refine v_iload_n (pc := 0) 2 g dX4_feed_0 rfl rfl ?_
  refine v_iconst (pc := 1) (v := 1) g dX4_feed_1 (by decide) ?_
  refine v_iconst (pc := 2) (v := 4) g dX4_feed_2 (by decide) ?_
  refine v_cSd (pc := 3) g dX4_feed_3 lk_X4_55 ((c_X4_within _ _ _ 1 4 rfl rfl).any rfl rfl _) (Nat.le_of_ble_eq_true rfl) rfl rfl (Nat.le_of_ble_eq_true rfl) ?_
  refine v_ifb_ne (pc := 6) 16 g dX4_feed_6 rfl (fun c6 => ?_) (fun c6 => ?_)
  · obtain ⟨m, hm, rfl⟩ := (show inR n 0 ((4 : Nat) : Int) from ⟨by have := c6.1; omega, c6.2⟩).nat (by omega)
    have ei : (nI m).toNatClampNeg = m := nI_clamp (by omega)
    have hni : (nI m).toInt = m := nI_toInt (by omega)
    have h1 : 1 ≤ m := by have := c6.1; omega
    have hq : (120 : Int32) - nI m = nI (120 - m) := pk_sub (a := 120) (by omega)
    refine v_aload_n (pc := 16) 0 g dX4_feed_16 rfl rfl ?_
    refine v_get (pc := 17) g dX4_feed_17 fl_X4_25 rfl rfl ?_
    refine v_get (pc := 20) g dX4_feed_20 fl_X4_187 rfl rfl ?_
    refine v_bipush (pc := 23) (v := 120) g dX4_feed_23 (by decide) ?_
    refine v_iload_n (pc := 25) 2 g dX4_feed_25 rfl rfl ?_
    refine v_isub (pc := 26) g dX4_feed_26 ?_
    rw [hq]
    refine v_icmp_le (pc := 27) 37 g dX4_feed_27 rfl (fun c27 => ?_) (fun c27 => ?_)
    · have hC : C22 tl (nI m) := by have := (nI_leI (a := tl) (b := 120 - m) (by omega) (by omega)).mp c27; show _ + _ ≤ _; omega
      refine v_iload_n (pc := 37) 2 g dX4_feed_37 rfl rfl ?_
      refine v_iconst (pc := 38) (v := 1) g dX4_feed_38 (by decide) ?_
      refine v_isub (pc := 39) g dX4_feed_39 ?_
      refine v_istore_n (pc := 40) 3 _ g dX4_feed_40 rfl (Nat.le_of_ble_eq_true rfl) hnL.symm rfl ?_
      have L41 : ∀ (fu : Nat) (j k : Nat), j + k = m → j < fu → V X 41 [some (.ref 0), some (.int b), some (.int (nI m)), some (.int (nI j - 1))] [] (xW S u0 T u1 K u2 (fdT tb tl b m k) (tl + k) ni ns ne nk nv wi si nu fn kp) := by
        intro fu
        induction fu with
        | zero => intro j k hk hm; exact absurd hm (Nat.not_lt_zero _)
        | succ fu ih =>
          intro j k hk hm
          refine v_iload_n (pc := 41) 3 g dX4_feed_41 rfl rfl ?_
          refine v_if_lt (pc := 42) 68 g dX4_feed_42 rfl (fun c42 => ?_) (fun c42 => ?_)
          · have e42 : j = 0 := by rcases Nat.eq_zero_or_pos j with z | z; exact z; exact absurd c42 (by rw [show nI j - 1 = nI (j - 1) from pk_sub (b := 1) z]; exact nI_pos (by omega))
            subst e42
            have ek : k = m := by omega
            subst ek
            refine v_aload_n (pc := 68) 0 g dX4_feed_68 rfl rfl ?_
            refine v_get (pc := 69) g dX4_feed_69 fl_X4_25 rfl rfl ?_
            refine v_get (pc := 72) g dX4_feed_72 fl_X4_187 rfl rfl ?_
            exact v_iret (pc := 75) g hret dX4_feed_75 (⟨so_i (by unfold r_22; rw [if_pos c6, if_pos hC, ei]), by unfold t_22 l_22 f_22; rw [if_pos ⟨c6, hC⟩, if_pos ⟨c6, hC⟩, if_pos c6, if_pos hC, ei]⟩)
          · have e42 : 0 < j := by rcases Nat.eq_zero_or_pos j with z | z; exact absurd (by subst z; decide) c42; exact z
            obtain ⟨j, rfl⟩ : ∃ z, j = z + 1 := ⟨j - 1, by omega⟩
            rw [nI_pred]
            refine v_aload_n (pc := 45) 0 g dX4_feed_45 rfl rfl ?_
            refine v_get (pc := 46) g dX4_feed_46 fl_X4_25 rfl rfl ?_
            refine v_iload_n (pc := 49) 1 g dX4_feed_49 rfl rfl ?_
            refine v_bipush (pc := 50) (v := 8) g dX4_feed_50 (by decide) ?_
            refine v_iload_n (pc := 52) 3 g dX4_feed_52 rfl rfl ?_
            refine v_imul (pc := 53) g dX4_feed_53 ?_
            refine v_ishr (pc := 54) g dX4_feed_54 ?_
            refine v_sipush (pc := 55) (v := 255) g dX4_feed_55 (by decide) ?_
            refine v_iand (pc := 58) g dX4_feed_58 ?_
            refine v_cVd (pc := 59) g dX4_feed_59 lk_X4_190 (xp_addByte _ (by omega)) (Nat.le_of_ble_eq_true rfl) rfl rfl rfl rfl (Nat.le_of_ble_eq_true rfl) ?_
            refine v_iinc (pc := 62) _ _ g dX4_feed_62 rfl rfl hnL.symm rfl ?_
            rw [dec1]
            refine v_goto (pc := 65) 41 g dX4_feed_65 rfl ?_
            refine v_w (xW S u0 T u1 K u2 (fdT tb tl b m (k + 1)) (tl + (k + 1)) ni ns ne nk nv wi si nu fn kp) (by rw [fdT, show m - 1 - k = j by omega]; rfl) ?_
            exact ih j (k + 1) (by omega) (by omega)
      exact L41 (m + 1) m 0 (by omega) (by omega)
    · have hC : ¬ C22 tl (nI m) := by have := Nat.not_le.mp (fun z => c27 ((nI_leI (a := tl) (b := 120 - m) (by omega) (by omega)).mpr z)); show ¬ (_ + _ ≤ _); omega
      refine v_aload_n (pc := 30) 0 g dX4_feed_30 rfl rfl ?_
      refine v_ldc (pc := 31) g dX4_feed_31 co_X4_103 ?_
      refine v_cVd (pc := 33) g dX4_feed_33 lk_X4_64 (c_X4_tell 1 (-1000000002) (by decide) (by decide)) (Nat.le_of_ble_eq_true rfl) rfl rfl rfl rfl (Nat.le_of_ble_eq_true rfl) ?_
      exact v_iret (pc := 36) g hret dX4_feed_36 (⟨so_i (by unfold r_22; rw [if_pos c6, if_neg hC]), by unfold t_22 l_22 f_22; rw [if_neg (fun z => hC z.2), if_neg (fun z => hC z.2), if_pos c6, if_neg hC]⟩)
  · refine v_aload_n (pc := 9) 0 g dX4_feed_9 rfl rfl ?_
    refine v_ldc (pc := 10) g dX4_feed_10 co_X4_63 ?_
    refine v_cVd (pc := 12) g dX4_feed_12 lk_X4_64 (c_X4_tell 0 (-1000000001) (by decide) (by decide)) (Nat.le_of_ble_eq_true rfl) rfl rfl rfl rfl (Nat.le_of_ble_eq_true rfl) ?_
    exact v_iret (pc := 15) g hret dX4_feed_15 (⟨so_i (by unfold r_22; rw [if_neg c6]), by unfold t_22 l_22 f_22; rw [if_neg (fun z => c6 z.1), if_neg (fun z => c6 z.1), if_neg c6]⟩)
set_option maxRecDepth 20000 in
set_option maxHeartbeats 2000000 in
theorem c_X4_sheet {S : St} {u0 : Int32} {T : St} {u1 : Int32} {K : St} {u2 : Int32} {tb : Nat → Int32} {tl : Nat} {ni : Int32} {ns : Int32} {ne : Int32} {nk : Int32} {nv : Int32} {wi : Nat → Int32} {si : Nat → Int32} {nu : Nat → Int64} {fn : Nat → Int32} {kp : Int32} (s b n : Int32) : RunD 2 yX4_sheet cX4_sheet 5 (some .int) [.ref 0, .int s, .int b, .int n] (xW S u0 T u1 K u2 tb tl ni ns ne nk nv wi si nu fn kp) (some (.int (r_25 s b n))) (xW S u0 T u1 K u2 tb tl ni ns ne nk nv (w_25 wi s b n) (z_25 si s b n) (q_25 nu s b n) (f_25 fn s b n) kp) := by
  refine Runs.of (by decide) (Nat.le_of_ble_eq_true rfl) rfl ?_
  intro X g hret hnL
  refine v_iload_n (pc := 0) 1 g dX4_sheet_0 rfl rfl ?_
  refine v_cSd (pc := 1) g dX4_sheet_1 lk_X4_207 ((c_X4_isSheet _).any rfl rfl _) (Nat.le_of_ble_eq_true rfl) rfl rfl (Nat.le_of_ble_eq_true rfl) ?_
  refine v_ifb_eq (pc := 4) 14 g dX4_sheet_4 rfl (fun c4 => ?_) (fun c4 => ?_)
  · have hC : ¬ C25 s b := by first | exact fun z => c4 z.1 | exact fun z => c11 z.2
    refine v_aload_n (pc := 14) 0 g dX4_sheet_14 rfl rfl ?_
    refine v_ldc (pc := 15) g dX4_sheet_15 co_X4_63 ?_
    refine v_cVd (pc := 17) g dX4_sheet_17 lk_X4_64 (c_X4_tell 0 (-1000000001) (by decide) (by decide)) (Nat.le_of_ble_eq_true rfl) rfl rfl rfl rfl (Nat.le_of_ble_eq_true rfl) ?_
    exact v_iret (pc := 20) g hret dX4_sheet_20 (⟨so_i (by unfold r_25; rw [if_neg hC]), by unfold w_25 z_25 q_25 f_25; rw [if_neg (fun z => hC z.1), if_neg (fun z => hC z.1), if_neg (fun z => hC z.1), if_neg hC]⟩)
  · refine v_iload_n (pc := 7) 2 g dX4_sheet_7 rfl rfl ?_
    refine v_cSd (pc := 8) g dX4_sheet_8 lk_X4_210 ((c_X4_isWidth _).any rfl rfl _) (Nat.le_of_ble_eq_true rfl) rfl rfl (Nat.le_of_ble_eq_true rfl) ?_
    refine v_ifb_ne (pc := 11) 21 g dX4_sheet_11 rfl (fun c11 => ?_) (fun c11 => ?_)
    · have hC : C25 s b := ⟨c4, c11⟩
      refine v_iload_n (pc := 21) 3 g dX4_sheet_21 rfl rfl ?_
      refine v_if_ge (pc := 22) 32 g dX4_sheet_22 rfl (fun c22 => ?_) (fun c22 => ?_)
      · have e22 : ¬ n.toInt < 0 := by have := i_le.mp c22; have h0 : (0 : Int32).toInt = 0 := rfl; omega
        refine v_iload_n (pc := 32) 3 g dX4_sheet_32 rfl rfl ?_
        refine v_bipush (pc := 33) (v := 40) g dX4_sheet_33 (by decide) ?_
        refine v_icmp_le (pc := 35) 45 g dX4_sheet_35 rfl (fun c35 => ?_) (fun c35 => ?_)
        · have e35 : ¬ 40 < n.toInt := by have := i_le.mp c35; have h0 : (40 : Int32).toInt = 40 := rfl; omega
          have hD : D25 s b n := ⟨hC, by omega, by omega⟩
          obtain ⟨z, hz, rfl⟩ := c4.nat (m := 3) (by omega)
          have ez : (nI z).toNatClampNeg = z := nI_clamp (by omega)
          refine v_iload_n (pc := 45) 2 g dX4_sheet_45 rfl rfl ?_
          refine v_if_ne (pc := 46) 53 g dX4_sheet_46 rfl (fun c46 => ?_) (fun c46 => ?_)
          · refine v_iload_n (pc := 53) 3 g dX4_sheet_53 rfl rfl ?_
            refine v_stE [.int (n_25 b n)] (by unfold n_25; first | rw [if_pos c46] | rw [if_neg c46]) ?_
            refine v_istore (pc := 54) _ g dX4_sheet_54 (Nat.le_of_ble_eq_true rfl) hnL.symm rfl ?_
            refine v_aload_n (pc := 56) 0 g dX4_sheet_56 rfl rfl ?_
            refine v_get (pc := 57) g dX4_sheet_57 fl_X4_39 rfl rfl ?_
            refine v_iload_n (pc := 60) 1 g dX4_sheet_60 rfl rfl ?_
            refine v_iload_n (pc := 61) 2 g dX4_sheet_61 rfl rfl ?_
            refine v_iload (pc := 62) g dX4_sheet_62 rfl ?_
            refine v_cVd (pc := 64) g dX4_sheet_64 lk_X4_214 (xh_lay z b _ (by omega)) (Nat.le_of_ble_eq_true rfl) rfl rfl rfl rfl (Nat.le_of_ble_eq_true rfl) ?_
            refine v_iload (pc := 67) g dX4_sheet_67 rfl ?_
            exact v_iret (pc := 69) g hret dX4_sheet_69 (⟨so_i (by unfold r_25; rw [if_pos hC, if_neg e22, if_neg e35]), by unfold w_25 z_25 q_25 f_25; rw [if_pos hD, if_pos hD, if_pos hD, if_pos hC, if_neg e22, if_neg e35, ez]⟩)
          · refine v_iconst (pc := 49) (v := 0) g dX4_sheet_49 (by decide) ?_
            refine v_goto (pc := 50) 54 g dX4_sheet_50 rfl ?_
            refine v_stE [.int (n_25 b n)] (by unfold n_25; first | rw [if_pos c46] | rw [if_neg c46]) ?_
            refine v_istore (pc := 54) _ g dX4_sheet_54 (Nat.le_of_ble_eq_true rfl) hnL.symm rfl ?_
            refine v_aload_n (pc := 56) 0 g dX4_sheet_56 rfl rfl ?_
            refine v_get (pc := 57) g dX4_sheet_57 fl_X4_39 rfl rfl ?_
            refine v_iload_n (pc := 60) 1 g dX4_sheet_60 rfl rfl ?_
            refine v_iload_n (pc := 61) 2 g dX4_sheet_61 rfl rfl ?_
            refine v_iload (pc := 62) g dX4_sheet_62 rfl ?_
            refine v_cVd (pc := 64) g dX4_sheet_64 lk_X4_214 (xh_lay z b _ (by omega)) (Nat.le_of_ble_eq_true rfl) rfl rfl rfl rfl (Nat.le_of_ble_eq_true rfl) ?_
            refine v_iload (pc := 67) g dX4_sheet_67 rfl ?_
            exact v_iret (pc := 69) g hret dX4_sheet_69 (⟨so_i (by unfold r_25; rw [if_pos hC, if_neg e22, if_neg e35]), by unfold w_25 z_25 q_25 f_25; rw [if_pos hD, if_pos hD, if_pos hD, if_pos hC, if_neg e22, if_neg e35, ez]⟩)
        · have e35 : 40 < n.toInt := by have := i_lt.mp (Int32.not_le.mp c35); have h0 : (40 : Int32).toInt = 40 := rfl; omega
          refine v_aload_n (pc := 38) 0 g dX4_sheet_38 rfl rfl ?_
          refine v_ldc (pc := 39) g dX4_sheet_39 co_X4_63 ?_
          refine v_cVd (pc := 41) g dX4_sheet_41 lk_X4_64 (c_X4_tell 0 (-1000000001) (by decide) (by decide)) (Nat.le_of_ble_eq_true rfl) rfl rfl rfl rfl (Nat.le_of_ble_eq_true rfl) ?_
          exact v_iret (pc := 44) g hret dX4_sheet_44 (⟨so_i (by unfold r_25; rw [if_pos hC, if_neg e22, if_pos e35]), by unfold w_25 z_25 q_25 f_25; rw [if_neg (fun z => by have := z.2; omega), if_neg (fun z => by have := z.2; omega), if_neg (fun z => by have := z.2; omega), if_pos hC, if_neg e22, if_pos e35]⟩)
      · have e22 : n.toInt < 0 := by have := i_lt.mp (Int32.not_le.mp c22); have h0 : (0 : Int32).toInt = 0 := rfl; omega
        refine v_aload_n (pc := 25) 0 g dX4_sheet_25 rfl rfl ?_
        refine v_ldc (pc := 26) g dX4_sheet_26 co_X4_213 ?_
        refine v_cVd (pc := 28) g dX4_sheet_28 lk_X4_64 (c_X4_tell 6 (-1000000007) (by decide) (by decide)) (Nat.le_of_ble_eq_true rfl) rfl rfl rfl rfl (Nat.le_of_ble_eq_true rfl) ?_
        exact v_iret (pc := 31) g hret dX4_sheet_31 (⟨so_i (by unfold r_25; rw [if_pos hC, if_pos e22]), by unfold w_25 z_25 q_25 f_25; rw [if_neg (fun z => by have := z.2; omega), if_neg (fun z => by have := z.2; omega), if_neg (fun z => by have := z.2; omega), if_pos hC, if_pos e22]⟩)
    · have hC : ¬ C25 s b := by first | exact fun z => c4 z.1 | exact fun z => c11 z.2
      refine v_aload_n (pc := 14) 0 g dX4_sheet_14 rfl rfl ?_
      refine v_ldc (pc := 15) g dX4_sheet_15 co_X4_63 ?_
      refine v_cVd (pc := 17) g dX4_sheet_17 lk_X4_64 (c_X4_tell 0 (-1000000001) (by decide) (by decide)) (Nat.le_of_ble_eq_true rfl) rfl rfl rfl rfl (Nat.le_of_ble_eq_true rfl) ?_
      exact v_iret (pc := 20) g hret dX4_sheet_20 (⟨so_i (by unfold r_25; rw [if_neg hC]), by unfold w_25 z_25 q_25 f_25; rw [if_neg (fun z => hC z.1), if_neg (fun z => hC z.1), if_neg (fun z => hC z.1), if_neg hC]⟩)
set_option maxRecDepth 20000 in
set_option maxHeartbeats 2000000 in
theorem c_X4_write {S : St} {u0 : Int32} {T : St} {u1 : Int32} {K : St} {u2 : Int32} {tb : Nat → Int32} {tl : Nat} {ni : Int32} {ns : Int32} {ne : Int32} {nk : Int32} {nv : Int32} {wi : Nat → Int32} {si : Nat → Int32} {nu : Nat → Int64} {fn : Nat → Int32} {kp : Int32} (s i : Int32) (v : Int64) (hZ : ∀ k, inR (si k) 0 40) : RunD 2 yX4_write cX4_write 7 (some .long) [.ref 0, .int s, .int i, .long v] (xW S u0 T u1 K u2 tb tl ni ns ne nk nv wi si nu fn kp) (some (.long (r_26 wi si nu s i))) (xW S u0 T u1 K u2 tb tl ni ns ne nk nv wi si (q_26 wi si nu s i v) (f_26 wi si fn s i) kp) := by
  refine Runs.of (by decide) (Nat.le_of_ble_eq_true rfl) rfl ?_
  intro X g hret hnL
  refine v_iload_n (pc := 0) 1 g dX4_write_0 rfl rfl ?_
  refine v_cSd (pc := 1) g dX4_write_1 lk_X4_207 ((c_X4_isSheet _).any rfl rfl _) (Nat.le_of_ble_eq_true rfl) rfl rfl (Nat.le_of_ble_eq_true rfl) ?_
  refine v_ifb_ne (pc := 4) 15 g dX4_write_4 rfl (fun c4 => ?_) (fun c4 => ?_)
  · obtain ⟨z, hz, rfl⟩ := c4.nat (m := 3) (by omega)
    have ez : (nI z).toNatClampNeg = z := nI_clamp (by omega)
    refine v_aload_n (pc := 15) 0 g dX4_write_15 rfl rfl ?_
    refine v_get (pc := 16) g dX4_write_16 fl_X4_39 rfl rfl ?_
    refine v_iload_n (pc := 19) 1 g dX4_write_19 rfl rfl ?_
    refine v_cVd (pc := 20) g dX4_write_20 lk_X4_218 (xh_isMissing z (by omega)) (Nat.le_of_ble_eq_true rfl) rfl rfl rfl rfl (Nat.le_of_ble_eq_true rfl) ?_
    refine v_ifb_eq (pc := 23) 34 g dX4_write_23 rfl (fun c23 => ?_) (fun c23 => ?_)
    · refine v_iload_n (pc := 34) 2 g dX4_write_34 rfl rfl ?_
      refine v_iconst (pc := 35) (v := 0) g dX4_write_35 (by decide) ?_
      refine v_aload_n (pc := 36) 0 g dX4_write_36 rfl rfl ?_
      refine v_get (pc := 37) g dX4_write_37 fl_X4_39 rfl rfl ?_
      refine v_get (pc := 40) g dX4_write_40 fl_X4_222 rfl rfl ?_
      refine v_iload_n (pc := 43) 1 g dX4_write_43 rfl rfl ?_
      refine v_ialdN (pc := 44) _ g dX4_write_44 rfl rfl (by omega) (Nat.le_of_ble_eq_true rfl) ?_
      refine v_iconst (pc := 45) (v := 1) g dX4_write_45 (by decide) ?_
      refine v_isub (pc := 46) g dX4_write_46 ?_
      refine v_cSd (pc := 47) g dX4_write_47 lk_X4_55 ((c_X4_within _ _ _ 0 ((si z).toInt - 1) rfl (by obtain ⟨a, ha, ea⟩ := (hZ z).nat (m := 40) (by omega); rw [ea]; show (nI a - nI 1).toInt = _; rw [pk_sub_toInt (by omega) (by omega), nI_toInt (by omega)]; rfl)).any rfl rfl _) (Nat.le_of_ble_eq_true rfl) rfl rfl (Nat.le_of_ble_eq_true rfl) ?_
      refine v_ifb_ne (pc := 50) 61 g dX4_write_50 rfl (fun c50 => ?_) (fun c50 => ?_)
      · obtain ⟨j, hj, rfl⟩ := (show inR i 0 ((39 : Nat) : Int) from ⟨c50.1, by have := c50.2; have := (hZ z).2; omega⟩).nat (by omega)
        have ej : (nI j).toNatClampNeg = j := nI_clamp (by omega)
        refine v_aload_n (pc := 61) 0 g dX4_write_61 rfl rfl ?_
        refine v_get (pc := 62) g dX4_write_62 fl_X4_39 rfl rfl ?_
        refine v_iload_n (pc := 65) 1 g dX4_write_65 rfl rfl ?_
        refine v_iload_n (pc := 66) 2 g dX4_write_66 rfl rfl ?_
        refine v_cVd (pc := 67) g dX4_write_67 lk_X4_225 (xh_number z j (by omega) (by omega)) (Nat.le_of_ble_eq_true rfl) rfl rfl rfl rfl (Nat.le_of_ble_eq_true rfl) ?_
        refine v_lstore (pc := 70) _ g dX4_write_70 (Nat.le_of_ble_eq_true rfl) hnL.symm rfl ?_
        refine v_aload_n (pc := 72) 0 g dX4_write_72 rfl rfl ?_
        refine v_get (pc := 73) g dX4_write_73 fl_X4_39 rfl rfl ?_
        refine v_iload_n (pc := 76) 1 g dX4_write_76 rfl rfl ?_
        refine v_iload_n (pc := 77) 2 g dX4_write_77 rfl rfl ?_
        refine v_lload_n (pc := 78) 3 g dX4_write_78 rfl rfl ?_
        refine v_cVd (pc := 79) g dX4_write_79 lk_X4_229 (xh_put z j v (by omega) (by omega)) (Nat.le_of_ble_eq_true rfl) rfl rfl rfl rfl (Nat.le_of_ble_eq_true rfl) ?_
        refine v_lload (pc := 82) g dX4_write_82 rfl ?_
        exact v_lret (pc := 84) g hret dX4_write_84 (⟨so_l (by unfold r_26; rw [if_pos c4, ez]; unfold r26k; rw [if_neg c23, if_pos c50, ej]; try rfl), by unfold q_26 f_26; rw [if_pos c4, if_pos c4, ez]; unfold q26k f26k; rw [if_neg c23, if_pos c50, ej, if_neg c23, if_pos c50]; try rfl⟩)
      · refine v_aload_n (pc := 53) 0 g dX4_write_53 rfl rfl ?_
        refine v_ldc (pc := 54) g dX4_write_54 co_X4_63 ?_
        refine v_cVd (pc := 56) g dX4_write_56 lk_X4_64 (c_X4_tell 0 (-1000000001) (by decide) (by decide)) (Nat.le_of_ble_eq_true rfl) rfl rfl rfl rfl (Nat.le_of_ble_eq_true rfl) ?_
        refine v_i2l (pc := 59) g dX4_write_59 ?_
        exact v_lret (pc := 60) g hret dX4_write_60 (⟨so_l (by unfold r_26; rw [if_pos c4, ez]; unfold r26k; rw [if_neg c23, if_neg c50]; try rfl), by unfold q_26 f_26; rw [if_pos c4, if_pos c4, ez]; unfold q26k f26k; rw [if_neg c23, if_neg c50, if_neg c23, if_neg c50]; try rfl⟩)
    · refine v_aload_n (pc := 26) 0 g dX4_write_26 rfl rfl ?_
      refine v_ldc (pc := 27) g dX4_write_27 co_X4_221 ?_
      refine v_cVd (pc := 29) g dX4_write_29 lk_X4_64 (c_X4_tell 5 (-1000000006) (by decide) (by decide)) (Nat.le_of_ble_eq_true rfl) rfl rfl rfl rfl (Nat.le_of_ble_eq_true rfl) ?_
      refine v_i2l (pc := 32) g dX4_write_32 ?_
      exact v_lret (pc := 33) g hret dX4_write_33 (⟨so_l (by unfold r_26; rw [if_pos c4, ez]; unfold r26k; rw [if_pos c23]; try rfl), by unfold q_26 f_26; rw [if_pos c4, if_pos c4, ez]; unfold q26k f26k; rw [if_pos c23, if_pos c23]; try rfl⟩)
  · refine v_aload_n (pc := 7) 0 g dX4_write_7 rfl rfl ?_
    refine v_ldc (pc := 8) g dX4_write_8 co_X4_63 ?_
    refine v_cVd (pc := 10) g dX4_write_10 lk_X4_64 (c_X4_tell 0 (-1000000001) (by decide) (by decide)) (Nat.le_of_ble_eq_true rfl) rfl rfl rfl rfl (Nat.le_of_ble_eq_true rfl) ?_
    refine v_i2l (pc := 13) g dX4_write_13 ?_
    exact v_lret (pc := 14) g hret dX4_write_14 (⟨so_l (by unfold r_26; rw [if_neg c4]; rfl), by unfold q_26 f_26; rw [if_neg c4, if_neg c4]⟩)
set_option maxRecDepth 20000 in
set_option maxHeartbeats 2000000 in
theorem c_X4_copy {S : St} {u0 : Int32} {T : St} {u1 : Int32} {K : St} {u2 : Int32} {tb : Nat → Int32} {tl : Nat} {ni : Int32} {ns : Int32} {ne : Int32} {nk : Int32} {nv : Int32} {wi : Nat → Int32} {si : Nat → Int32} {nu : Nat → Int64} {fn : Nat → Int32} {kp : Int32} (s f t o n : Int32) (hZ : ∀ k, inR (si k) 0 40) : RunD 2 yX4_copy cX4_copy 6 (some .int) [.ref 0, .int s, .int f, .int t, .int o, .int n] (xW S u0 T u1 K u2 tb tl ni ns ne nk nv wi si nu fn kp) (some (.int (r_27 wi si s f t o n))) (xW S u0 T u1 K u2 tb tl ni ns ne nk nv wi si (q_27 wi si nu s f t o n) (f_27 wi si fn s f t o n) kp) := by
  refine Runs.of (by decide) (Nat.le_of_ble_eq_true rfl) rfl ?_
  intro X g hret hnL
  refine v_iload_n (pc := 0) 1 g dX4_copy_0 rfl rfl ?_
  refine v_cSd (pc := 1) g dX4_copy_1 lk_X4_207 ((c_X4_isSheet _).any rfl rfl _) (Nat.le_of_ble_eq_true rfl) rfl rfl (Nat.le_of_ble_eq_true rfl) ?_
  refine v_ifb_eq (pc := 4) 14 g dX4_copy_4 rfl (fun c4 => ?_) (fun c4 => ?_)
  · have hC : ¬ C27 s t := by first | exact fun z => c4 z.1 | exact fun z => c11 z.2
    refine v_aload_n (pc := 14) 0 g dX4_copy_14 rfl rfl ?_
    refine v_ldc (pc := 15) g dX4_copy_15 co_X4_63 ?_
    refine v_cVd (pc := 17) g dX4_copy_17 lk_X4_64 (c_X4_tell 0 (-1000000001) (by decide) (by decide)) (Nat.le_of_ble_eq_true rfl) rfl rfl rfl rfl (Nat.le_of_ble_eq_true rfl) ?_
    exact v_iret (pc := 20) g hret dX4_copy_20 (⟨so_i (by unfold r_27; rw [if_neg hC]), by unfold q_27 f_27; rw [if_neg hC, if_neg hC]⟩)
  · refine v_iload_n (pc := 7) 3 g dX4_copy_7 rfl rfl ?_
    refine v_cSd (pc := 8) g dX4_copy_8 lk_X4_207 ((c_X4_isSheet _).any rfl rfl _) (Nat.le_of_ble_eq_true rfl) rfl rfl (Nat.le_of_ble_eq_true rfl) ?_
    refine v_ifb_ne (pc := 11) 21 g dX4_copy_11 rfl (fun c11 => ?_) (fun c11 => ?_)
    · have hC : C27 s t := ⟨c4, c11⟩
      obtain ⟨z, hz, rfl⟩ := c4.nat (m := 3) (by omega)
      have ez : (nI z).toNatClampNeg = z := nI_clamp (by omega)
      obtain ⟨y, hy, rfl⟩ := c11.nat (m := 3) (by omega)
      have ey : (nI y).toNatClampNeg = y := nI_clamp (by omega)
      refine v_aload_n (pc := 21) 0 g dX4_copy_21 rfl rfl ?_
      refine v_get (pc := 22) g dX4_copy_22 fl_X4_39 rfl rfl ?_
      refine v_iload_n (pc := 25) 1 g dX4_copy_25 rfl rfl ?_
      refine v_cVd (pc := 26) g dX4_copy_26 lk_X4_218 (xh_isMissing z (by omega)) (Nat.le_of_ble_eq_true rfl) rfl rfl rfl rfl (Nat.le_of_ble_eq_true rfl) ?_
      refine v_ifb_ne (pc := 29) 43 g dX4_copy_29 rfl (fun c29 => ?_) (fun c29 => ?_)
      · have hM : M27 wi z y := by first | exact Or.inl c29 | exact Or.inr c40
        refine v_aload_n (pc := 43) 0 g dX4_copy_43 rfl rfl ?_
        refine v_ldc (pc := 44) g dX4_copy_44 co_X4_221 ?_
        refine v_cVd (pc := 46) g dX4_copy_46 lk_X4_64 (c_X4_tell 5 (-1000000006) (by decide) (by decide)) (Nat.le_of_ble_eq_true rfl) rfl rfl rfl rfl (Nat.le_of_ble_eq_true rfl) ?_
        exact v_iret (pc := 49) g hret dX4_copy_49 (⟨so_i (by unfold r_27; rw [if_pos hC, ez, ey]; unfold r27k; rw [if_pos hM]), by unfold q_27 f_27; rw [if_pos hC, if_pos hC, ez, ey]; unfold q27k f27k; rw [if_pos hM, if_pos hM]⟩)
      · refine v_aload_n (pc := 32) 0 g dX4_copy_32 rfl rfl ?_
        refine v_get (pc := 33) g dX4_copy_33 fl_X4_39 rfl rfl ?_
        refine v_iload_n (pc := 36) 3 g dX4_copy_36 rfl rfl ?_
        refine v_cVd (pc := 37) g dX4_copy_37 lk_X4_218 (xh_isMissing y (by omega)) (Nat.le_of_ble_eq_true rfl) rfl rfl rfl rfl (Nat.le_of_ble_eq_true rfl) ?_
        refine v_ifb_eq (pc := 40) 50 g dX4_copy_40 rfl (fun c40 => ?_) (fun c40 => ?_)
        · have hM : ¬ M27 wi z y := fun q => q.elim c29 c40
          refine v_aload_n (pc := 50) 0 g dX4_copy_50 rfl rfl ?_
          refine v_get (pc := 51) g dX4_copy_51 fl_X4_39 rfl rfl ?_
          refine v_get (pc := 54) g dX4_copy_54 fl_X4_233 rfl rfl ?_
          refine v_iload_n (pc := 57) 1 g dX4_copy_57 rfl rfl ?_
          refine v_ialdN (pc := 58) _ g dX4_copy_58 rfl rfl (by omega) (Nat.le_of_ble_eq_true rfl) ?_
          refine v_aload_n (pc := 59) 0 g dX4_copy_59 rfl rfl ?_
          refine v_get (pc := 60) g dX4_copy_60 fl_X4_39 rfl rfl ?_
          refine v_get (pc := 63) g dX4_copy_63 fl_X4_233 rfl rfl ?_
          refine v_iload_n (pc := 66) 3 g dX4_copy_66 rfl rfl ?_
          refine v_ialdN (pc := 67) _ g dX4_copy_67 rfl rfl (by omega) (Nat.le_of_ble_eq_true rfl) ?_
          refine v_icmp_eq (pc := 68) 78 g dX4_copy_68 rfl (fun c68 => ?_) (fun c68 => ?_)
          · refine v_aload_n (pc := 78) 0 g dX4_copy_78 rfl rfl ?_
            refine v_get (pc := 79) g dX4_copy_79 fl_X4_39 rfl rfl ?_
            refine v_iload_n (pc := 82) 1 g dX4_copy_82 rfl rfl ?_
            refine v_iload_n (pc := 83) 2 g dX4_copy_83 rfl rfl ?_
            refine v_iload (pc := 84) g dX4_copy_84 rfl ?_
            refine v_cVd (pc := 86) g dX4_copy_86 lk_X4_236 (xh_hasRun z f n (by omega) (hZ z)) (Nat.le_of_ble_eq_true rfl) rfl rfl rfl rfl (Nat.le_of_ble_eq_true rfl) ?_
            refine v_ifb_eq (pc := 89) 107 g dX4_copy_89 rfl (fun c89 => ?_) (fun c89 => ?_)
            · have hH : ¬ H27 si z y f o n := by first | exact fun q => c89 q.1 | exact fun q => c104 q.2
              refine v_aload_n (pc := 107) 0 g dX4_copy_107 rfl rfl ?_
              refine v_ldc (pc := 108) g dX4_copy_108 co_X4_63 ?_
              refine v_cVd (pc := 110) g dX4_copy_110 lk_X4_64 (c_X4_tell 0 (-1000000001) (by decide) (by decide)) (Nat.le_of_ble_eq_true rfl) rfl rfl rfl rfl (Nat.le_of_ble_eq_true rfl) ?_
              exact v_iret (pc := 113) g hret dX4_copy_113 (⟨so_i (by unfold r_27; rw [if_pos hC, ez, ey]; unfold r27k; rw [if_neg hM, if_pos c68, if_neg hH]), by unfold q_27 f_27; rw [if_pos hC, if_pos hC, ez, ey]; unfold q27k f27k; rw [if_neg hM, if_pos c68, if_neg hH, if_neg hM, if_pos c68, if_neg hH]⟩)
            · refine v_aload_n (pc := 92) 0 g dX4_copy_92 rfl rfl ?_
              refine v_get (pc := 93) g dX4_copy_93 fl_X4_39 rfl rfl ?_
              refine v_iload_n (pc := 96) 3 g dX4_copy_96 rfl rfl ?_
              refine v_iload (pc := 97) g dX4_copy_97 rfl ?_
              refine v_iload (pc := 99) g dX4_copy_99 rfl ?_
              refine v_cVd (pc := 101) g dX4_copy_101 lk_X4_236 (xh_hasRun y o n (by omega) (hZ y)) (Nat.le_of_ble_eq_true rfl) rfl rfl rfl rfl (Nat.le_of_ble_eq_true rfl) ?_
              refine v_ifb_ne (pc := 104) 114 g dX4_copy_104 rfl (fun c104 => ?_) (fun c104 => ?_)
              · have hH : H27 si z y f o n := ⟨c89, c104⟩
                have hZz := (hZ z).2
                have hZy := (hZ y).2
                obtain ⟨a1, a2, a3, a4⟩ := c89
                obtain ⟨b1, b2, b3, b4⟩ := c104
                obtain ⟨f, hf, rfl⟩ := (show inR f 0 ((40 : Nat) : Int) from ⟨a1, by omega⟩).nat (by omega)
                obtain ⟨o, ho, rfl⟩ := (show inR o 0 ((40 : Nat) : Int) from ⟨b1, by omega⟩).nat (by omega)
                obtain ⟨n, hn, rfl⟩ := (show inR n 0 ((40 : Nat) : Int) from ⟨a2, by omega⟩).nat (by omega)
                rw [nI_toInt (by omega), nI_toInt (by omega)] at a4
                rw [nI_toInt (by omega), nI_toInt (by omega)] at b4
                refine v_aload_n (pc := 114) 0 g dX4_copy_114 rfl rfl ?_
                refine v_get (pc := 115) g dX4_copy_115 fl_X4_39 rfl rfl ?_
                refine v_iload_n (pc := 118) 1 g dX4_copy_118 rfl rfl ?_
                refine v_iload_n (pc := 119) 2 g dX4_copy_119 rfl rfl ?_
                refine v_iload_n (pc := 120) 3 g dX4_copy_120 rfl rfl ?_
                refine v_iload (pc := 121) g dX4_copy_121 rfl ?_
                refine v_iload (pc := 123) g dX4_copy_123 rfl ?_
                refine v_cVd (pc := 125) g dX4_copy_125 lk_X4_239 (xh_move z f y o n (by omega) (by omega) (by omega) (by omega)) (Nat.le_of_ble_eq_true rfl) rfl rfl rfl rfl (Nat.le_of_ble_eq_true rfl) ?_
                refine v_iload (pc := 128) g dX4_copy_128 rfl ?_
                exact v_iret (pc := 130) g hret dX4_copy_130 (⟨so_i (by unfold r_27; rw [if_pos hC, ez, ey]; unfold r27k; rw [if_neg hM, if_pos c68, if_pos hH]), by unfold q_27 f_27; rw [if_pos hC, if_pos hC, ez, ey]; unfold q27k f27k; rw [if_neg hM, if_pos c68, if_pos hH, if_neg hM, if_pos c68, if_pos hH, nI_clamp (by omega), nI_clamp (by omega), nI_clamp (by omega)]⟩)
              · have hH : ¬ H27 si z y f o n := by first | exact fun q => c89 q.1 | exact fun q => c104 q.2
                refine v_aload_n (pc := 107) 0 g dX4_copy_107 rfl rfl ?_
                refine v_ldc (pc := 108) g dX4_copy_108 co_X4_63 ?_
                refine v_cVd (pc := 110) g dX4_copy_110 lk_X4_64 (c_X4_tell 0 (-1000000001) (by decide) (by decide)) (Nat.le_of_ble_eq_true rfl) rfl rfl rfl rfl (Nat.le_of_ble_eq_true rfl) ?_
                exact v_iret (pc := 113) g hret dX4_copy_113 (⟨so_i (by unfold r_27; rw [if_pos hC, ez, ey]; unfold r27k; rw [if_neg hM, if_pos c68, if_neg hH]), by unfold q_27 f_27; rw [if_pos hC, if_pos hC, ez, ey]; unfold q27k f27k; rw [if_neg hM, if_pos c68, if_neg hH, if_neg hM, if_pos c68, if_neg hH]⟩)
          · refine v_aload_n (pc := 71) 0 g dX4_copy_71 rfl rfl ?_
            refine v_ldc (pc := 72) g dX4_copy_72 co_X4_151 ?_
            refine v_cVd (pc := 74) g dX4_copy_74 lk_X4_64 (c_X4_tell 2 (-1000000003) (by decide) (by decide)) (Nat.le_of_ble_eq_true rfl) rfl rfl rfl rfl (Nat.le_of_ble_eq_true rfl) ?_
            exact v_iret (pc := 77) g hret dX4_copy_77 (⟨so_i (by unfold r_27; rw [if_pos hC, ez, ey]; unfold r27k; rw [if_neg hM, if_neg c68]), by unfold q_27 f_27; rw [if_pos hC, if_pos hC, ez, ey]; unfold q27k f27k; rw [if_neg hM, if_neg c68, if_neg hM, if_neg c68]⟩)
        · have hM : M27 wi z y := by first | exact Or.inl c29 | exact Or.inr c40
          refine v_aload_n (pc := 43) 0 g dX4_copy_43 rfl rfl ?_
          refine v_ldc (pc := 44) g dX4_copy_44 co_X4_221 ?_
          refine v_cVd (pc := 46) g dX4_copy_46 lk_X4_64 (c_X4_tell 5 (-1000000006) (by decide) (by decide)) (Nat.le_of_ble_eq_true rfl) rfl rfl rfl rfl (Nat.le_of_ble_eq_true rfl) ?_
          exact v_iret (pc := 49) g hret dX4_copy_49 (⟨so_i (by unfold r_27; rw [if_pos hC, ez, ey]; unfold r27k; rw [if_pos hM]), by unfold q_27 f_27; rw [if_pos hC, if_pos hC, ez, ey]; unfold q27k f27k; rw [if_pos hM, if_pos hM]⟩)
    · have hC : ¬ C27 s t := by first | exact fun z => c4 z.1 | exact fun z => c11 z.2
      refine v_aload_n (pc := 14) 0 g dX4_copy_14 rfl rfl ?_
      refine v_ldc (pc := 15) g dX4_copy_15 co_X4_63 ?_
      refine v_cVd (pc := 17) g dX4_copy_17 lk_X4_64 (c_X4_tell 0 (-1000000001) (by decide) (by decide)) (Nat.le_of_ble_eq_true rfl) rfl rfl rfl rfl (Nat.le_of_ble_eq_true rfl) ?_
      exact v_iret (pc := 20) g hret dX4_copy_20 (⟨so_i (by unfold r_27; rw [if_neg hC]), by unfold q_27 f_27; rw [if_neg hC, if_neg hC]⟩)
