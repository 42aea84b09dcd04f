/-! ===== the reference: its calls, VII: sheets ===== -/
theorem ix_sx (z : Nat) : (40 : Int32) * nI z = nI (40 * z) := by rw [show (40 : Int32) = nI 40 from rfl, pk_mul]
def bdS (bi : Nat → Int32) (s : Int32) : Int32 := if isS s then (if bi s.toNatClampNeg = 0 then -1000000006 else 0) else -1000000001
set_option maxRecDepth 20000 in
set_option maxHeartbeats 2000000 in
theorem c_X5_narrow (b : Int32) (v : Int64) : RunD 0 yX5_narrow cX5_narrow 3 (some .long) [.int b, .long v] ([]) (some (.long (cutJ v b))) ([]) := by
  refine Runs.of (by decide) (Nat.le_of_ble_eq_true rfl) rfl ?_
  intro X g hret hnL
  refine v_iload_n (pc := 0) 0 g dX5_narrow_0 rfl rfl ?_
  refine v_bipush (pc := 1) (v := 8) g dX5_narrow_1 (by decide) ?_
  refine v_icmp_ne (pc := 3) 16 g dX5_narrow_3 rfl (fun c3 => ?_) (fun c3 => ?_)
  · refine v_iload_n (pc := 16) 0 g dX5_narrow_16 rfl rfl ?_
    refine v_bipush (pc := 17) (v := 16) g dX5_narrow_17 (by decide) ?_
    refine v_icmp_ne (pc := 19) 32 g dX5_narrow_19 rfl (fun c19 => ?_) (fun c19 => ?_)
    · refine v_lload_n (pc := 32) 1 g dX5_narrow_32 rfl rfl ?_
      exact v_lret (pc := 33) g hret dX5_narrow_33 (⟨so_l (by unfold cutJ; simp only [i_eq, Int32.reduceToInt] at *; first | (rw [if_pos (by omega), cut8]; done) | (rw [if_neg (by omega), if_pos (by omega), cut16]; done) | (rw [if_neg (by omega), if_neg (by omega)]; done)), rfl⟩)
    · refine v_lload_n (pc := 22) 1 g dX5_narrow_22 rfl rfl ?_
      refine v_bipush (pc := 23) (v := 48) g dX5_narrow_23 (by decide) ?_
      refine v_lshl (pc := 25) g dX5_narrow_25 ?_
      refine v_bipush (pc := 26) (v := 48) g dX5_narrow_26 (by decide) ?_
      refine v_lshr (pc := 28) g dX5_narrow_28 ?_
      refine v_goto (pc := 29) 33 g dX5_narrow_29 rfl ?_
      exact v_lret (pc := 33) g hret dX5_narrow_33 (⟨so_l (by unfold cutJ; simp only [i_eq, Int32.reduceToInt] at *; first | (rw [if_pos (by omega), cut8]; done) | (rw [if_neg (by omega), if_pos (by omega), cut16]; done) | (rw [if_neg (by omega), if_neg (by omega)]; done)), rfl⟩)
  · refine v_lload_n (pc := 6) 1 g dX5_narrow_6 rfl rfl ?_
    refine v_bipush (pc := 7) (v := 56) g dX5_narrow_7 (by decide) ?_
    refine v_lshl (pc := 9) g dX5_narrow_9 ?_
    refine v_bipush (pc := 10) (v := 56) g dX5_narrow_10 (by decide) ?_
    refine v_lshr (pc := 12) g dX5_narrow_12 ?_
    refine v_goto (pc := 13) 33 g dX5_narrow_13 rfl ?_
    exact v_lret (pc := 33) g hret dX5_narrow_33 (⟨so_l (by unfold cutJ; simp only [i_eq, Int32.reduceToInt] at *; first | (rw [if_pos (by omega), cut8]; done) | (rw [if_neg (by omega), if_pos (by omega), cut16]; done) | (rw [if_neg (by omega), if_neg (by omega)]; done)), rfl⟩)
set_option maxRecDepth 20000 in
set_option maxHeartbeats 2000000 in
theorem c_X5_sheet (r : Nat → Int32) {fo : Nat → Int32} {of : Int32} {tr : Nat → Int32} {b1 : Nat → Int32} {ta : Nat → Int32} {tm : Nat} {so : Int32} {be : Int32} {te : Int32} {wo : Int64} {va : Int32} {gd : Int32} {bi : Nat → Int32} {si : Nat → Int32} {sh : Nat → Int64} {le : Nat → Int64} {im : Nat → Int32} {bf : Nat → Int32} {kp : Int32} (s b n : Int32) : RunD 2 yX5_sheet cX5_sheet 5 (some .int) [.ref 0, .int s, .int b, .int n] (mW r fo of tr b1 ta tm so be te wo va gd bi si sh le im bf kp) (some (.int (r_25 s b n))) (mW r (f_25 fo s b n) of tr b1 ta tm so be te wo va gd (w_25 bi s b n) (z_25 si s b n) (q_25 sh s b n) le im bf kp) := by
  refine Runs.of (by decide) (Nat.le_of_ble_eq_true rfl) rfl ?_
  intro X g hret hnL
  refine v_iload_n (pc := 0) 1 g dX5_sheet_0 rfl rfl ?_
  refine v_cSd (pc := 1) g dX5_sheet_1 lk_X5_263 ((c_X5_isSheet _).any rfl rfl _) (Nat.le_of_ble_eq_true rfl) rfl rfl (Nat.le_of_ble_eq_true rfl) ?_
  refine v_ifb_eq (pc := 4) 29 g dX5_sheet_4 rfl (fun c4 => ?_) (fun c4 => ?_)
  · have hC : ¬ C25 s b := by first | exact fun z => c4 z.1 | exact fun z => absurd z.2 (by simp only [i_eq, Int32.reduceToInt] at *; omega)
    refine v_aload_n (pc := 29) 0 g dX5_sheet_29 rfl rfl ?_
    refine v_ldc (pc := 30) g dX5_sheet_30 co_X5_44 ?_
    refine v_cVd (pc := 32) g dX5_sheet_32 lk_X5_81 (c_X5_finds _ 0 (-1000000001) (by decide) (by decide)) (Nat.le_of_ble_eq_true rfl) rfl rfl rfl rfl (Nat.le_of_ble_eq_true rfl) ?_
    exact v_iret (pc := 35) g hret dX5_sheet_35 (⟨so_i (by unfold r_25; rw [if_neg hC]), by unfold w_25 z_25 q_25 f_25; rw [if_neg hC, if_neg (fun z => hC z.1), if_neg (fun z => hC z.1), if_neg (fun z => hC z.1)]⟩)
  · refine v_iload_n (pc := 7) 2 g dX5_sheet_7 rfl rfl ?_
    refine v_if_eq (pc := 8) 36 g dX5_sheet_8 rfl (fun c8 => ?_) (fun c8 => ?_)
    · have hC : C25 s b := ⟨c4, (by simp only [i_eq, Int32.reduceToInt] at *; omega)⟩
      refine v_iload_n (pc := 36) 3 g dX5_sheet_36 rfl rfl ?_
      refine v_if_ge (pc := 37) 48 g dX5_sheet_37 rfl (fun c37 => ?_) (fun c37 => ?_)
      · have e22 : ¬ n.toInt < 0 := by have := i_le.mp c37; have h0 : (0 : Int32).toInt = 0 := rfl; omega
        refine v_iload_n (pc := 48) 3 g dX5_sheet_48 rfl rfl ?_
        refine v_bipush (pc := 49) (v := 40) g dX5_sheet_49 (by decide) ?_
        refine v_icmp_le (pc := 51) 61 g dX5_sheet_51 rfl (fun c51 => ?_) (fun c51 => ?_)
        · have e35 : ¬ 40 < n.toInt := by have := i_le.mp c51; have h0 : (40 : Int32).toInt = 40 := rfl; omega
          have hD : D25 s b n := ⟨hC, by omega, by omega⟩
          obtain ⟨z, hz, rfl⟩ := c4.nat (m := 3) (by omega)
          have ez : (nI z).toNatClampNeg = z := nI_clamp (by omega)
          refine v_aload_n (pc := 61) 0 g dX5_sheet_61 rfl rfl ?_
          refine v_get (pc := 62) g dX5_sheet_62 fl_X5_25 rfl rfl ?_
          refine v_iload_n (pc := 65) 1 g dX5_sheet_65 rfl rfl ?_
          refine v_iload_n (pc := 66) 2 g dX5_sheet_66 rfl rfl ?_
          refine v_iastN (pc := 67) _ _ g dX5_sheet_67 rfl rfl (by omega) (Nat.le_of_ble_eq_true rfl) rfl ?_
          refine v_aload_n (pc := 68) 0 g dX5_sheet_68 rfl rfl ?_
          refine v_get (pc := 69) g dX5_sheet_69 fl_X5_28 rfl rfl ?_
          refine v_iload_n (pc := 72) 1 g dX5_sheet_72 rfl rfl ?_
          refine v_iload_n (pc := 73) 2 g dX5_sheet_73 rfl rfl ?_
          refine v_if_ne (pc := 74) 81 g dX5_sheet_74 rfl (fun c74 => ?_) (fun c74 => ?_)
          · refine v_iload_n (pc := 81) 3 g dX5_sheet_81 rfl rfl ?_
            refine v_stE [.int (n_25 b n), .int (nI z), .ref 7] (by unfold n_25; first | (rw [if_pos c74]; done) | (rw [if_neg c74]; done)) ?_
            refine v_iastN (pc := 82) _ _ g dX5_sheet_82 rfl rfl (by omega) (Nat.le_of_ble_eq_true rfl) rfl ?_
            refine v_iconst (pc := 83) (v := 0) g dX5_sheet_83 (by decide) ?_
            refine v_istore (pc := 84) _ g dX5_sheet_84 (Nat.le_of_ble_eq_true rfl) hnL.symm rfl ?_
            have L86 : ∀ (fu : Nat) (k : Nat), k ≤ 40 → 40 - k < fu → V X 86 [some (.ref 0), some (.int (nI z)), some (.int b), some (.int n), some (.int (nI k))] [] (mW r fo of tr b1 ta tm so be te wo va gd (upd bi z b) (upd si z (n_25 b n)) (layK sh z k) le im bf kp) := by
              intro fu
              induction fu with
              | zero => intro k hk hm; exact absurd hm (Nat.not_lt_zero _)
              | succ fu ih =>
                intro k hk hm
                refine v_iload (pc := 86) g dX5_sheet_86 rfl ?_
                refine v_bipush (pc := 88) (v := 40) g dX5_sheet_88 (by decide) ?_
                refine v_icmp_ge (pc := 90) 112 g dX5_sheet_90 rfl (fun c90 => ?_) (fun c90 => ?_)
                · have e90 : k = 40 := ge_t (n := 40) rfl hk (by omega) c90
                  subst e90
                  refine v_aload_n (pc := 112) 0 g dX5_sheet_112 rfl rfl ?_
                  refine v_get (pc := 113) g dX5_sheet_113 fl_X5_28 rfl rfl ?_
                  refine v_iload_n (pc := 116) 1 g dX5_sheet_116 rfl rfl ?_
                  refine v_ialdN (pc := 117) _ g dX5_sheet_117 rfl rfl (by omega) (Nat.le_of_ble_eq_true rfl) ?_
                  rw [upd_eq]
                  exact v_iret (pc := 118) g hret dX5_sheet_118 (⟨so_i (by unfold r_25; rw [if_pos hC, if_neg e22, if_neg e35]), by unfold w_25 z_25 q_25 f_25; rw [if_pos hC, if_neg e22, if_neg e35, if_pos hD, if_pos hD, if_pos hD, ez]⟩)
                · have e90 : k < 40 := ge_f (n := 40) rfl hk (by omega) c90
                  refine v_aload_n (pc := 93) 0 g dX5_sheet_93 rfl rfl ?_
                  refine v_get (pc := 94) g dX5_sheet_94 fl_X5_31 rfl rfl ?_
                  refine v_bipush (pc := 97) (v := 40) g dX5_sheet_97 (by decide) ?_
                  refine v_iload_n (pc := 99) 1 g dX5_sheet_99 rfl rfl ?_
                  refine v_imul (pc := 100) g dX5_sheet_100 ?_
                  refine v_iload (pc := 101) g dX5_sheet_101 rfl ?_
                  refine v_iadd (pc := 103) g dX5_sheet_103 ?_
                  refine v_lconst (pc := 104) (v := 0) g dX5_sheet_104 (by decide) ?_
                  refine v_lastN (pc := 105) _ _ g dX5_sheet_105 rfl (ix_s2 z k) (by omega) (Nat.le_of_ble_eq_true rfl) rfl ?_
                  refine v_iincN (pc := 106) g dX5_sheet_106 rfl hnL.symm ?_
                  refine v_goto (pc := 109) 86 g dX5_sheet_109 rfl ?_
                  refine v_w (mW r fo of tr b1 ta tm so be te wo va gd (upd bi z b) (upd si z (n_25 b n)) (layK sh z (k + 1)) le im bf kp) (by rw [← lay_up]; rfl) ?_
                  exact ih (k + 1) (by omega) (by omega)
            refine v_w (mW r fo of tr b1 ta tm so be te wo va gd (upd bi z b) (upd si z (n_25 b n)) (layK sh z 0) le im bf kp) (by rw [lay_0]; rfl) ?_
            exact L86 41 0 (Nat.zero_le _) (by omega)
          · refine v_iconst (pc := 77) (v := 0) g dX5_sheet_77 (by decide) ?_
            refine v_goto (pc := 78) 82 g dX5_sheet_78 rfl ?_
            refine v_stE [.int (n_25 b n), .int (nI z), .ref 7] (by unfold n_25; first | (rw [if_pos c74]; done) | (rw [if_neg c74]; done)) ?_
            refine v_iastN (pc := 82) _ _ g dX5_sheet_82 rfl rfl (by omega) (Nat.le_of_ble_eq_true rfl) rfl ?_
            refine v_iconst (pc := 83) (v := 0) g dX5_sheet_83 (by decide) ?_
            refine v_istore (pc := 84) _ g dX5_sheet_84 (Nat.le_of_ble_eq_true rfl) hnL.symm rfl ?_
            have L86 : ∀ (fu : Nat) (k : Nat), k ≤ 40 → 40 - k < fu → V X 86 [some (.ref 0), some (.int (nI z)), some (.int b), some (.int n), some (.int (nI k))] [] (mW r fo of tr b1 ta tm so be te wo va gd (upd bi z b) (upd si z (n_25 b n)) (layK sh z k) le im bf kp) := by
              intro fu
              induction fu with
              | zero => intro k hk hm; exact absurd hm (Nat.not_lt_zero _)
              | succ fu ih =>
                intro k hk hm
                refine v_iload (pc := 86) g dX5_sheet_86 rfl ?_
                refine v_bipush (pc := 88) (v := 40) g dX5_sheet_88 (by decide) ?_
                refine v_icmp_ge (pc := 90) 112 g dX5_sheet_90 rfl (fun c90 => ?_) (fun c90 => ?_)
                · have e90 : k = 40 := ge_t (n := 40) rfl hk (by omega) c90
                  subst e90
                  refine v_aload_n (pc := 112) 0 g dX5_sheet_112 rfl rfl ?_
                  refine v_get (pc := 113) g dX5_sheet_113 fl_X5_28 rfl rfl ?_
                  refine v_iload_n (pc := 116) 1 g dX5_sheet_116 rfl rfl ?_
                  refine v_ialdN (pc := 117) _ g dX5_sheet_117 rfl rfl (by omega) (Nat.le_of_ble_eq_true rfl) ?_
                  rw [upd_eq]
                  exact v_iret (pc := 118) g hret dX5_sheet_118 (⟨so_i (by unfold r_25; rw [if_pos hC, if_neg e22, if_neg e35]), by unfold w_25 z_25 q_25 f_25; rw [if_pos hC, if_neg e22, if_neg e35, if_pos hD, if_pos hD, if_pos hD, ez]⟩)
                · have e90 : k < 40 := ge_f (n := 40) rfl hk (by omega) c90
                  refine v_aload_n (pc := 93) 0 g dX5_sheet_93 rfl rfl ?_
                  refine v_get (pc := 94) g dX5_sheet_94 fl_X5_31 rfl rfl ?_
                  refine v_bipush (pc := 97) (v := 40) g dX5_sheet_97 (by decide) ?_
                  refine v_iload_n (pc := 99) 1 g dX5_sheet_99 rfl rfl ?_
                  refine v_imul (pc := 100) g dX5_sheet_100 ?_
                  refine v_iload (pc := 101) g dX5_sheet_101 rfl ?_
                  refine v_iadd (pc := 103) g dX5_sheet_103 ?_
                  refine v_lconst (pc := 104) (v := 0) g dX5_sheet_104 (by decide) ?_
                  refine v_lastN (pc := 105) _ _ g dX5_sheet_105 rfl (ix_s2 z k) (by omega) (Nat.le_of_ble_eq_true rfl) rfl ?_
                  refine v_iincN (pc := 106) g dX5_sheet_106 rfl hnL.symm ?_
                  refine v_goto (pc := 109) 86 g dX5_sheet_109 rfl ?_
                  refine v_w (mW r fo of tr b1 ta tm so be te wo va gd (upd bi z b) (upd si z (n_25 b n)) (layK sh z (k + 1)) le im bf kp) (by rw [← lay_up]; rfl) ?_
                  exact ih (k + 1) (by omega) (by omega)
            refine v_w (mW r fo of tr b1 ta tm so be te wo va gd (upd bi z b) (upd si z (n_25 b n)) (layK sh z 0) le im bf kp) (by rw [lay_0]; rfl) ?_
            exact L86 41 0 (Nat.zero_le _) (by omega)
        · have e35 : 40 < n.toInt := by have := i_lt.mp (Int32.not_le.mp c51); have h0 : (40 : Int32).toInt = 40 := rfl; omega
          refine v_aload_n (pc := 54) 0 g dX5_sheet_54 rfl rfl ?_
          refine v_ldc (pc := 55) g dX5_sheet_55 co_X5_44 ?_
          refine v_cVd (pc := 57) g dX5_sheet_57 lk_X5_81 (c_X5_finds _ 0 (-1000000001) (by decide) (by decide)) (Nat.le_of_ble_eq_true rfl) rfl rfl rfl rfl (Nat.le_of_ble_eq_true rfl) ?_
          exact v_iret (pc := 60) g hret dX5_sheet_60 (⟨so_i (by unfold r_25; rw [if_pos hC, if_neg e22, if_pos e35]), by unfold w_25 z_25 q_25 f_25; rw [if_pos hC, if_neg e22, if_pos e35, if_neg (fun z => by have := z.2; omega), if_neg (fun z => by have := z.2; omega), if_neg (fun z => by have := z.2; omega)]⟩)
      · have e22 : n.toInt < 0 := by have := i_lt.mp (Int32.not_le.mp c37); have h0 : (0 : Int32).toInt = 0 := rfl; omega
        refine v_aload_n (pc := 40) 0 g dX5_sheet_40 rfl rfl ?_
        refine v_ldcw (pc := 41) g dX5_sheet_41 co_X5_266 ?_
        refine v_cVd (pc := 44) g dX5_sheet_44 lk_X5_81 (c_X5_finds _ 6 (-1000000007) (by decide) (by decide)) (Nat.le_of_ble_eq_true rfl) rfl rfl rfl rfl (Nat.le_of_ble_eq_true rfl) ?_
        exact v_iret (pc := 47) g hret dX5_sheet_47 (⟨so_i (by unfold r_25; rw [if_pos hC, if_pos e22]), by unfold w_25 z_25 q_25 f_25; rw [if_pos hC, if_pos e22, if_neg (fun z => by have := z.2; omega), if_neg (fun z => by have := z.2; omega), if_neg (fun z => by have := z.2; omega)]⟩)
    · refine v_iload_n (pc := 11) 2 g dX5_sheet_11 rfl rfl ?_
      refine v_bipush (pc := 12) (v := 8) g dX5_sheet_12 (by decide) ?_
      refine v_icmp_eq (pc := 14) 36 g dX5_sheet_14 rfl (fun c14 => ?_) (fun c14 => ?_)
      · have hC : C25 s b := ⟨c4, (by simp only [i_eq, Int32.reduceToInt] at *; omega)⟩
        refine v_iload_n (pc := 36) 3 g dX5_sheet_36 rfl rfl ?_
        refine v_if_ge (pc := 37) 48 g dX5_sheet_37 rfl (fun c37 => ?_) (fun c37 => ?_)
        · have e22 : ¬ n.toInt < 0 := by have := i_le.mp c37; have h0 : (0 : Int32).toInt = 0 := rfl; omega
          refine v_iload_n (pc := 48) 3 g dX5_sheet_48 rfl rfl ?_
          refine v_bipush (pc := 49) (v := 40) g dX5_sheet_49 (by decide) ?_
          refine v_icmp_le (pc := 51) 61 g dX5_sheet_51 rfl (fun c51 => ?_) (fun c51 => ?_)
          · have e35 : ¬ 40 < n.toInt := by have := i_le.mp c51; have h0 : (40 : Int32).toInt = 40 := rfl; omega
            have hD : D25 s b n := ⟨hC, by omega, by omega⟩
            obtain ⟨z, hz, rfl⟩ := c4.nat (m := 3) (by omega)
            have ez : (nI z).toNatClampNeg = z := nI_clamp (by omega)
            refine v_aload_n (pc := 61) 0 g dX5_sheet_61 rfl rfl ?_
            refine v_get (pc := 62) g dX5_sheet_62 fl_X5_25 rfl rfl ?_
            refine v_iload_n (pc := 65) 1 g dX5_sheet_65 rfl rfl ?_
            refine v_iload_n (pc := 66) 2 g dX5_sheet_66 rfl rfl ?_
            refine v_iastN (pc := 67) _ _ g dX5_sheet_67 rfl rfl (by omega) (Nat.le_of_ble_eq_true rfl) rfl ?_
            refine v_aload_n (pc := 68) 0 g dX5_sheet_68 rfl rfl ?_
            refine v_get (pc := 69) g dX5_sheet_69 fl_X5_28 rfl rfl ?_
            refine v_iload_n (pc := 72) 1 g dX5_sheet_72 rfl rfl ?_
            refine v_iload_n (pc := 73) 2 g dX5_sheet_73 rfl rfl ?_
            refine v_if_ne (pc := 74) 81 g dX5_sheet_74 rfl (fun c74 => ?_) (fun c74 => ?_)
            · refine v_iload_n (pc := 81) 3 g dX5_sheet_81 rfl rfl ?_
              refine v_stE [.int (n_25 b n), .int (nI z), .ref 7] (by unfold n_25; first | (rw [if_pos c74]; done) | (rw [if_neg c74]; done)) ?_
              refine v_iastN (pc := 82) _ _ g dX5_sheet_82 rfl rfl (by omega) (Nat.le_of_ble_eq_true rfl) rfl ?_
              refine v_iconst (pc := 83) (v := 0) g dX5_sheet_83 (by decide) ?_
              refine v_istore (pc := 84) _ g dX5_sheet_84 (Nat.le_of_ble_eq_true rfl) hnL.symm rfl ?_
              have L86 : ∀ (fu : Nat) (k : Nat), k ≤ 40 → 40 - k < fu → V X 86 [some (.ref 0), some (.int (nI z)), some (.int b), some (.int n), some (.int (nI k))] [] (mW r fo of tr b1 ta tm so be te wo va gd (upd bi z b) (upd si z (n_25 b n)) (layK sh z k) le im bf kp) := by
                intro fu
                induction fu with
                | zero => intro k hk hm; exact absurd hm (Nat.not_lt_zero _)
                | succ fu ih =>
                  intro k hk hm
                  refine v_iload (pc := 86) g dX5_sheet_86 rfl ?_
                  refine v_bipush (pc := 88) (v := 40) g dX5_sheet_88 (by decide) ?_
                  refine v_icmp_ge (pc := 90) 112 g dX5_sheet_90 rfl (fun c90 => ?_) (fun c90 => ?_)
                  · have e90 : k = 40 := ge_t (n := 40) rfl hk (by omega) c90
                    subst e90
                    refine v_aload_n (pc := 112) 0 g dX5_sheet_112 rfl rfl ?_
                    refine v_get (pc := 113) g dX5_sheet_113 fl_X5_28 rfl rfl ?_
                    refine v_iload_n (pc := 116) 1 g dX5_sheet_116 rfl rfl ?_
                    refine v_ialdN (pc := 117) _ g dX5_sheet_117 rfl rfl (by omega) (Nat.le_of_ble_eq_true rfl) ?_
                    rw [upd_eq]
                    exact v_iret (pc := 118) g hret dX5_sheet_118 (⟨so_i (by unfold r_25; rw [if_pos hC, if_neg e22, if_neg e35]), by unfold w_25 z_25 q_25 f_25; rw [if_pos hC, if_neg e22, if_neg e35, if_pos hD, if_pos hD, if_pos hD, ez]⟩)
                  · have e90 : k < 40 := ge_f (n := 40) rfl hk (by omega) c90
                    refine v_aload_n (pc := 93) 0 g dX5_sheet_93 rfl rfl ?_
                    refine v_get (pc := 94) g dX5_sheet_94 fl_X5_31 rfl rfl ?_
                    refine v_bipush (pc := 97) (v := 40) g dX5_sheet_97 (by decide) ?_
                    refine v_iload_n (pc := 99) 1 g dX5_sheet_99 rfl rfl ?_
                    refine v_imul (pc := 100) g dX5_sheet_100 ?_
                    refine v_iload (pc := 101) g dX5_sheet_101 rfl ?_
                    refine v_iadd (pc := 103) g dX5_sheet_103 ?_
                    refine v_lconst (pc := 104) (v := 0) g dX5_sheet_104 (by decide) ?_
                    refine v_lastN (pc := 105) _ _ g dX5_sheet_105 rfl (ix_s2 z k) (by omega) (Nat.le_of_ble_eq_true rfl) rfl ?_
                    refine v_iincN (pc := 106) g dX5_sheet_106 rfl hnL.symm ?_
                    refine v_goto (pc := 109) 86 g dX5_sheet_109 rfl ?_
                    refine v_w (mW r fo of tr b1 ta tm so be te wo va gd (upd bi z b) (upd si z (n_25 b n)) (layK sh z (k + 1)) le im bf kp) (by rw [← lay_up]; rfl) ?_
                    exact ih (k + 1) (by omega) (by omega)
              refine v_w (mW r fo of tr b1 ta tm so be te wo va gd (upd bi z b) (upd si z (n_25 b n)) (layK sh z 0) le im bf kp) (by rw [lay_0]; rfl) ?_
              exact L86 41 0 (Nat.zero_le _) (by omega)
            · refine v_iconst (pc := 77) (v := 0) g dX5_sheet_77 (by decide) ?_
              refine v_goto (pc := 78) 82 g dX5_sheet_78 rfl ?_
              refine v_stE [.int (n_25 b n), .int (nI z), .ref 7] (by unfold n_25; first | (rw [if_pos c74]; done) | (rw [if_neg c74]; done)) ?_
              refine v_iastN (pc := 82) _ _ g dX5_sheet_82 rfl rfl (by omega) (Nat.le_of_ble_eq_true rfl) rfl ?_
              refine v_iconst (pc := 83) (v := 0) g dX5_sheet_83 (by decide) ?_
              refine v_istore (pc := 84) _ g dX5_sheet_84 (Nat.le_of_ble_eq_true rfl) hnL.symm rfl ?_
              have L86 : ∀ (fu : Nat) (k : Nat), k ≤ 40 → 40 - k < fu → V X 86 [some (.ref 0), some (.int (nI z)), some (.int b), some (.int n), some (.int (nI k))] [] (mW r fo of tr b1 ta tm so be te wo va gd (upd bi z b) (upd si z (n_25 b n)) (layK sh z k) le im bf kp) := by
                intro fu
                induction fu with
                | zero => intro k hk hm; exact absurd hm (Nat.not_lt_zero _)
                | succ fu ih =>
                  intro k hk hm
                  refine v_iload (pc := 86) g dX5_sheet_86 rfl ?_
                  refine v_bipush (pc := 88) (v := 40) g dX5_sheet_88 (by decide) ?_
                  refine v_icmp_ge (pc := 90) 112 g dX5_sheet_90 rfl (fun c90 => ?_) (fun c90 => ?_)
                  · have e90 : k = 40 := ge_t (n := 40) rfl hk (by omega) c90
                    subst e90
                    refine v_aload_n (pc := 112) 0 g dX5_sheet_112 rfl rfl ?_
                    refine v_get (pc := 113) g dX5_sheet_113 fl_X5_28 rfl rfl ?_
                    refine v_iload_n (pc := 116) 1 g dX5_sheet_116 rfl rfl ?_
                    refine v_ialdN (pc := 117) _ g dX5_sheet_117 rfl rfl (by omega) (Nat.le_of_ble_eq_true rfl) ?_
                    rw [upd_eq]
                    exact v_iret (pc := 118) g hret dX5_sheet_118 (⟨so_i (by unfold r_25; rw [if_pos hC, if_neg e22, if_neg e35]), by unfold w_25 z_25 q_25 f_25; rw [if_pos hC, if_neg e22, if_neg e35, if_pos hD, if_pos hD, if_pos hD, ez]⟩)
                  · have e90 : k < 40 := ge_f (n := 40) rfl hk (by omega) c90
                    refine v_aload_n (pc := 93) 0 g dX5_sheet_93 rfl rfl ?_
                    refine v_get (pc := 94) g dX5_sheet_94 fl_X5_31 rfl rfl ?_
                    refine v_bipush (pc := 97) (v := 40) g dX5_sheet_97 (by decide) ?_
                    refine v_iload_n (pc := 99) 1 g dX5_sheet_99 rfl rfl ?_
                    refine v_imul (pc := 100) g dX5_sheet_100 ?_
                    refine v_iload (pc := 101) g dX5_sheet_101 rfl ?_
                    refine v_iadd (pc := 103) g dX5_sheet_103 ?_
                    refine v_lconst (pc := 104) (v := 0) g dX5_sheet_104 (by decide) ?_
                    refine v_lastN (pc := 105) _ _ g dX5_sheet_105 rfl (ix_s2 z k) (by omega) (Nat.le_of_ble_eq_true rfl) rfl ?_
                    refine v_iincN (pc := 106) g dX5_sheet_106 rfl hnL.symm ?_
                    refine v_goto (pc := 109) 86 g dX5_sheet_109 rfl ?_
                    refine v_w (mW r fo of tr b1 ta tm so be te wo va gd (upd bi z b) (upd si z (n_25 b n)) (layK sh z (k + 1)) le im bf kp) (by rw [← lay_up]; rfl) ?_
                    exact ih (k + 1) (by omega) (by omega)
              refine v_w (mW r fo of tr b1 ta tm so be te wo va gd (upd bi z b) (upd si z (n_25 b n)) (layK sh z 0) le im bf kp) (by rw [lay_0]; rfl) ?_
              exact L86 41 0 (Nat.zero_le _) (by omega)
          · have e35 : 40 < n.toInt := by have := i_lt.mp (Int32.not_le.mp c51); have h0 : (40 : Int32).toInt = 40 := rfl; omega
            refine v_aload_n (pc := 54) 0 g dX5_sheet_54 rfl rfl ?_
            refine v_ldc (pc := 55) g dX5_sheet_55 co_X5_44 ?_
            refine v_cVd (pc := 57) g dX5_sheet_57 lk_X5_81 (c_X5_finds _ 0 (-1000000001) (by decide) (by decide)) (Nat.le_of_ble_eq_true rfl) rfl rfl rfl rfl (Nat.le_of_ble_eq_true rfl) ?_
            exact v_iret (pc := 60) g hret dX5_sheet_60 (⟨so_i (by unfold r_25; rw [if_pos hC, if_neg e22, if_pos e35]), by unfold w_25 z_25 q_25 f_25; rw [if_pos hC, if_neg e22, if_pos e35, if_neg (fun z => by have := z.2; omega), if_neg (fun z => by have := z.2; omega), if_neg (fun z => by have := z.2; omega)]⟩)
        · have e22 : n.toInt < 0 := by have := i_lt.mp (Int32.not_le.mp c37); have h0 : (0 : Int32).toInt = 0 := rfl; omega
          refine v_aload_n (pc := 40) 0 g dX5_sheet_40 rfl rfl ?_
          refine v_ldcw (pc := 41) g dX5_sheet_41 co_X5_266 ?_
          refine v_cVd (pc := 44) g dX5_sheet_44 lk_X5_81 (c_X5_finds _ 6 (-1000000007) (by decide) (by decide)) (Nat.le_of_ble_eq_true rfl) rfl rfl rfl rfl (Nat.le_of_ble_eq_true rfl) ?_
          exact v_iret (pc := 47) g hret dX5_sheet_47 (⟨so_i (by unfold r_25; rw [if_pos hC, if_pos e22]), by unfold w_25 z_25 q_25 f_25; rw [if_pos hC, if_pos e22, if_neg (fun z => by have := z.2; omega), if_neg (fun z => by have := z.2; omega), if_neg (fun z => by have := z.2; omega)]⟩)
      · refine v_iload_n (pc := 17) 2 g dX5_sheet_17 rfl rfl ?_
        refine v_bipush (pc := 18) (v := 16) g dX5_sheet_18 (by decide) ?_
        refine v_icmp_eq (pc := 20) 36 g dX5_sheet_20 rfl (fun c20 => ?_) (fun c20 => ?_)
        · have hC : C25 s b := ⟨c4, (by simp only [i_eq, Int32.reduceToInt] at *; omega)⟩
          refine v_iload_n (pc := 36) 3 g dX5_sheet_36 rfl rfl ?_
          refine v_if_ge (pc := 37) 48 g dX5_sheet_37 rfl (fun c37 => ?_) (fun c37 => ?_)
          · have e22 : ¬ n.toInt < 0 := by have := i_le.mp c37; have h0 : (0 : Int32).toInt = 0 := rfl; omega
            refine v_iload_n (pc := 48) 3 g dX5_sheet_48 rfl rfl ?_
            refine v_bipush (pc := 49) (v := 40) g dX5_sheet_49 (by decide) ?_
            refine v_icmp_le (pc := 51) 61 g dX5_sheet_51 rfl (fun c51 => ?_) (fun c51 => ?_)
            · have e35 : ¬ 40 < n.toInt := by have := i_le.mp c51; have h0 : (40 : Int32).toInt = 40 := rfl; omega
              have hD : D25 s b n := ⟨hC, by omega, by omega⟩
              obtain ⟨z, hz, rfl⟩ := c4.nat (m := 3) (by omega)
              have ez : (nI z).toNatClampNeg = z := nI_clamp (by omega)
              refine v_aload_n (pc := 61) 0 g dX5_sheet_61 rfl rfl ?_
              refine v_get (pc := 62) g dX5_sheet_62 fl_X5_25 rfl rfl ?_
              refine v_iload_n (pc := 65) 1 g dX5_sheet_65 rfl rfl ?_
              refine v_iload_n (pc := 66) 2 g dX5_sheet_66 rfl rfl ?_
              refine v_iastN (pc := 67) _ _ g dX5_sheet_67 rfl rfl (by omega) (Nat.le_of_ble_eq_true rfl) rfl ?_
              refine v_aload_n (pc := 68) 0 g dX5_sheet_68 rfl rfl ?_
              refine v_get (pc := 69) g dX5_sheet_69 fl_X5_28 rfl rfl ?_
              refine v_iload_n (pc := 72) 1 g dX5_sheet_72 rfl rfl ?_
              refine v_iload_n (pc := 73) 2 g dX5_sheet_73 rfl rfl ?_
              refine v_if_ne (pc := 74) 81 g dX5_sheet_74 rfl (fun c74 => ?_) (fun c74 => ?_)
              · refine v_iload_n (pc := 81) 3 g dX5_sheet_81 rfl rfl ?_
                refine v_stE [.int (n_25 b n), .int (nI z), .ref 7] (by unfold n_25; first | (rw [if_pos c74]; done) | (rw [if_neg c74]; done)) ?_
                refine v_iastN (pc := 82) _ _ g dX5_sheet_82 rfl rfl (by omega) (Nat.le_of_ble_eq_true rfl) rfl ?_
                refine v_iconst (pc := 83) (v := 0) g dX5_sheet_83 (by decide) ?_
                refine v_istore (pc := 84) _ g dX5_sheet_84 (Nat.le_of_ble_eq_true rfl) hnL.symm rfl ?_
                have L86 : ∀ (fu : Nat) (k : Nat), k ≤ 40 → 40 - k < fu → V X 86 [some (.ref 0), some (.int (nI z)), some (.int b), some (.int n), some (.int (nI k))] [] (mW r fo of tr b1 ta tm so be te wo va gd (upd bi z b) (upd si z (n_25 b n)) (layK sh z k) le im bf kp) := by
                  intro fu
                  induction fu with
                  | zero => intro k hk hm; exact absurd hm (Nat.not_lt_zero _)
                  | succ fu ih =>
                    intro k hk hm
                    refine v_iload (pc := 86) g dX5_sheet_86 rfl ?_
                    refine v_bipush (pc := 88) (v := 40) g dX5_sheet_88 (by decide) ?_
                    refine v_icmp_ge (pc := 90) 112 g dX5_sheet_90 rfl (fun c90 => ?_) (fun c90 => ?_)
                    · have e90 : k = 40 := ge_t (n := 40) rfl hk (by omega) c90
                      subst e90
                      refine v_aload_n (pc := 112) 0 g dX5_sheet_112 rfl rfl ?_
                      refine v_get (pc := 113) g dX5_sheet_113 fl_X5_28 rfl rfl ?_
                      refine v_iload_n (pc := 116) 1 g dX5_sheet_116 rfl rfl ?_
                      refine v_ialdN (pc := 117) _ g dX5_sheet_117 rfl rfl (by omega) (Nat.le_of_ble_eq_true rfl) ?_
                      rw [upd_eq]
                      exact v_iret (pc := 118) g hret dX5_sheet_118 (⟨so_i (by unfold r_25; rw [if_pos hC, if_neg e22, if_neg e35]), by unfold w_25 z_25 q_25 f_25; rw [if_pos hC, if_neg e22, if_neg e35, if_pos hD, if_pos hD, if_pos hD, ez]⟩)
                    · have e90 : k < 40 := ge_f (n := 40) rfl hk (by omega) c90
                      refine v_aload_n (pc := 93) 0 g dX5_sheet_93 rfl rfl ?_
                      refine v_get (pc := 94) g dX5_sheet_94 fl_X5_31 rfl rfl ?_
                      refine v_bipush (pc := 97) (v := 40) g dX5_sheet_97 (by decide) ?_
                      refine v_iload_n (pc := 99) 1 g dX5_sheet_99 rfl rfl ?_
                      refine v_imul (pc := 100) g dX5_sheet_100 ?_
                      refine v_iload (pc := 101) g dX5_sheet_101 rfl ?_
                      refine v_iadd (pc := 103) g dX5_sheet_103 ?_
                      refine v_lconst (pc := 104) (v := 0) g dX5_sheet_104 (by decide) ?_
                      refine v_lastN (pc := 105) _ _ g dX5_sheet_105 rfl (ix_s2 z k) (by omega) (Nat.le_of_ble_eq_true rfl) rfl ?_
                      refine v_iincN (pc := 106) g dX5_sheet_106 rfl hnL.symm ?_
                      refine v_goto (pc := 109) 86 g dX5_sheet_109 rfl ?_
                      refine v_w (mW r fo of tr b1 ta tm so be te wo va gd (upd bi z b) (upd si z (n_25 b n)) (layK sh z (k + 1)) le im bf kp) (by rw [← lay_up]; rfl) ?_
                      exact ih (k + 1) (by omega) (by omega)
                refine v_w (mW r fo of tr b1 ta tm so be te wo va gd (upd bi z b) (upd si z (n_25 b n)) (layK sh z 0) le im bf kp) (by rw [lay_0]; rfl) ?_
                exact L86 41 0 (Nat.zero_le _) (by omega)
              · refine v_iconst (pc := 77) (v := 0) g dX5_sheet_77 (by decide) ?_
                refine v_goto (pc := 78) 82 g dX5_sheet_78 rfl ?_
                refine v_stE [.int (n_25 b n), .int (nI z), .ref 7] (by unfold n_25; first | (rw [if_pos c74]; done) | (rw [if_neg c74]; done)) ?_
                refine v_iastN (pc := 82) _ _ g dX5_sheet_82 rfl rfl (by omega) (Nat.le_of_ble_eq_true rfl) rfl ?_
                refine v_iconst (pc := 83) (v := 0) g dX5_sheet_83 (by decide) ?_
                refine v_istore (pc := 84) _ g dX5_sheet_84 (Nat.le_of_ble_eq_true rfl) hnL.symm rfl ?_
                have L86 : ∀ (fu : Nat) (k : Nat), k ≤ 40 → 40 - k < fu → V X 86 [some (.ref 0), some (.int (nI z)), some (.int b), some (.int n), some (.int (nI k))] [] (mW r fo of tr b1 ta tm so be te wo va gd (upd bi z b) (upd si z (n_25 b n)) (layK sh z k) le im bf kp) := by
                  intro fu
                  induction fu with
                  | zero => intro k hk hm; exact absurd hm (Nat.not_lt_zero _)
                  | succ fu ih =>
                    intro k hk hm
                    refine v_iload (pc := 86) g dX5_sheet_86 rfl ?_
                    refine v_bipush (pc := 88) (v := 40) g dX5_sheet_88 (by decide) ?_
                    refine v_icmp_ge (pc := 90) 112 g dX5_sheet_90 rfl (fun c90 => ?_) (fun c90 => ?_)
                    · have e90 : k = 40 := ge_t (n := 40) rfl hk (by omega) c90
                      subst e90
                      refine v_aload_n (pc := 112) 0 g dX5_sheet_112 rfl rfl ?_
                      refine v_get (pc := 113) g dX5_sheet_113 fl_X5_28 rfl rfl ?_
                      refine v_iload_n (pc := 116) 1 g dX5_sheet_116 rfl rfl ?_
                      refine v_ialdN (pc := 117) _ g dX5_sheet_117 rfl rfl (by omega) (Nat.le_of_ble_eq_true rfl) ?_
                      rw [upd_eq]
                      exact v_iret (pc := 118) g hret dX5_sheet_118 (⟨so_i (by unfold r_25; rw [if_pos hC, if_neg e22, if_neg e35]), by unfold w_25 z_25 q_25 f_25; rw [if_pos hC, if_neg e22, if_neg e35, if_pos hD, if_pos hD, if_pos hD, ez]⟩)
                    · have e90 : k < 40 := ge_f (n := 40) rfl hk (by omega) c90
                      refine v_aload_n (pc := 93) 0 g dX5_sheet_93 rfl rfl ?_
                      refine v_get (pc := 94) g dX5_sheet_94 fl_X5_31 rfl rfl ?_
                      refine v_bipush (pc := 97) (v := 40) g dX5_sheet_97 (by decide) ?_
                      refine v_iload_n (pc := 99) 1 g dX5_sheet_99 rfl rfl ?_
                      refine v_imul (pc := 100) g dX5_sheet_100 ?_
                      refine v_iload (pc := 101) g dX5_sheet_101 rfl ?_
                      refine v_iadd (pc := 103) g dX5_sheet_103 ?_
                      refine v_lconst (pc := 104) (v := 0) g dX5_sheet_104 (by decide) ?_
                      refine v_lastN (pc := 105) _ _ g dX5_sheet_105 rfl (ix_s2 z k) (by omega) (Nat.le_of_ble_eq_true rfl) rfl ?_
                      refine v_iincN (pc := 106) g dX5_sheet_106 rfl hnL.symm ?_
                      refine v_goto (pc := 109) 86 g dX5_sheet_109 rfl ?_
                      refine v_w (mW r fo of tr b1 ta tm so be te wo va gd (upd bi z b) (upd si z (n_25 b n)) (layK sh z (k + 1)) le im bf kp) (by rw [← lay_up]; rfl) ?_
                      exact ih (k + 1) (by omega) (by omega)
                refine v_w (mW r fo of tr b1 ta tm so be te wo va gd (upd bi z b) (upd si z (n_25 b n)) (layK sh z 0) le im bf kp) (by rw [lay_0]; rfl) ?_
                exact L86 41 0 (Nat.zero_le _) (by omega)
            · have e35 : 40 < n.toInt := by have := i_lt.mp (Int32.not_le.mp c51); have h0 : (40 : Int32).toInt = 40 := rfl; omega
              refine v_aload_n (pc := 54) 0 g dX5_sheet_54 rfl rfl ?_
              refine v_ldc (pc := 55) g dX5_sheet_55 co_X5_44 ?_
              refine v_cVd (pc := 57) g dX5_sheet_57 lk_X5_81 (c_X5_finds _ 0 (-1000000001) (by decide) (by decide)) (Nat.le_of_ble_eq_true rfl) rfl rfl rfl rfl (Nat.le_of_ble_eq_true rfl) ?_
              exact v_iret (pc := 60) g hret dX5_sheet_60 (⟨so_i (by unfold r_25; rw [if_pos hC, if_neg e22, if_pos e35]), by unfold w_25 z_25 q_25 f_25; rw [if_pos hC, if_neg e22, if_pos e35, if_neg (fun z => by have := z.2; omega), if_neg (fun z => by have := z.2; omega), if_neg (fun z => by have := z.2; omega)]⟩)
          · have e22 : n.toInt < 0 := by have := i_lt.mp (Int32.not_le.mp c37); have h0 : (0 : Int32).toInt = 0 := rfl; omega
            refine v_aload_n (pc := 40) 0 g dX5_sheet_40 rfl rfl ?_
            refine v_ldcw (pc := 41) g dX5_sheet_41 co_X5_266 ?_
            refine v_cVd (pc := 44) g dX5_sheet_44 lk_X5_81 (c_X5_finds _ 6 (-1000000007) (by decide) (by decide)) (Nat.le_of_ble_eq_true rfl) rfl rfl rfl rfl (Nat.le_of_ble_eq_true rfl) ?_
            exact v_iret (pc := 47) g hret dX5_sheet_47 (⟨so_i (by unfold r_25; rw [if_pos hC, if_pos e22]), by unfold w_25 z_25 q_25 f_25; rw [if_pos hC, if_pos e22, if_neg (fun z => by have := z.2; omega), if_neg (fun z => by have := z.2; omega), if_neg (fun z => by have := z.2; omega)]⟩)
        · refine v_iload_n (pc := 23) 2 g dX5_sheet_23 rfl rfl ?_
          refine v_bipush (pc := 24) (v := 64) g dX5_sheet_24 (by decide) ?_
          refine v_icmp_eq (pc := 26) 36 g dX5_sheet_26 rfl (fun c26 => ?_) (fun c26 => ?_)
          · have hC : C25 s b := ⟨c4, (by simp only [i_eq, Int32.reduceToInt] at *; omega)⟩
            refine v_iload_n (pc := 36) 3 g dX5_sheet_36 rfl rfl ?_
            refine v_if_ge (pc := 37) 48 g dX5_sheet_37 rfl (fun c37 => ?_) (fun c37 => ?_)
            · have e22 : ¬ n.toInt < 0 := by have := i_le.mp c37; have h0 : (0 : Int32).toInt = 0 := rfl; omega
              refine v_iload_n (pc := 48) 3 g dX5_sheet_48 rfl rfl ?_
              refine v_bipush (pc := 49) (v := 40) g dX5_sheet_49 (by decide) ?_
              refine v_icmp_le (pc := 51) 61 g dX5_sheet_51 rfl (fun c51 => ?_) (fun c51 => ?_)
              · have e35 : ¬ 40 < n.toInt := by have := i_le.mp c51; have h0 : (40 : Int32).toInt = 40 := rfl; omega
                have hD : D25 s b n := ⟨hC, by omega, by omega⟩
                obtain ⟨z, hz, rfl⟩ := c4.nat (m := 3) (by omega)
                have ez : (nI z).toNatClampNeg = z := nI_clamp (by omega)
                refine v_aload_n (pc := 61) 0 g dX5_sheet_61 rfl rfl ?_
                refine v_get (pc := 62) g dX5_sheet_62 fl_X5_25 rfl rfl ?_
                refine v_iload_n (pc := 65) 1 g dX5_sheet_65 rfl rfl ?_
                refine v_iload_n (pc := 66) 2 g dX5_sheet_66 rfl rfl ?_
                refine v_iastN (pc := 67) _ _ g dX5_sheet_67 rfl rfl (by omega) (Nat.le_of_ble_eq_true rfl) rfl ?_
                refine v_aload_n (pc := 68) 0 g dX5_sheet_68 rfl rfl ?_
                refine v_get (pc := 69) g dX5_sheet_69 fl_X5_28 rfl rfl ?_
                refine v_iload_n (pc := 72) 1 g dX5_sheet_72 rfl rfl ?_
                refine v_iload_n (pc := 73) 2 g dX5_sheet_73 rfl rfl ?_
                refine v_if_ne (pc := 74) 81 g dX5_sheet_74 rfl (fun c74 => ?_) (fun c74 => ?_)
                · refine v_iload_n (pc := 81) 3 g dX5_sheet_81 rfl rfl ?_
                  refine v_stE [.int (n_25 b n), .int (nI z), .ref 7] (by unfold n_25; first | (rw [if_pos c74]; done) | (rw [if_neg c74]; done)) ?_
                  refine v_iastN (pc := 82) _ _ g dX5_sheet_82 rfl rfl (by omega) (Nat.le_of_ble_eq_true rfl) rfl ?_
                  refine v_iconst (pc := 83) (v := 0) g dX5_sheet_83 (by decide) ?_
                  refine v_istore (pc := 84) _ g dX5_sheet_84 (Nat.le_of_ble_eq_true rfl) hnL.symm rfl ?_
                  have L86 : ∀ (fu : Nat) (k : Nat), k ≤ 40 → 40 - k < fu → V X 86 [some (.ref 0), some (.int (nI z)), some (.int b), some (.int n), some (.int (nI k))] [] (mW r fo of tr b1 ta tm so be te wo va gd (upd bi z b) (upd si z (n_25 b n)) (layK sh z k) le im bf kp) := by
                    intro fu
                    induction fu with
                    | zero => intro k hk hm; exact absurd hm (Nat.not_lt_zero _)
                    | succ fu ih =>
                      intro k hk hm
                      refine v_iload (pc := 86) g dX5_sheet_86 rfl ?_
                      refine v_bipush (pc := 88) (v := 40) g dX5_sheet_88 (by decide) ?_
                      refine v_icmp_ge (pc := 90) 112 g dX5_sheet_90 rfl (fun c90 => ?_) (fun c90 => ?_)
                      · have e90 : k = 40 := ge_t (n := 40) rfl hk (by omega) c90
                        subst e90
                        refine v_aload_n (pc := 112) 0 g dX5_sheet_112 rfl rfl ?_
                        refine v_get (pc := 113) g dX5_sheet_113 fl_X5_28 rfl rfl ?_
                        refine v_iload_n (pc := 116) 1 g dX5_sheet_116 rfl rfl ?_
                        refine v_ialdN (pc := 117) _ g dX5_sheet_117 rfl rfl (by omega) (Nat.le_of_ble_eq_true rfl) ?_
                        rw [upd_eq]
                        exact v_iret (pc := 118) g hret dX5_sheet_118 (⟨so_i (by unfold r_25; rw [if_pos hC, if_neg e22, if_neg e35]), by unfold w_25 z_25 q_25 f_25; rw [if_pos hC, if_neg e22, if_neg e35, if_pos hD, if_pos hD, if_pos hD, ez]⟩)
                      · have e90 : k < 40 := ge_f (n := 40) rfl hk (by omega) c90
                        refine v_aload_n (pc := 93) 0 g dX5_sheet_93 rfl rfl ?_
                        refine v_get (pc := 94) g dX5_sheet_94 fl_X5_31 rfl rfl ?_
                        refine v_bipush (pc := 97) (v := 40) g dX5_sheet_97 (by decide) ?_
                        refine v_iload_n (pc := 99) 1 g dX5_sheet_99 rfl rfl ?_
                        refine v_imul (pc := 100) g dX5_sheet_100 ?_
                        refine v_iload (pc := 101) g dX5_sheet_101 rfl ?_
                        refine v_iadd (pc := 103) g dX5_sheet_103 ?_
                        refine v_lconst (pc := 104) (v := 0) g dX5_sheet_104 (by decide) ?_
                        refine v_lastN (pc := 105) _ _ g dX5_sheet_105 rfl (ix_s2 z k) (by omega) (Nat.le_of_ble_eq_true rfl) rfl ?_
                        refine v_iincN (pc := 106) g dX5_sheet_106 rfl hnL.symm ?_
                        refine v_goto (pc := 109) 86 g dX5_sheet_109 rfl ?_
                        refine v_w (mW r fo of tr b1 ta tm so be te wo va gd (upd bi z b) (upd si z (n_25 b n)) (layK sh z (k + 1)) le im bf kp) (by rw [← lay_up]; rfl) ?_
                        exact ih (k + 1) (by omega) (by omega)
                  refine v_w (mW r fo of tr b1 ta tm so be te wo va gd (upd bi z b) (upd si z (n_25 b n)) (layK sh z 0) le im bf kp) (by rw [lay_0]; rfl) ?_
                  exact L86 41 0 (Nat.zero_le _) (by omega)
                · refine v_iconst (pc := 77) (v := 0) g dX5_sheet_77 (by decide) ?_
                  refine v_goto (pc := 78) 82 g dX5_sheet_78 rfl ?_
                  refine v_stE [.int (n_25 b n), .int (nI z), .ref 7] (by unfold n_25; first | (rw [if_pos c74]; done) | (rw [if_neg c74]; done)) ?_
                  refine v_iastN (pc := 82) _ _ g dX5_sheet_82 rfl rfl (by omega) (Nat.le_of_ble_eq_true rfl) rfl ?_
                  refine v_iconst (pc := 83) (v := 0) g dX5_sheet_83 (by decide) ?_
                  refine v_istore (pc := 84) _ g dX5_sheet_84 (Nat.le_of_ble_eq_true rfl) hnL.symm rfl ?_
                  have L86 : ∀ (fu : Nat) (k : Nat), k ≤ 40 → 40 - k < fu → V X 86 [some (.ref 0), some (.int (nI z)), some (.int b), some (.int n), some (.int (nI k))] [] (mW r fo of tr b1 ta tm so be te wo va gd (upd bi z b) (upd si z (n_25 b n)) (layK sh z k) le im bf kp) := by
                    intro fu
                    induction fu with
                    | zero => intro k hk hm; exact absurd hm (Nat.not_lt_zero _)
                    | succ fu ih =>
                      intro k hk hm
                      refine v_iload (pc := 86) g dX5_sheet_86 rfl ?_
                      refine v_bipush (pc := 88) (v := 40) g dX5_sheet_88 (by decide) ?_
                      refine v_icmp_ge (pc := 90) 112 g dX5_sheet_90 rfl (fun c90 => ?_) (fun c90 => ?_)
                      · have e90 : k = 40 := ge_t (n := 40) rfl hk (by omega) c90
                        subst e90
                        refine v_aload_n (pc := 112) 0 g dX5_sheet_112 rfl rfl ?_
                        refine v_get (pc := 113) g dX5_sheet_113 fl_X5_28 rfl rfl ?_
                        refine v_iload_n (pc := 116) 1 g dX5_sheet_116 rfl rfl ?_
                        refine v_ialdN (pc := 117) _ g dX5_sheet_117 rfl rfl (by omega) (Nat.le_of_ble_eq_true rfl) ?_
                        rw [upd_eq]
                        exact v_iret (pc := 118) g hret dX5_sheet_118 (⟨so_i (by unfold r_25; rw [if_pos hC, if_neg e22, if_neg e35]), by unfold w_25 z_25 q_25 f_25; rw [if_pos hC, if_neg e22, if_neg e35, if_pos hD, if_pos hD, if_pos hD, ez]⟩)
                      · have e90 : k < 40 := ge_f (n := 40) rfl hk (by omega) c90
                        refine v_aload_n (pc := 93) 0 g dX5_sheet_93 rfl rfl ?_
                        refine v_get (pc := 94) g dX5_sheet_94 fl_X5_31 rfl rfl ?_
                        refine v_bipush (pc := 97) (v := 40) g dX5_sheet_97 (by decide) ?_
                        refine v_iload_n (pc := 99) 1 g dX5_sheet_99 rfl rfl ?_
                        refine v_imul (pc := 100) g dX5_sheet_100 ?_
                        refine v_iload (pc := 101) g dX5_sheet_101 rfl ?_
                        refine v_iadd (pc := 103) g dX5_sheet_103 ?_
                        refine v_lconst (pc := 104) (v := 0) g dX5_sheet_104 (by decide) ?_
                        refine v_lastN (pc := 105) _ _ g dX5_sheet_105 rfl (ix_s2 z k) (by omega) (Nat.le_of_ble_eq_true rfl) rfl ?_
                        refine v_iincN (pc := 106) g dX5_sheet_106 rfl hnL.symm ?_
                        refine v_goto (pc := 109) 86 g dX5_sheet_109 rfl ?_
                        refine v_w (mW r fo of tr b1 ta tm so be te wo va gd (upd bi z b) (upd si z (n_25 b n)) (layK sh z (k + 1)) le im bf kp) (by rw [← lay_up]; rfl) ?_
                        exact ih (k + 1) (by omega) (by omega)
                  refine v_w (mW r fo of tr b1 ta tm so be te wo va gd (upd bi z b) (upd si z (n_25 b n)) (layK sh z 0) le im bf kp) (by rw [lay_0]; rfl) ?_
                  exact L86 41 0 (Nat.zero_le _) (by omega)
              · have e35 : 40 < n.toInt := by have := i_lt.mp (Int32.not_le.mp c51); have h0 : (40 : Int32).toInt = 40 := rfl; omega
                refine v_aload_n (pc := 54) 0 g dX5_sheet_54 rfl rfl ?_
                refine v_ldc (pc := 55) g dX5_sheet_55 co_X5_44 ?_
                refine v_cVd (pc := 57) g dX5_sheet_57 lk_X5_81 (c_X5_finds _ 0 (-1000000001) (by decide) (by decide)) (Nat.le_of_ble_eq_true rfl) rfl rfl rfl rfl (Nat.le_of_ble_eq_true rfl) ?_
                exact v_iret (pc := 60) g hret dX5_sheet_60 (⟨so_i (by unfold r_25; rw [if_pos hC, if_neg e22, if_pos e35]), by unfold w_25 z_25 q_25 f_25; rw [if_pos hC, if_neg e22, if_pos e35, if_neg (fun z => by have := z.2; omega), if_neg (fun z => by have := z.2; omega), if_neg (fun z => by have := z.2; omega)]⟩)
            · have e22 : n.toInt < 0 := by have := i_lt.mp (Int32.not_le.mp c37); have h0 : (0 : Int32).toInt = 0 := rfl; omega
              refine v_aload_n (pc := 40) 0 g dX5_sheet_40 rfl rfl ?_
              refine v_ldcw (pc := 41) g dX5_sheet_41 co_X5_266 ?_
              refine v_cVd (pc := 44) g dX5_sheet_44 lk_X5_81 (c_X5_finds _ 6 (-1000000007) (by decide) (by decide)) (Nat.le_of_ble_eq_true rfl) rfl rfl rfl rfl (Nat.le_of_ble_eq_true rfl) ?_
              exact v_iret (pc := 47) g hret dX5_sheet_47 (⟨so_i (by unfold r_25; rw [if_pos hC, if_pos e22]), by unfold w_25 z_25 q_25 f_25; rw [if_pos hC, if_pos e22, if_neg (fun z => by have := z.2; omega), if_neg (fun z => by have := z.2; omega), if_neg (fun z => by have := z.2; omega)]⟩)
          · have hC : ¬ C25 s b := by first | exact fun z => c4 z.1 | exact fun z => absurd z.2 (by simp only [i_eq, Int32.reduceToInt] at *; omega)
            refine v_aload_n (pc := 29) 0 g dX5_sheet_29 rfl rfl ?_
            refine v_ldc (pc := 30) g dX5_sheet_30 co_X5_44 ?_
            refine v_cVd (pc := 32) g dX5_sheet_32 lk_X5_81 (c_X5_finds _ 0 (-1000000001) (by decide) (by decide)) (Nat.le_of_ble_eq_true rfl) rfl rfl rfl rfl (Nat.le_of_ble_eq_true rfl) ?_
            exact v_iret (pc := 35) g hret dX5_sheet_35 (⟨so_i (by unfold r_25; rw [if_neg hC]), by unfold w_25 z_25 q_25 f_25; rw [if_neg hC, if_neg (fun z => hC z.1), if_neg (fun z => hC z.1), if_neg (fun z => hC z.1)]⟩)
set_option maxRecDepth 20000 in
set_option maxHeartbeats 2000000 in
theorem c_X5_write (r : Nat → Int32) {fo : Nat → Int32} {of : Int32} {tr : Nat → Int32} {b1 : Nat → Int32} {ta : Nat → Int32} {tm : Nat} {so : Int32} {be : Int32} {te : Int32} {wo : Int64} {va : Int32} {gd : Int32} {bi : Nat → Int32} {si : Nat → Int32} {sh : Nat → Int64} {le : Nat → Int64} {im : Nat → Int32} {bf : Nat → Int32} {kp : Int32} (s i : Int32) (v : Int64) (hZ : ∀ k, inR (si k) 0 40) : RunD 2 yX5_write cX5_write 7 (some .long) [.ref 0, .int s, .int i, .long v] (mW r fo of tr b1 ta tm so be te wo va gd bi si sh le im bf kp) (some (.long (r_26 bi si sh s i))) (mW r (f_26 bi si fo s i) of tr b1 ta tm so be te wo va gd bi si (q_26 bi si sh s i v) le im bf kp) := by
  refine Runs.of (by decide) (Nat.le_of_ble_eq_true rfl) rfl ?_
  intro X g hret hnL
  refine v_iload_n (pc := 0) 1 g dX5_write_0 rfl rfl ?_
  refine v_cSd (pc := 1) g dX5_write_1 lk_X5_263 ((c_X5_isSheet _).any rfl rfl _) (Nat.le_of_ble_eq_true rfl) rfl rfl (Nat.le_of_ble_eq_true rfl) ?_
  refine v_ifb_ne (pc := 4) 15 g dX5_write_4 rfl (fun c4 => ?_) (fun c4 => ?_)
  · obtain ⟨z, hz, rfl⟩ := c4.nat (m := 3) (by omega)
    have ez : (nI z).toNatClampNeg = z := nI_clamp (by omega)
    refine v_aload_n (pc := 15) 0 g dX5_write_15 rfl rfl ?_
    refine v_get (pc := 16) g dX5_write_16 fl_X5_25 rfl rfl ?_
    refine v_iload_n (pc := 19) 1 g dX5_write_19 rfl rfl ?_
    refine v_ialdN (pc := 20) _ g dX5_write_20 rfl rfl (by omega) (Nat.le_of_ble_eq_true rfl) ?_
    refine v_if_ne (pc := 21) 33 g dX5_write_21 rfl (fun c21 => ?_) (fun c21 => ?_)
    · refine v_iload_n (pc := 33) 2 g dX5_write_33 rfl rfl ?_
      refine v_iconst (pc := 34) (v := 0) g dX5_write_34 (by decide) ?_
      refine v_aload_n (pc := 35) 0 g dX5_write_35 rfl rfl ?_
      refine v_get (pc := 36) g dX5_write_36 fl_X5_28 rfl rfl ?_
      refine v_iload_n (pc := 39) 1 g dX5_write_39 rfl rfl ?_
      refine v_ialdN (pc := 40) _ g dX5_write_40 rfl rfl (by omega) (Nat.le_of_ble_eq_true rfl) ?_
      refine v_iconst (pc := 41) (v := 1) g dX5_write_41 (by decide) ?_
      refine v_isub (pc := 42) g dX5_write_42 ?_
      refine v_cSd (pc := 43) g dX5_write_43 lk_X5_45 ((c_X5_in _ _ _ 0 ((si z).toInt - 1) rfl (by obtain ⟨a, ha, ea⟩ := (hZ z).nat (m := 40) (by omega); rw [ea]; show (nI a - nI 1).toInt = _; rw [pk_sub_toInt (by omega) (by omega), nI_toInt (by omega)]; rfl)).any rfl rfl _) (Nat.le_of_ble_eq_true rfl) rfl rfl (Nat.le_of_ble_eq_true rfl) ?_
      refine v_ifb_ne (pc := 46) 57 g dX5_write_46 rfl (fun c46 => ?_) (fun c46 => ?_)
      · obtain ⟨j, hj, rfl⟩ := (show inR i 0 ((39 : Nat) : Int) from ⟨c46.1, by have := c46.2; have := (hZ z).2; omega⟩).nat (by omega)
        have ej : (nI j).toNatClampNeg = j := nI_clamp (by omega)
        refine v_aload_n (pc := 57) 0 g dX5_write_57 rfl rfl ?_
        refine v_get (pc := 58) g dX5_write_58 fl_X5_31 rfl rfl ?_
        refine v_bipush (pc := 61) (v := 40) g dX5_write_61 (by decide) ?_
        refine v_iload_n (pc := 63) 1 g dX5_write_63 rfl rfl ?_
        refine v_imul (pc := 64) g dX5_write_64 ?_
        refine v_iload_n (pc := 65) 2 g dX5_write_65 rfl rfl ?_
        refine v_iadd (pc := 66) g dX5_write_66 ?_
        refine v_laldN (pc := 67) _ g dX5_write_67 rfl (ix_s2 z j) (by omega) (Nat.le_of_ble_eq_true rfl) ?_
        refine v_lstore (pc := 68) _ g dX5_write_68 (Nat.le_of_ble_eq_true rfl) hnL.symm rfl ?_
        refine v_aload_n (pc := 70) 0 g dX5_write_70 rfl rfl ?_
        refine v_get (pc := 71) g dX5_write_71 fl_X5_31 rfl rfl ?_
        refine v_bipush (pc := 74) (v := 40) g dX5_write_74 (by decide) ?_
        refine v_iload_n (pc := 76) 1 g dX5_write_76 rfl rfl ?_
        refine v_imul (pc := 77) g dX5_write_77 ?_
        refine v_iload_n (pc := 78) 2 g dX5_write_78 rfl rfl ?_
        refine v_iadd (pc := 79) g dX5_write_79 ?_
        refine v_aload_n (pc := 80) 0 g dX5_write_80 rfl rfl ?_
        refine v_get (pc := 81) g dX5_write_81 fl_X5_25 rfl rfl ?_
        refine v_iload_n (pc := 84) 1 g dX5_write_84 rfl rfl ?_
        refine v_ialdN (pc := 85) _ g dX5_write_85 rfl rfl (by omega) (Nat.le_of_ble_eq_true rfl) ?_
        refine v_lload_n (pc := 86) 3 g dX5_write_86 rfl rfl ?_
        refine v_cSd (pc := 87) g dX5_write_87 lk_X5_268 ((c_X5_narrow _ _).any rfl rfl _) (Nat.le_of_ble_eq_true rfl) rfl rfl (Nat.le_of_ble_eq_true rfl) ?_
        refine v_lastN (pc := 90) _ _ g dX5_write_90 rfl (ix_s2 z j) (by omega) (Nat.le_of_ble_eq_true rfl) rfl ?_
        refine v_lload (pc := 91) g dX5_write_91 rfl ?_
        exact v_lret (pc := 93) g hret dX5_write_93 (⟨so_l (by unfold r_26; rw [if_pos c4, ez]; unfold r26k; rw [if_neg c21, if_pos c46, ej]; try rfl), by unfold q_26 f_26; rw [if_pos c4, if_pos c4, ez]; unfold q26k f26k; rw [if_neg c21, if_pos c46, if_neg c21, if_pos c46, ej]; try rfl⟩)
      · refine v_aload_n (pc := 49) 0 g dX5_write_49 rfl rfl ?_
        refine v_ldc (pc := 50) g dX5_write_50 co_X5_44 ?_
        refine v_cVd (pc := 52) g dX5_write_52 lk_X5_81 (c_X5_finds _ 0 (-1000000001) (by decide) (by decide)) (Nat.le_of_ble_eq_true rfl) rfl rfl rfl rfl (Nat.le_of_ble_eq_true rfl) ?_
        refine v_i2l (pc := 55) g dX5_write_55 ?_
        exact v_lret (pc := 56) g hret dX5_write_56 (⟨so_l (by unfold r_26; rw [if_pos c4, ez]; unfold r26k; rw [if_neg c21, if_neg c46]; try rfl), by unfold q_26 f_26; rw [if_pos c4, if_pos c4, ez]; unfold q26k f26k; rw [if_neg c21, if_neg c46, if_neg c21, if_neg c46]; try rfl⟩)
    · refine v_aload_n (pc := 24) 0 g dX5_write_24 rfl rfl ?_
      refine v_ldcw (pc := 25) g dX5_write_25 co_X5_267 ?_
      refine v_cVd (pc := 28) g dX5_write_28 lk_X5_81 (c_X5_finds _ 5 (-1000000006) (by decide) (by decide)) (Nat.le_of_ble_eq_true rfl) rfl rfl rfl rfl (Nat.le_of_ble_eq_true rfl) ?_
      refine v_i2l (pc := 31) g dX5_write_31 ?_
      exact v_lret (pc := 32) g hret dX5_write_32 (⟨so_l (by unfold r_26; rw [if_pos c4, ez]; unfold r26k; rw [if_pos c21]; try rfl), by unfold q_26 f_26; rw [if_pos c4, if_pos c4, ez]; unfold q26k f26k; rw [if_pos c21, if_pos c21]; try rfl⟩)
  · refine v_aload_n (pc := 7) 0 g dX5_write_7 rfl rfl ?_
    refine v_ldc (pc := 8) g dX5_write_8 co_X5_44 ?_
    refine v_cVd (pc := 10) g dX5_write_10 lk_X5_81 (c_X5_finds _ 0 (-1000000001) (by decide) (by decide)) (Nat.le_of_ble_eq_true rfl) rfl rfl rfl rfl (Nat.le_of_ble_eq_true rfl) ?_
    refine v_i2l (pc := 13) g dX5_write_13 ?_
    exact v_lret (pc := 14) g hret dX5_write_14 (⟨so_l (by unfold r_26; rw [if_neg c4]; rfl), by unfold q_26 f_26; rw [if_neg c4, if_neg c4]⟩)
set_option maxRecDepth 20000 in
set_option maxHeartbeats 2000000 in
theorem c_X5_badSheet (r : Nat → Int32) {fo : Nat → Int32} {of : Int32} {tr : Nat → Int32} {b1 : Nat → Int32} {ta : Nat → Int32} {tm : Nat} {so : Int32} {be : Int32} {te : Int32} {wo : Int64} {va : Int32} {gd : Int32} {bi : Nat → Int32} {si : Nat → Int32} {sh : Nat → Int64} {le : Nat → Int64} {im : Nat → Int32} {bf : Nat → Int32} {kp : Int32} (s : Int32) : RunD 2 yX5_badSheet cX5_badSheet 2 (some .int) [.ref 0, .int s] (mW r fo of tr b1 ta tm so be te wo va gd bi si sh le im bf kp) (some (.int (bdS bi s))) (mW r fo of tr b1 ta tm so be te wo va gd bi si sh le im bf kp) := by
  refine Runs.of (by decide) (Nat.le_of_ble_eq_true rfl) rfl ?_
  intro X g hret hnL
  refine v_iload_n (pc := 0) 1 g dX5_badSheet_0 rfl rfl ?_
  refine v_cSd (pc := 1) g dX5_badSheet_1 lk_X5_263 ((c_X5_isSheet _).any rfl rfl _) (Nat.le_of_ble_eq_true rfl) rfl rfl (Nat.le_of_ble_eq_true rfl) ?_
  refine v_ifb_ne (pc := 4) 12 g dX5_badSheet_4 rfl (fun c4 => ?_) (fun c4 => ?_)
  · obtain ⟨z, hz, rfl⟩ := c4.nat (m := 3) (by omega)
    have ez : (nI z).toNatClampNeg = z := nI_clamp (by omega)
    refine v_aload_n (pc := 12) 0 g dX5_badSheet_12 rfl rfl ?_
    refine v_get (pc := 13) g dX5_badSheet_13 fl_X5_25 rfl rfl ?_
    refine v_iload_n (pc := 16) 1 g dX5_badSheet_16 rfl rfl ?_
    refine v_ialdN (pc := 17) _ g dX5_badSheet_17 rfl rfl (by omega) (Nat.le_of_ble_eq_true rfl) ?_
    refine v_if_ne (pc := 18) 27 g dX5_badSheet_18 rfl (fun c18 => ?_) (fun c18 => ?_)
    · refine v_iconst (pc := 27) (v := 0) g dX5_badSheet_27 (by decide) ?_
      exact v_iret (pc := 28) g hret dX5_badSheet_28 (⟨so_i (by unfold bdS; first | (rw [if_neg c4]; done) | (rw [if_pos c4, ez, if_pos c18]; done) | (rw [if_pos c4, ez, if_neg c18]; done)), rfl⟩)
    · refine v_ldcw (pc := 21) g dX5_badSheet_21 co_X5_267 ?_
      refine v_goto (pc := 24) 28 g dX5_badSheet_24 rfl ?_
      exact v_iret (pc := 28) g hret dX5_badSheet_28 (⟨so_i (by unfold bdS; first | (rw [if_neg c4]; done) | (rw [if_pos c4, ez, if_pos c18]; done) | (rw [if_pos c4, ez, if_neg c18]; done)), rfl⟩)
  · refine v_ldc (pc := 7) g dX5_badSheet_7 co_X5_44 ?_
    refine v_goto (pc := 9) 28 g dX5_badSheet_9 rfl ?_
    exact v_iret (pc := 28) g hret dX5_badSheet_28 (⟨so_i (by unfold bdS; first | (rw [if_neg c4]; done) | (rw [if_pos c4, ez, if_pos c18]; done) | (rw [if_pos c4, ez, if_neg c18]; done)), rfl⟩)
set_option maxRecDepth 20000 in
set_option maxHeartbeats 2000000 in
theorem c_X5_isPart3 (r : Nat → Int32) {fo : Nat → Int32} {of : Int32} {tr : Nat → Int32} {b1 : Nat → Int32} {ta : Nat → Int32} {tm : Nat} {so : Int32} {be : Int32} {te : Int32} {wo : Int64} {va : Int32} {gd : Int32} {bi : Nat → Int32} {si : Nat → Int32} {sh : Nat → Int64} {le : Nat → Int64} {im : Nat → Int32} {bf : Nat → Int32} {kp : Int32} (s : Nat) (f n : Int32) (hs : s < 4) (hz : inR (si s) 0 40) : RunD 0 yX5_isPart_ cX5_isPart_ 4 (some .boolean) [.ref 0, .int (nI s), .int f, .int n] (mW r fo of tr b1 ta tm so be te wo va gd bi si sh le im bf kp) (some (.int (bI (hrun (si s) f n)))) (mW r fo of tr b1 ta tm so be te wo va gd bi si sh le im bf kp) := by
  refine Runs.of (by decide) (Nat.le_of_ble_eq_true rfl) rfl ?_
  intro X g hret hnL
  have hq : 0 ≤ n.toInt → n.toInt ≤ (si s).toInt → (si s - n).toInt = (si s).toInt - n.toInt := subT hz
  refine v_iload_n (pc := 0) 2 g dX5_isPart__0 rfl rfl ?_
  refine v_if_lt (pc := 1) 34 g dX5_isPart__1 rfl (fun c1 => ?_) (fun c1 => ?_)
  · refine v_iconst (pc := 34) (v := 0) g dX5_isPart__34 (by decide) ?_
    exact v_zret (pc := 35) g hret dX5_isPart__35 (by first | exact nb1 | exact nb0 | exact nbI) (by first | (refine ⟨so1 ?_, rfl⟩; simp only [i_lt, i_le, i_eq, Int32.reduceToInt] at *; omega) | (refine ⟨so0 ?_, rfl⟩; simp only [i_lt, i_le, i_eq, Int32.reduceToInt] at *; omega))
  · refine v_iload_n (pc := 4) 3 g dX5_isPart__4 rfl rfl ?_
    refine v_if_lt (pc := 5) 34 g dX5_isPart__5 rfl (fun c5 => ?_) (fun c5 => ?_)
    · refine v_iconst (pc := 34) (v := 0) g dX5_isPart__34 (by decide) ?_
      exact v_zret (pc := 35) g hret dX5_isPart__35 (by first | exact nb1 | exact nb0 | exact nbI) (by first | (refine ⟨so1 ?_, rfl⟩; simp only [i_lt, i_le, i_eq, Int32.reduceToInt] at *; omega) | (refine ⟨so0 ?_, rfl⟩; simp only [i_lt, i_le, i_eq, Int32.reduceToInt] at *; omega))
    · refine v_iload_n (pc := 8) 3 g dX5_isPart__8 rfl rfl ?_
      refine v_aload_n (pc := 9) 0 g dX5_isPart__9 rfl rfl ?_
      refine v_get (pc := 10) g dX5_isPart__10 fl_X5_28 rfl rfl ?_
      refine v_iload_n (pc := 13) 1 g dX5_isPart__13 rfl rfl ?_
      refine v_ialdN (pc := 14) _ g dX5_isPart__14 rfl rfl (by omega) (Nat.le_of_ble_eq_true rfl) ?_
      refine v_icmp_gt (pc := 15) 34 g dX5_isPart__15 rfl (fun c15 => ?_) (fun c15 => ?_)
      · refine v_iconst (pc := 34) (v := 0) g dX5_isPart__34 (by decide) ?_
        exact v_zret (pc := 35) g hret dX5_isPart__35 (by first | exact nb1 | exact nb0 | exact nbI) (by first | (refine ⟨so1 ?_, rfl⟩; simp only [i_lt, i_le, i_eq, Int32.reduceToInt] at *; omega) | (refine ⟨so0 ?_, rfl⟩; simp only [i_lt, i_le, i_eq, Int32.reduceToInt] at *; omega))
      · refine v_iload_n (pc := 18) 2 g dX5_isPart__18 rfl rfl ?_
        refine v_aload_n (pc := 19) 0 g dX5_isPart__19 rfl rfl ?_
        refine v_get (pc := 20) g dX5_isPart__20 fl_X5_28 rfl rfl ?_
        refine v_iload_n (pc := 23) 1 g dX5_isPart__23 rfl rfl ?_
        refine v_ialdN (pc := 24) _ g dX5_isPart__24 rfl rfl (by omega) (Nat.le_of_ble_eq_true rfl) ?_
        refine v_iload_n (pc := 25) 3 g dX5_isPart__25 rfl rfl ?_
        refine v_isub (pc := 26) g dX5_isPart__26 ?_
        refine v_icmp_gt (pc := 27) 34 g dX5_isPart__27 rfl (fun c27 => ?_) (fun c27 => ?_)
        · refine v_iconst (pc := 34) (v := 0) g dX5_isPart__34 (by decide) ?_
          exact v_zret (pc := 35) g hret dX5_isPart__35 (by first | exact nb1 | exact nb0 | exact nbI) (by first | (refine ⟨so1 ?_, rfl⟩; simp only [i_lt, i_le, i_eq, Int32.reduceToInt] at *; omega) | (refine ⟨so0 ?_, rfl⟩; simp only [i_lt, i_le, i_eq, Int32.reduceToInt] at *; omega))
        · refine v_iconst (pc := 30) (v := 1) g dX5_isPart__30 (by decide) ?_
          refine v_goto (pc := 31) 35 g dX5_isPart__31 rfl ?_
          exact v_zret (pc := 35) g hret dX5_isPart__35 (by first | exact nb1 | exact nb0 | exact nbI) (by first | (refine ⟨so1 ?_, rfl⟩; simp only [i_lt, i_le, i_eq, Int32.reduceToInt] at *; omega) | (refine ⟨so0 ?_, rfl⟩; simp only [i_lt, i_le, i_eq, Int32.reduceToInt] at *; omega))
