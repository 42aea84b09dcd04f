/-! ===== the reference: its calls, VI: tape and sheets ===== -/
theorem lst0 {f : Nat → Int32} {a : Nat} (ha : a ≤ 119988) (e : f 0 = nI a) : f 0 < (lst f 0).2 := by
  rw [e, i_lt, nI_toInt (by omega)]
  show (a : Int) < (2147483647 : Int32).toInt
  have : (2147483647 : Int32).toInt = 2147483647 := rfl
  omega
theorem bmE (x : Int) (k : Nat) (hk : 0 < k) : ∃ q : Int, x.bmod (2 * k) = x - 2 * k * q ∧ -(k : Int) ≤ x.bmod (2 * k) ∧ x.bmod (2 * k) < k := by
  have h1 := Int.emod_add_mul_ediv x ((2 * k : Nat) : Int)
  have h2 := Int.emod_nonneg x (b := ((2 * k : Nat) : Int)) (by omega)
  have h3 := Int.emod_lt_of_pos x (b := ((2 * k : Nat) : Int)) (by omega)
  have e : ((2 * k : Nat) : Int) = 2 * (k : Int) := by omega
  unfold Int.bmod
  dsimp only
  split
  · exact ⟨x / ((2 * k : Nat) : Int), by rw [← e]; omega, by omega, by omega⟩
  · exact ⟨x / ((2 * k : Nat) : Int) + 1, by rw [← e, Int.mul_add]; omega, by omega, by omega⟩
theorem cut8 (v : Int64) : (v <<< ((56 : Int32).toInt64 &&& 63)) >>> ((56 : Int32).toInt64 &&& 63) = v.toInt32.toInt8.toInt32.toInt64 := by
  rw [show (56 : Int32).toInt64 &&& 63 = 56 by decide]
  apply Int64.toInt_inj.mp
  rw [Int32.toInt_toInt64, Int8.toInt_toInt32, Int32.toInt_toInt8, Int64.toInt_toInt32]
  have h0 : v.toInt = (v.toBitVec.toNat : Int).bmod (2 ^ 64) := BitVec.toInt_eq_toNat_bmod v.toBitVec
  have h1 : (v <<< 56 >>> 56).toInt = ((v.toBitVec <<< 56).sshiftRight 56).toInt := rfl
  rw [h1, h0, BitVec.toInt_sshiftRight, BitVec.toInt_shiftLeft, Int.shiftRight_eq_div_pow, Nat.shiftLeft_eq]
  have h2 : v.toBitVec.toNat < 2 ^ 64 := v.toBitVec.isLt
  generalize v.toBitVec.toNat = u at h2
  obtain ⟨q1, e1, a1, b1⟩ := bmE (u : Int) 9223372036854775808 (by omega)
  generalize (u : Int).bmod (2 ^ 64) = x1 at *
  obtain ⟨q2, e2, a2, b2⟩ := bmE x1 2147483648 (by omega)
  generalize x1.bmod (2 ^ 32) = x2 at *
  obtain ⟨q3, e3, a3, b3⟩ := bmE x2 128 (by omega)
  generalize x2.bmod (2 ^ 8) = x3 at *
  obtain ⟨q4, e4, a4, b4⟩ := bmE ((u * 2 ^ 56 : Nat) : Int) 9223372036854775808 (by omega)
  generalize ((u * 2 ^ 56 : Nat) : Int).bmod (2 ^ 64) = x4 at *
  omega
theorem cut16 (v : Int64) : (v <<< ((48 : Int32).toInt64 &&& 63)) >>> ((48 : Int32).toInt64 &&& 63) = v.toInt32.toInt16.toInt32.toInt64 := by
  rw [show (48 : Int32).toInt64 &&& 63 = 48 by decide]
  apply Int64.toInt_inj.mp
  rw [Int32.toInt_toInt64, Int16.toInt_toInt32, Int32.toInt_toInt16, Int64.toInt_toInt32]
  have h0 : v.toInt = (v.toBitVec.toNat : Int).bmod (2 ^ 64) := BitVec.toInt_eq_toNat_bmod v.toBitVec
  have h1 : (v <<< 48 >>> 48).toInt = ((v.toBitVec <<< 48).sshiftRight 48).toInt := rfl
  rw [h1, h0, BitVec.toInt_sshiftRight, BitVec.toInt_shiftLeft, Int.shiftRight_eq_div_pow, Nat.shiftLeft_eq]
  have h2 : v.toBitVec.toNat < 2 ^ 64 := v.toBitVec.isLt
  generalize v.toBitVec.toNat = u at h2
  obtain ⟨q1, e1, a1, b1⟩ := bmE (u : Int) 9223372036854775808 (by omega)
  generalize (u : Int).bmod (2 ^ 64) = x1 at *
  obtain ⟨q2, e2, a2, b2⟩ := bmE x1 2147483648 (by omega)
  generalize x1.bmod (2 ^ 32) = x2 at *
  obtain ⟨q3, e3, a3, b3⟩ := bmE x2 32768 (by omega)
  generalize x2.bmod (2 ^ 16) = x3 at *
  obtain ⟨q4, e4, a4, b4⟩ := bmE ((u * 2 ^ 48 : Nat) : Int) 9223372036854775808 (by omega)
  generalize ((u * 2 ^ 48 : Nat) : Int).bmod (2 ^ 64) = x4 at *
  omega
set_option maxRecDepth 20000 in
set_option maxHeartbeats 2000000 in
theorem c_X5_dear (S : St) {fo : Nat → Int32} {of : Int32} {tr : Nat → Int32} {b1 : Nat → Int32} {ta : Nat → Int32} {tm : Nat} {so : Int32} {be : Int32} {te : Int32} {wo : Int64} {va : Int32} {gd : Int32} {bi : Nat → Int32} {si : Nat → Int32} {sh : Nat → Int64} {le : Nat → Int64} {im : Nat → Int32} {bf : Nat → Int32} {kp : Int32} (n : Int32) (hI : Inv S) : Runs 8 yX5_dear cX5_dear 7 (some .int) [.ref 0, .int n] (mW (rowOf S) fo of tr b1 ta tm so be te wo va gd bi si sh le im bf kp) (fun r0 w0 => ∃ o1 t1, r0 = some (.int (r_20 S n)) ∧ w0 = mW (rowOf S) (f_15 S fo n) o1 t1 b1 ta tm so be te wo va gd bi si sh le im bf kp) := by
  refine Runs.of (by decide) (Nat.le_of_ble_eq_true rfl) rfl ?_
  intro X g hret hnL
  refine v_iload_n (pc := 0) 1 g dX5_dear_0 rfl rfl ?_
  refine v_iconst (pc := 1) (v := 1) g dX5_dear_1 (by decide) ?_
  refine v_bipush (pc := 2) (v := 60) g dX5_dear_2 (by decide) ?_
  refine v_cSd (pc := 4) g dX5_dear_4 lk_X5_45 ((c_X5_in _ _ _ 1 60 rfl rfl).any rfl rfl _) (Nat.le_of_ble_eq_true rfl) rfl rfl (Nat.le_of_ble_eq_true rfl) ?_
  refine v_ifb_ne (pc := 7) 17 g dX5_dear_7 rfl (fun c7 => ?_) (fun c7 => ?_)
  · obtain ⟨m, hm, rfl⟩ := (show inR n 0 ((60 : Nat) : Int) from ⟨by have := c7.1; omega, c7.2⟩).nat (by omega)
    have em : (nI m).toNatClampNeg = m := nI_clamp (by omega)
    refine v_aload_n (pc := 17) 0 g dX5_dear_17 rfl rfl ?_
    refine v_iconst (pc := 18) (v := 1) g dX5_dear_18 (by decide) ?_
    refine v_aload_n (pc := 19) 0 g dX5_dear_19 rfl rfl ?_
    refine v_get (pc := 20) g dX5_dear_20 fl_X5_16 rfl rfl ?_
    refine v_cVd (pc := 23) g dX5_dear_23 lk_X5_156 (c_mvK_tr (rowOf S)) (Nat.le_of_ble_eq_true rfl) rfl rfl rfl rfl (Nat.le_of_ble_eq_true rfl) ?_
    refine v_iconst (pc := 26) (v := (-1)) g dX5_dear_26 (by decide) ?_
    refine v_istore_n (pc := 27) 2 _ g dX5_dear_27 rfl (Nat.le_of_ble_eq_true rfl) hnL.symm rfl ?_
    refine v_iconst (pc := 28) (v := 0) g dX5_dear_28 (by decide) ?_
    refine v_istore_n (pc := 29) 3 _ g dX5_dear_29 rfl (Nat.le_of_ble_eq_true rfl) hnL.symm rfl ?_
    refine v_iconst (pc := 30) (v := 0) g dX5_dear_30 (by decide) ?_
    refine v_istore (pc := 31) _ g dX5_dear_31 (Nat.le_of_ble_eq_true rfl) hnL.symm rfl ?_
    refine v_fg [true, true, true, true, true, false, false] ?_
    have L33 : ∀ (fu : Nat) (of : Int32) (k : Nat), k ≤ sN S → sN S - k < fu → V X 33 [some (.ref 0), some (.int (nI m)), some (.int (lw1 (fun c => rd m (co0 S c)) (k))), some (.int (lw2 (fun c => rd m (co0 S c)) (k))), some (.int (nI (k))), none, none] [] (mW (rowOf S) fo of (rowOf S) b1 ta tm so be te wo va gd bi si sh le im bf kp) := by
      intro fu
      induction fu with
      | zero => intro of k hk hm; exact absurd hm (Nat.not_lt_zero _)
      | succ fu ih =>
        intro of k hk hm
        refine v_iload (pc := 33) g dX5_dear_33 rfl ?_
        refine v_aload_n (pc := 35) 0 g dX5_dear_35 rfl rfl ?_
        refine v_get (pc := 36) g dX5_dear_36 fl_X5_7 rfl rfl ?_
        refine v_iconst (pc := 39) (v := 2) g dX5_dear_39 (by decide) ?_
        refine v_ialdN (pc := 40) _ g dX5_dear_40 rfl rfl (Nat.le_of_ble_eq_true rfl) (Nat.le_of_ble_eq_true rfl) ?_
        rw [row_N]
        refine v_icmp_ge (pc := 41) 106 g dX5_dear_41 rfl (fun c41 => ?_) (fun c41 => ?_)
        · have e41 : k = sN S := ge_t (n := sN S) rfl hk (by have := hI.n; omega) c41
          subst e41
          refine v_iload_n (pc := 106) 2 g dX5_dear_106 rfl rfl ?_
          refine v_if_ge (pc := 107) 119 g dX5_dear_107 rfl (fun c107 => ?_) (fun c107 => ?_)
          · have e93 : ¬ sN S = 0 := fun z => by unfold lw1 at c107; rw [if_pos z] at c107; exact absurd c107 (by decide)
            refine v_iload_n (pc := 119) 2 g dX5_dear_119 rfl rfl ?_
            exact v_iret (pc := 120) g hret dX5_dear_120 (by first | exact ⟨_, _, so_i (by unfold r_20 r20k; rw [if_pos c7, if_neg e93, em]; unfold lw1; rw [if_neg e93]), by unfold f_15 f15k; rw [if_pos c7, if_neg e93]⟩ | exact ⟨_, _, so_i (by unfold r_20 r20k; rw [if_pos c7, if_pos e93]), by unfold f_15 f15k; rw [if_pos c7, if_pos e93]⟩)
          · have e93 : sN S = 0 := by rcases Nat.eq_zero_or_pos (sN S) with z | z; exact z; exact absurd (by unfold lw1; rw [if_neg (by omega)]; obtain ⟨j, hj, e⟩ := lst_nat (fun c => rd m (co0 S c)) (sN S); rw [e]; exact nI_pos' (by have := hI.n; omega)) c107
            refine v_aload_n (pc := 110) 0 g dX5_dear_110 rfl rfl ?_
            refine v_ldc (pc := 111) g dX5_dear_111 co_X5_166 ?_
            refine v_cVd (pc := 113) g dX5_dear_113 lk_X5_81 (c_X5_finds _ 3 (-1000000004) (by decide) (by decide)) (Nat.le_of_ble_eq_true rfl) rfl rfl rfl rfl (Nat.le_of_ble_eq_true rfl) ?_
            refine v_goto (pc := 116) 120 g dX5_dear_116 rfl ?_
            exact v_iret (pc := 120) g hret dX5_dear_120 (by first | exact ⟨_, _, so_i (by unfold r_20 r20k; rw [if_pos c7, if_neg e93, em]; unfold lw1; rw [if_neg e93]), by unfold f_15 f15k; rw [if_pos c7, if_neg e93]⟩ | exact ⟨_, _, so_i (by unfold r_20 r20k; rw [if_pos c7, if_pos e93]), by unfold f_15 f15k; rw [if_pos c7, if_pos e93]⟩)
        · have e41 : k < sN S := ge_f (n := sN S) rfl hk (by have := hI.n; omega) c41
          refine v_aload_n (pc := 44) 0 g dX5_dear_44 rfl rfl ?_
          refine v_iload (pc := 45) g dX5_dear_45 rfl ?_
          refine v_iconst (pc := 47) (v := 3) g dX5_dear_47 (by decide) ?_
          refine v_iconst (pc := 48) (v := 0) g dX5_dear_48 (by decide) ?_
          refine v_cVd (pc := 49) g dX5_dear_49 lk_X5_99 (c_pu_Co S k 0 (by have := hI.n; omega)) (Nat.le_of_ble_eq_true rfl) rfl rfl rfl rfl (Nat.le_of_ble_eq_true rfl) ?_
          refine v_w (mW (rowOf (co0 S k)) fo of (rowOf S) b1 ta tm so be te wo va gd bi si sh le im bf kp) rfl ?_
          refine v_aload_n (pc := 52) 0 g dX5_dear_52 rfl rfl ?_
          refine v_iload_n (pc := 53) 1 g dX5_dear_53 rfl rfl ?_
          refine v_cVd (pc := 54) g dX5_dear_54 lk_X5_167 (c_X5_readBehind (tr := tr) (co0 S k) S m (hI.co0 k) (by omega)) (Nat.le_of_ble_eq_true rfl) rfl rfl rfl rfl (Nat.le_of_ble_eq_true rfl) ?_
          refine v_istore (pc := 57) _ g dX5_dear_57 (Nat.le_of_ble_eq_true rfl) hnL.symm rfl ?_
          refine v_iload_n (pc := 59) 2 g dX5_dear_59 rfl rfl ?_
          refine v_if_lt (pc := 60) 69 g dX5_dear_60 rfl (fun c60 => ?_) (fun c60 => ?_)
          · have e60 : k = 0 := by rcases Nat.eq_zero_or_pos k with z | z; exact z; exact absurd c60 (by unfold lw1; rw [if_neg (by omega)]; obtain ⟨j, hj, e⟩ := lst_nat (fun c => rd m (co0 S c)) k; rw [e]; exact nI_pos (by have := hI.n; omega))
            have hD : (fun c => rd m (co0 S c)) k < (lst (fun c => rd m (co0 S c)) k).2 := by subst e60; obtain ⟨a, ha, ea⟩ := rd_nat m (hI.co0 0); exact lst0 ha ea
            refine v_iconst (pc := 69) (v := 1) g dX5_dear_69 (by decide) ?_
            refine v_goto (pc := 70) 74 g dX5_dear_70 rfl ?_
            refine v_stE [.int (bI ((fun c => rd m (co0 S c)) k < (lst (fun c => rd m (co0 S c)) k).2))] (by first | (rw [bI_1 hD]; first | done | rfl) | (rw [bI_0 hD]; first | done | rfl)) ?_
            refine v_istore (pc := 74) _ g dX5_dear_74 (Nat.le_of_ble_eq_true rfl) hnL.symm rfl ?_
            refine v_iload (pc := 76) g dX5_dear_76 rfl ?_
            refine v_ifb_eq (pc := 78) 86 g dX5_dear_78 rfl (fun c78 => ?_) (fun c78 => ?_)
            · have k0 : ¬ k = 0 := fun z => by subst z; obtain ⟨a, ha, ea⟩ := rd_nat m (hI.co0 0); exact c78 (lst0 (f := (fun c => rd m (co0 S c))) ha ea)
              have el : lst (fun c => rd m (co0 S c)) (k + 1) = lst (fun c => rd m (co0 S c)) k := if_neg c78
              have e1 : lw1 (fun c => rd m (co0 S c)) (k + 1) = lw1 (fun c => rd m (co0 S c)) k := by unfold lw1; rw [if_neg (by omega), if_neg k0, el]
              have e2 : lw2 (fun c => rd m (co0 S c)) (k + 1) = lw2 (fun c => rd m (co0 S c)) k := by unfold lw2; rw [if_neg (by omega), if_neg k0, el]
              refine v_iload_n (pc := 86) 2 g dX5_dear_86 rfl rfl ?_
              refine v_istore_n (pc := 87) 2 _ g dX5_dear_87 rfl (Nat.le_of_ble_eq_true rfl) hnL.symm rfl ?_
              refine v_iload (pc := 88) g dX5_dear_88 rfl ?_
              refine v_ifb_eq (pc := 90) 98 g dX5_dear_90 rfl (fun c90 => ?_) (fun c90 => ?_)
              · refine v_iload_n (pc := 98) 3 g dX5_dear_98 rfl rfl ?_
                refine v_istore_n (pc := 99) 3 _ g dX5_dear_99 rfl (Nat.le_of_ble_eq_true rfl) hnL.symm rfl ?_
                refine v_iincN (pc := 100) g dX5_dear_100 rfl hnL.symm ?_
                refine v_goto (pc := 103) 33 g dX5_dear_103 rfl ?_
                refine v_fg [true, true, true, true, true, false, false] ?_
                first | exact absurd c78 c90 | exact absurd c90 c78 | (refine v_loE [some (.ref 0), some (.int (nI m)), some (.int (lw1 (fun c => rd m (co0 S c)) (k + 1))), some (.int (lw2 (fun c => rd m (co0 S c)) (k + 1))), some (.int (nI (k + 1))), none, none] (by rw [e1, e2]; rfl) ?_; exact ih _ (k + 1) (by omega) (by omega))
              · refine v_iload (pc := 93) g dX5_dear_93 rfl ?_
                refine v_goto (pc := 95) 99 g dX5_dear_95 rfl ?_
                refine v_istore_n (pc := 99) 3 _ g dX5_dear_99 rfl (Nat.le_of_ble_eq_true rfl) hnL.symm rfl ?_
                refine v_iincN (pc := 100) g dX5_dear_100 rfl hnL.symm ?_
                refine v_goto (pc := 103) 33 g dX5_dear_103 rfl ?_
                refine v_fg [true, true, true, true, true, false, false] ?_
                first | exact absurd c78 c90 | exact absurd c90 c78 | (refine v_loE [some (.ref 0), some (.int (nI m)), some (.int (lw1 (fun c => rd m (co0 S c)) (k + 1))), some (.int (lw2 (fun c => rd m (co0 S c)) (k + 1))), some (.int (nI (k + 1))), none, none] (by rw [e1, e2]; rfl) ?_; exact ih _ (k + 1) (by omega) (by omega))
            · have el : lst (fun c => rd m (co0 S c)) (k + 1) = (nI k, rd m (co0 S k)) := if_pos c78
              have e1 : lw1 (fun c => rd m (co0 S c)) (k + 1) = nI k := by unfold lw1; rw [if_neg (by omega), el]
              have e2 : lw2 (fun c => rd m (co0 S c)) (k + 1) = rd m (co0 S k) := by unfold lw2; rw [if_neg (by omega), el]
              refine v_iload (pc := 81) g dX5_dear_81 rfl ?_
              refine v_goto (pc := 83) 87 g dX5_dear_83 rfl ?_
              refine v_istore_n (pc := 87) 2 _ g dX5_dear_87 rfl (Nat.le_of_ble_eq_true rfl) hnL.symm rfl ?_
              refine v_iload (pc := 88) g dX5_dear_88 rfl ?_
              refine v_ifb_eq (pc := 90) 98 g dX5_dear_90 rfl (fun c90 => ?_) (fun c90 => ?_)
              · refine v_iload_n (pc := 98) 3 g dX5_dear_98 rfl rfl ?_
                refine v_istore_n (pc := 99) 3 _ g dX5_dear_99 rfl (Nat.le_of_ble_eq_true rfl) hnL.symm rfl ?_
                refine v_iincN (pc := 100) g dX5_dear_100 rfl hnL.symm ?_
                refine v_goto (pc := 103) 33 g dX5_dear_103 rfl ?_
                refine v_fg [true, true, true, true, true, false, false] ?_
                first | exact absurd c78 c90 | exact absurd c90 c78 | (refine v_loE [some (.ref 0), some (.int (nI m)), some (.int (lw1 (fun c => rd m (co0 S c)) (k + 1))), some (.int (lw2 (fun c => rd m (co0 S c)) (k + 1))), some (.int (nI (k + 1))), none, none] (by rw [e1, e2]; rfl) ?_; exact ih _ (k + 1) (by omega) (by omega))
              · refine v_iload (pc := 93) g dX5_dear_93 rfl ?_
                refine v_goto (pc := 95) 99 g dX5_dear_95 rfl ?_
                refine v_istore_n (pc := 99) 3 _ g dX5_dear_99 rfl (Nat.le_of_ble_eq_true rfl) hnL.symm rfl ?_
                refine v_iincN (pc := 100) g dX5_dear_100 rfl hnL.symm ?_
                refine v_goto (pc := 103) 33 g dX5_dear_103 rfl ?_
                refine v_fg [true, true, true, true, true, false, false] ?_
                first | exact absurd c78 c90 | exact absurd c90 c78 | (refine v_loE [some (.ref 0), some (.int (nI m)), some (.int (lw1 (fun c => rd m (co0 S c)) (k + 1))), some (.int (lw2 (fun c => rd m (co0 S c)) (k + 1))), some (.int (nI (k + 1))), none, none] (by rw [e1, e2]; rfl) ?_; exact ih _ (k + 1) (by omega) (by omega))
          · have e60 : ¬ k = 0 := fun z => c60 (by unfold lw1; rw [if_pos z]; decide)
            have ew : lw2 (fun c => rd m (co0 S c)) k = (lst (fun c => rd m (co0 S c)) k).2 := if_neg e60
            refine v_iload (pc := 63) g dX5_dear_63 rfl ?_
            refine v_iload_n (pc := 65) 3 g dX5_dear_65 rfl rfl ?_
            refine v_icmp_ge (pc := 66) 73 g dX5_dear_66 rfl (fun c66 => ?_) (fun c66 => ?_)
            · have hD : ¬ (fun c => rd m (co0 S c)) k < (lst (fun c => rd m (co0 S c)) k).2 := by rw [ew] at c66; exact Int32.not_lt.mpr c66
              refine v_iconst (pc := 73) (v := 0) g dX5_dear_73 (by decide) ?_
              refine v_stE [.int (bI ((fun c => rd m (co0 S c)) k < (lst (fun c => rd m (co0 S c)) k).2))] (by first | (rw [bI_1 hD]; first | done | rfl) | (rw [bI_0 hD]; first | done | rfl)) ?_
              refine v_istore (pc := 74) _ g dX5_dear_74 (Nat.le_of_ble_eq_true rfl) hnL.symm rfl ?_
              refine v_iload (pc := 76) g dX5_dear_76 rfl ?_
              refine v_ifb_eq (pc := 78) 86 g dX5_dear_78 rfl (fun c78 => ?_) (fun c78 => ?_)
              · have k0 : ¬ k = 0 := fun z => by subst z; obtain ⟨a, ha, ea⟩ := rd_nat m (hI.co0 0); exact c78 (lst0 (f := (fun c => rd m (co0 S c))) ha ea)
                have el : lst (fun c => rd m (co0 S c)) (k + 1) = lst (fun c => rd m (co0 S c)) k := if_neg c78
                have e1 : lw1 (fun c => rd m (co0 S c)) (k + 1) = lw1 (fun c => rd m (co0 S c)) k := by unfold lw1; rw [if_neg (by omega), if_neg k0, el]
                have e2 : lw2 (fun c => rd m (co0 S c)) (k + 1) = lw2 (fun c => rd m (co0 S c)) k := by unfold lw2; rw [if_neg (by omega), if_neg k0, el]
                refine v_iload_n (pc := 86) 2 g dX5_dear_86 rfl rfl ?_
                refine v_istore_n (pc := 87) 2 _ g dX5_dear_87 rfl (Nat.le_of_ble_eq_true rfl) hnL.symm rfl ?_
                refine v_iload (pc := 88) g dX5_dear_88 rfl ?_
                refine v_ifb_eq (pc := 90) 98 g dX5_dear_90 rfl (fun c90 => ?_) (fun c90 => ?_)
                · refine v_iload_n (pc := 98) 3 g dX5_dear_98 rfl rfl ?_
                  refine v_istore_n (pc := 99) 3 _ g dX5_dear_99 rfl (Nat.le_of_ble_eq_true rfl) hnL.symm rfl ?_
                  refine v_iincN (pc := 100) g dX5_dear_100 rfl hnL.symm ?_
                  refine v_goto (pc := 103) 33 g dX5_dear_103 rfl ?_
                  refine v_fg [true, true, true, true, true, false, false] ?_
                  first | exact absurd c78 c90 | exact absurd c90 c78 | (refine v_loE [some (.ref 0), some (.int (nI m)), some (.int (lw1 (fun c => rd m (co0 S c)) (k + 1))), some (.int (lw2 (fun c => rd m (co0 S c)) (k + 1))), some (.int (nI (k + 1))), none, none] (by rw [e1, e2]; rfl) ?_; exact ih _ (k + 1) (by omega) (by omega))
                · refine v_iload (pc := 93) g dX5_dear_93 rfl ?_
                  refine v_goto (pc := 95) 99 g dX5_dear_95 rfl ?_
                  refine v_istore_n (pc := 99) 3 _ g dX5_dear_99 rfl (Nat.le_of_ble_eq_true rfl) hnL.symm rfl ?_
                  refine v_iincN (pc := 100) g dX5_dear_100 rfl hnL.symm ?_
                  refine v_goto (pc := 103) 33 g dX5_dear_103 rfl ?_
                  refine v_fg [true, true, true, true, true, false, false] ?_
                  first | exact absurd c78 c90 | exact absurd c90 c78 | (refine v_loE [some (.ref 0), some (.int (nI m)), some (.int (lw1 (fun c => rd m (co0 S c)) (k + 1))), some (.int (lw2 (fun c => rd m (co0 S c)) (k + 1))), some (.int (nI (k + 1))), none, none] (by rw [e1, e2]; rfl) ?_; exact ih _ (k + 1) (by omega) (by omega))
              · have el : lst (fun c => rd m (co0 S c)) (k + 1) = (nI k, rd m (co0 S k)) := if_pos c78
                have e1 : lw1 (fun c => rd m (co0 S c)) (k + 1) = nI k := by unfold lw1; rw [if_neg (by omega), el]
                have e2 : lw2 (fun c => rd m (co0 S c)) (k + 1) = rd m (co0 S k) := by unfold lw2; rw [if_neg (by omega), el]
                refine v_iload (pc := 81) g dX5_dear_81 rfl ?_
                refine v_goto (pc := 83) 87 g dX5_dear_83 rfl ?_
                refine v_istore_n (pc := 87) 2 _ g dX5_dear_87 rfl (Nat.le_of_ble_eq_true rfl) hnL.symm rfl ?_
                refine v_iload (pc := 88) g dX5_dear_88 rfl ?_
                refine v_ifb_eq (pc := 90) 98 g dX5_dear_90 rfl (fun c90 => ?_) (fun c90 => ?_)
                · refine v_iload_n (pc := 98) 3 g dX5_dear_98 rfl rfl ?_
                  refine v_istore_n (pc := 99) 3 _ g dX5_dear_99 rfl (Nat.le_of_ble_eq_true rfl) hnL.symm rfl ?_
                  refine v_iincN (pc := 100) g dX5_dear_100 rfl hnL.symm ?_
                  refine v_goto (pc := 103) 33 g dX5_dear_103 rfl ?_
                  refine v_fg [true, true, true, true, true, false, false] ?_
                  first | exact absurd c78 c90 | exact absurd c90 c78 | (refine v_loE [some (.ref 0), some (.int (nI m)), some (.int (lw1 (fun c => rd m (co0 S c)) (k + 1))), some (.int (lw2 (fun c => rd m (co0 S c)) (k + 1))), some (.int (nI (k + 1))), none, none] (by rw [e1, e2]; rfl) ?_; exact ih _ (k + 1) (by omega) (by omega))
                · refine v_iload (pc := 93) g dX5_dear_93 rfl ?_
                  refine v_goto (pc := 95) 99 g dX5_dear_95 rfl ?_
                  refine v_istore_n (pc := 99) 3 _ g dX5_dear_99 rfl (Nat.le_of_ble_eq_true rfl) hnL.symm rfl ?_
                  refine v_iincN (pc := 100) g dX5_dear_100 rfl hnL.symm ?_
                  refine v_goto (pc := 103) 33 g dX5_dear_103 rfl ?_
                  refine v_fg [true, true, true, true, true, false, false] ?_
                  first | exact absurd c78 c90 | exact absurd c90 c78 | (refine v_loE [some (.ref 0), some (.int (nI m)), some (.int (lw1 (fun c => rd m (co0 S c)) (k + 1))), some (.int (lw2 (fun c => rd m (co0 S c)) (k + 1))), some (.int (nI (k + 1))), none, none] (by rw [e1, e2]; rfl) ?_; exact ih _ (k + 1) (by omega) (by omega))
            · have hD : (fun c => rd m (co0 S c)) k < (lst (fun c => rd m (co0 S c)) k).2 := by rw [ew] at c66; exact Int32.not_le.mp c66
              refine v_iconst (pc := 69) (v := 1) g dX5_dear_69 (by decide) ?_
              refine v_goto (pc := 70) 74 g dX5_dear_70 rfl ?_
              refine v_stE [.int (bI ((fun c => rd m (co0 S c)) k < (lst (fun c => rd m (co0 S c)) k).2))] (by first | (rw [bI_1 hD]; first | done | rfl) | (rw [bI_0 hD]; first | done | rfl)) ?_
              refine v_istore (pc := 74) _ g dX5_dear_74 (Nat.le_of_ble_eq_true rfl) hnL.symm rfl ?_
              refine v_iload (pc := 76) g dX5_dear_76 rfl ?_
              refine v_ifb_eq (pc := 78) 86 g dX5_dear_78 rfl (fun c78 => ?_) (fun c78 => ?_)
              · have k0 : ¬ k = 0 := fun z => by subst z; obtain ⟨a, ha, ea⟩ := rd_nat m (hI.co0 0); exact c78 (lst0 (f := (fun c => rd m (co0 S c))) ha ea)
                have el : lst (fun c => rd m (co0 S c)) (k + 1) = lst (fun c => rd m (co0 S c)) k := if_neg c78
                have e1 : lw1 (fun c => rd m (co0 S c)) (k + 1) = lw1 (fun c => rd m (co0 S c)) k := by unfold lw1; rw [if_neg (by omega), if_neg k0, el]
                have e2 : lw2 (fun c => rd m (co0 S c)) (k + 1) = lw2 (fun c => rd m (co0 S c)) k := by unfold lw2; rw [if_neg (by omega), if_neg k0, el]
                refine v_iload_n (pc := 86) 2 g dX5_dear_86 rfl rfl ?_
                refine v_istore_n (pc := 87) 2 _ g dX5_dear_87 rfl (Nat.le_of_ble_eq_true rfl) hnL.symm rfl ?_
                refine v_iload (pc := 88) g dX5_dear_88 rfl ?_
                refine v_ifb_eq (pc := 90) 98 g dX5_dear_90 rfl (fun c90 => ?_) (fun c90 => ?_)
                · refine v_iload_n (pc := 98) 3 g dX5_dear_98 rfl rfl ?_
                  refine v_istore_n (pc := 99) 3 _ g dX5_dear_99 rfl (Nat.le_of_ble_eq_true rfl) hnL.symm rfl ?_
                  refine v_iincN (pc := 100) g dX5_dear_100 rfl hnL.symm ?_
                  refine v_goto (pc := 103) 33 g dX5_dear_103 rfl ?_
                  refine v_fg [true, true, true, true, true, false, false] ?_
                  first | exact absurd c78 c90 | exact absurd c90 c78 | (refine v_loE [some (.ref 0), some (.int (nI m)), some (.int (lw1 (fun c => rd m (co0 S c)) (k + 1))), some (.int (lw2 (fun c => rd m (co0 S c)) (k + 1))), some (.int (nI (k + 1))), none, none] (by rw [e1, e2]; rfl) ?_; exact ih _ (k + 1) (by omega) (by omega))
                · refine v_iload (pc := 93) g dX5_dear_93 rfl ?_
                  refine v_goto (pc := 95) 99 g dX5_dear_95 rfl ?_
                  refine v_istore_n (pc := 99) 3 _ g dX5_dear_99 rfl (Nat.le_of_ble_eq_true rfl) hnL.symm rfl ?_
                  refine v_iincN (pc := 100) g dX5_dear_100 rfl hnL.symm ?_
                  refine v_goto (pc := 103) 33 g dX5_dear_103 rfl ?_
                  refine v_fg [true, true, true, true, true, false, false] ?_
                  first | exact absurd c78 c90 | exact absurd c90 c78 | (refine v_loE [some (.ref 0), some (.int (nI m)), some (.int (lw1 (fun c => rd m (co0 S c)) (k + 1))), some (.int (lw2 (fun c => rd m (co0 S c)) (k + 1))), some (.int (nI (k + 1))), none, none] (by rw [e1, e2]; rfl) ?_; exact ih _ (k + 1) (by omega) (by omega))
              · have el : lst (fun c => rd m (co0 S c)) (k + 1) = (nI k, rd m (co0 S k)) := if_pos c78
                have e1 : lw1 (fun c => rd m (co0 S c)) (k + 1) = nI k := by unfold lw1; rw [if_neg (by omega), el]
                have e2 : lw2 (fun c => rd m (co0 S c)) (k + 1) = rd m (co0 S k) := by unfold lw2; rw [if_neg (by omega), el]
                refine v_iload (pc := 81) g dX5_dear_81 rfl ?_
                refine v_goto (pc := 83) 87 g dX5_dear_83 rfl ?_
                refine v_istore_n (pc := 87) 2 _ g dX5_dear_87 rfl (Nat.le_of_ble_eq_true rfl) hnL.symm rfl ?_
                refine v_iload (pc := 88) g dX5_dear_88 rfl ?_
                refine v_ifb_eq (pc := 90) 98 g dX5_dear_90 rfl (fun c90 => ?_) (fun c90 => ?_)
                · refine v_iload_n (pc := 98) 3 g dX5_dear_98 rfl rfl ?_
                  refine v_istore_n (pc := 99) 3 _ g dX5_dear_99 rfl (Nat.le_of_ble_eq_true rfl) hnL.symm rfl ?_
                  refine v_iincN (pc := 100) g dX5_dear_100 rfl hnL.symm ?_
                  refine v_goto (pc := 103) 33 g dX5_dear_103 rfl ?_
                  refine v_fg [true, true, true, true, true, false, false] ?_
                  first | exact absurd c78 c90 | exact absurd c90 c78 | (refine v_loE [some (.ref 0), some (.int (nI m)), some (.int (lw1 (fun c => rd m (co0 S c)) (k + 1))), some (.int (lw2 (fun c => rd m (co0 S c)) (k + 1))), some (.int (nI (k + 1))), none, none] (by rw [e1, e2]; rfl) ?_; exact ih _ (k + 1) (by omega) (by omega))
                · refine v_iload (pc := 93) g dX5_dear_93 rfl ?_
                  refine v_goto (pc := 95) 99 g dX5_dear_95 rfl ?_
                  refine v_istore_n (pc := 99) 3 _ g dX5_dear_99 rfl (Nat.le_of_ble_eq_true rfl) hnL.symm rfl ?_
                  refine v_iincN (pc := 100) g dX5_dear_100 rfl hnL.symm ?_
                  refine v_goto (pc := 103) 33 g dX5_dear_103 rfl ?_
                  refine v_fg [true, true, true, true, true, false, false] ?_
                  first | exact absurd c78 c90 | exact absurd c90 c78 | (refine v_loE [some (.ref 0), some (.int (nI m)), some (.int (lw1 (fun c => rd m (co0 S c)) (k + 1))), some (.int (lw2 (fun c => rd m (co0 S c)) (k + 1))), some (.int (nI (k + 1))), none, none] (by rw [e1, e2]; rfl) ?_; exact ih _ (k + 1) (by omega) (by omega))
    exact L33 (sN S + 1) _ 0 (Nat.zero_le _) (by omega)
  · refine v_aload_n (pc := 10) 0 g dX5_dear_10 rfl rfl ?_
    refine v_ldc (pc := 11) g dX5_dear_11 co_X5_44 ?_
    refine v_cVd (pc := 13) g dX5_dear_13 lk_X5_81 (c_X5_finds _ 0 (-1000000001) (by decide) (by decide)) (Nat.le_of_ble_eq_true rfl) rfl rfl rfl rfl (Nat.le_of_ble_eq_true rfl) ?_
    exact v_iret (pc := 16) g hret dX5_dear_16 (⟨_, _, so_i (by unfold r_20; rw [if_neg c7]), by unfold f_15; rw [if_neg c7]⟩)
set_option maxRecDepth 20000 in
set_option maxHeartbeats 2000000 in
theorem c_X5_feed (r : Nat → Int32) {fo : Nat → Int32} {of : Int32} {tr : Nat → Int32} {b1 : Nat → Int32} {ta : Nat → Int32} {tm : Nat} {so : Int32} {be : Int32} {te : Int32} {wo : Int64} {va : Int32} {gd : Int32} {bi : Nat → Int32} {si : Nat → Int32} {sh : Nat → Int64} {le : Nat → Int64} {im : Nat → Int32} {bf : Nat → Int32} {kp : Int32} (b n : Int32) (hl : tm ≤ 120) : RunD 1 yX5_feed cX5_feed 4 (some .int) [.ref 0, .int b, .int n] (mW r fo of tr b1 ta tm so be te wo va gd bi si sh le im bf kp) (some (.int (r_22 tm n))) (mW r (f_22 tm fo n) of tr b1 (t_22 ta tm b n) (l_22 tm n) so be te wo va gd bi si sh le im bf kp) := by
  refine Runs.of (by decide) (Nat.le_of_ble_eq_true rfl) rfl ?_
  intro X g hret hnL
  refine v_iload_n (pc := 0) 2 g dX5_feed_0 rfl rfl ?_
  refine v_iconst (pc := 1) (v := 1) g dX5_feed_1 (by decide) ?_
  refine v_iconst (pc := 2) (v := 4) g dX5_feed_2 (by decide) ?_
  refine v_cSd (pc := 3) g dX5_feed_3 lk_X5_45 ((c_X5_in _ _ _ 1 4 rfl rfl).any rfl rfl _) (Nat.le_of_ble_eq_true rfl) rfl rfl (Nat.le_of_ble_eq_true rfl) ?_
  refine v_ifb_ne (pc := 6) 16 g dX5_feed_6 rfl (fun c6 => ?_) (fun c6 => ?_)
  · obtain ⟨m, hm, rfl⟩ := (show inR n 0 ((4 : Nat) : Int) from ⟨by have := c6.1; omega, c6.2⟩).nat (by omega)
    have ei : (nI m).toNatClampNeg = m := nI_clamp (by omega)
    have hni : (nI m).toInt = m := nI_toInt (by omega)
    have h1 : 1 ≤ m := by have := c6.1; omega
    refine v_aload_n (pc := 16) 0 g dX5_feed_16 rfl rfl ?_
    refine v_get (pc := 17) g dX5_feed_17 fl_X5_170 rfl rfl ?_
    refine v_iload_n (pc := 20) 2 g dX5_feed_20 rfl rfl ?_
    refine v_iadd (pc := 21) g dX5_feed_21 ?_
    refine v_bipush (pc := 22) (v := 120) g dX5_feed_22 (by decide) ?_
    rw [nI_add]
    refine v_icmp_le (pc := 24) 34 g dX5_feed_24 rfl (fun c24 => ?_) (fun c24 => ?_)
    · have hC : C22 tm (nI m) := by have := (nI_leI (a := tm + m) (b := 120) (by omega) (by omega)).mp c24; show _ + _ ≤ _; omega
      have hC2 : tm + m ≤ 120 := by have : (_ + _ : Int) ≤ 120 := hC; omega
      refine v_iload_n (pc := 34) 2 g dX5_feed_34 rfl rfl ?_
      refine v_iconst (pc := 35) (v := 1) g dX5_feed_35 (by decide) ?_
      refine v_isub (pc := 36) g dX5_feed_36 ?_
      refine v_istore_n (pc := 37) 3 _ g dX5_feed_37 rfl (Nat.le_of_ble_eq_true rfl) hnL.symm rfl ?_
      have L38 : ∀ (fu : Nat) (j k : Nat), j + k = m → j < fu → V X 38 [some (.ref 0), some (.int b), some (.int (nI m)), some (.int (nI j - 1))] [] (mW r fo of tr b1 (fdT ta tm b m k) (tm + k) so be te wo va gd bi si sh le im bf kp) := by
        intro fu
        induction fu with
        | zero => intro j k hk hm; exact absurd hm (Nat.not_lt_zero _)
        | succ fu ih =>
          intro j k hk hm
          refine v_iload_n (pc := 38) 3 g dX5_feed_38 rfl rfl ?_
          refine v_if_lt (pc := 39) 77 g dX5_feed_39 rfl (fun c39 => ?_) (fun c39 => ?_)
          · have e42 : j = 0 := by rcases Nat.eq_zero_or_pos j with z | z; exact z; exact absurd c39 (by rw [show nI j - 1 = nI (j - 1) from pk_sub (b := 1) z]; exact nI_pos (by omega))
            subst e42
            have ek : k = m := by omega
            subst ek
            refine v_aload_n (pc := 77) 0 g dX5_feed_77 rfl rfl ?_
            refine v_get (pc := 78) g dX5_feed_78 fl_X5_170 rfl rfl ?_
            exact v_iret (pc := 81) g hret dX5_feed_81 (⟨so_i (by unfold r_22; rw [if_pos c6, if_pos hC, ei]), by unfold t_22 l_22 f_22; rw [if_pos c6, if_pos hC, if_pos ⟨c6, hC⟩, if_pos ⟨c6, hC⟩, ei]⟩)
          · have e42 : 0 < j := by rcases Nat.eq_zero_or_pos j with z | z; exact absurd (by subst z; decide) c39; exact z
            obtain ⟨j, rfl⟩ : ∃ z, j = z + 1 := ⟨j - 1, by omega⟩
            rw [nI_pred]
            refine v_aload_n (pc := 42) 0 g dX5_feed_42 rfl rfl ?_
            refine v_get (pc := 43) g dX5_feed_43 fl_X5_22 rfl rfl ?_
            refine v_aload_n (pc := 46) 0 g dX5_feed_46 rfl rfl ?_
            refine v_get (pc := 47) g dX5_feed_47 fl_X5_170 rfl rfl ?_
            refine v_iload_n (pc := 50) 1 g dX5_feed_50 rfl rfl ?_
            refine v_bipush (pc := 51) (v := 8) g dX5_feed_51 (by decide) ?_
            refine v_iload_n (pc := 53) 3 g dX5_feed_53 rfl rfl ?_
            refine v_imul (pc := 54) g dX5_feed_54 ?_
            refine v_ishr (pc := 55) g dX5_feed_55 ?_
            refine v_sipush (pc := 56) (v := 255) g dX5_feed_56 (by decide) ?_
            refine v_iand (pc := 59) g dX5_feed_59 ?_
            refine v_iastN (pc := 60) _ _ g dX5_feed_60 rfl rfl (by omega) (Nat.le_of_ble_eq_true rfl) rfl ?_
            refine v_aload_n (pc := 61) 0 g dX5_feed_61 rfl rfl ?_
            refine v_dup (pc := 62) g dX5_feed_62 rfl ?_
            refine v_get (pc := 63) g dX5_feed_63 fl_X5_170 rfl rfl ?_
            refine v_iconst (pc := 66) (v := 1) g dX5_feed_66 (by decide) ?_
            refine v_iadd (pc := 67) g dX5_feed_67 ?_
            rw [nI_1]
            refine v_put (pc := 68) _ g dX5_feed_68 fp_X5_170 rfl (Nat.le_of_ble_eq_true rfl) rfl rfl rfl rfl ?_
            refine v_iinc (pc := 71) _ _ g dX5_feed_71 rfl rfl hnL.symm rfl ?_
            rw [dec1]
            refine v_goto (pc := 74) 38 g dX5_feed_74 rfl ?_
            refine v_w (mW r fo of tr b1 (fdT ta tm b m (k + 1)) (tm + (k + 1)) so be te wo va gd bi si sh le im bf kp) (by rw [fdT, show m - 1 - k = j by omega]; rfl) ?_
            exact ih j (k + 1) (by omega) (by omega)
      exact L38 (m + 1) m 0 (by omega) (by omega)
    · have hC : ¬ C22 tm (nI m) := by have := Nat.not_le.mp (fun z => c24 ((nI_leI (a := tm + m) (b := 120) (by omega) (by omega)).mpr z)); show ¬ (_ + _ ≤ _); omega
      refine v_aload_n (pc := 27) 0 g dX5_feed_27 rfl rfl ?_
      refine v_ldc (pc := 28) g dX5_feed_28 co_X5_106 ?_
      refine v_cVd (pc := 30) g dX5_feed_30 lk_X5_81 (c_X5_finds _ 1 (-1000000002) (by decide) (by decide)) (Nat.le_of_ble_eq_true rfl) rfl rfl rfl rfl (Nat.le_of_ble_eq_true rfl) ?_
      exact v_iret (pc := 33) g hret dX5_feed_33 (⟨so_i (by unfold r_22; rw [if_pos c6, if_neg hC]), by unfold t_22 l_22 f_22; rw [if_pos c6, if_neg hC, if_neg (fun z => hC z.2), if_neg (fun z => hC z.2)]⟩)
  · refine v_aload_n (pc := 9) 0 g dX5_feed_9 rfl rfl ?_
    refine v_ldc (pc := 10) g dX5_feed_10 co_X5_44 ?_
    refine v_cVd (pc := 12) g dX5_feed_12 lk_X5_81 (c_X5_finds _ 0 (-1000000001) (by decide) (by decide)) (Nat.le_of_ble_eq_true rfl) rfl rfl rfl rfl (Nat.le_of_ble_eq_true rfl) ?_
    exact v_iret (pc := 15) g hret dX5_feed_15 (⟨so_i (by unfold r_22; rw [if_neg c6]), by unfold t_22 l_22 f_22; rw [if_neg c6, if_neg (fun z => c6 z.1), if_neg (fun z => c6 z.1)]⟩)
