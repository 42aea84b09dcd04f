/-! ===== the reference: its calls, I ===== -/
theorem c_be_La (s : St) {fo : Nat → Int32} {of : Int32} {tr : Nat → Int32} {b1 : Nat → Int32} {ta : Nat → Int32} {tm : Nat} {so : Int32} {be : Int32} {te : Int32} {wo : Int64} {va : Int32} {gd : Int32} {bi : Nat → Int32} {si : Nat → Int32} {sh : Nat → Int64} {le : Nat → Int64} {im : Nat → Int32} {bf : Nat → Int32} {kp : Int32} (i : Nat) (v : Int32) (hi : i < 12) : RunD 0 yX5_becomes cX5_becomes 4 (some .int) [.ref 0, .int (3 + 3 * nI i + nI 0), .int v] (mW (rowOf s) fo of tr b1 ta tm so be te wo va gd bi si sh le im bf kp) (some (.int (sLa s i))) (mW (rowOf (pLa s (upd (sLa s) i v))) fo of tr b1 ta tm so be te wo va gd bi si sh le im bf kp) := by
  have h := c_X5_becomes (rowOf s) (3 + 3 * i + 0) v (by omega) (fo := fo) (of := of) (tr := tr) (b1 := b1) (ta := ta) (tm := tm) (so := so) (be := be) (te := te) (wo := wo) (va := va) (gd := gd) (bi := bi) (si := si) (sh := sh) (le := le) (im := im) (bf := bf) (kp := kp)
  rw [row_La s hi, rup_La s hi, ← ix_h] at h
  exact h
theorem c_be_Bo (s : St) {fo : Nat → Int32} {of : Int32} {tr : Nat → Int32} {b1 : Nat → Int32} {ta : Nat → Int32} {tm : Nat} {so : Int32} {be : Int32} {te : Int32} {wo : Int64} {va : Int32} {gd : Int32} {bi : Nat → Int32} {si : Nat → Int32} {sh : Nat → Int64} {le : Nat → Int64} {im : Nat → Int32} {bf : Nat → Int32} {kp : Int32} (i : Nat) (v : Int32) (hi : i < 12) : RunD 0 yX5_becomes cX5_becomes 4 (some .int) [.ref 0, .int (3 + 3 * nI i + nI 1), .int v] (mW (rowOf s) fo of tr b1 ta tm so be te wo va gd bi si sh le im bf kp) (some (.int (sBo s i))) (mW (rowOf (pBo s (upd (sBo s) i v))) fo of tr b1 ta tm so be te wo va gd bi si sh le im bf kp) := by
  have h := c_X5_becomes (rowOf s) (3 + 3 * i + 1) v (by omega) (fo := fo) (of := of) (tr := tr) (b1 := b1) (ta := ta) (tm := tm) (so := so) (be := be) (te := te) (wo := wo) (va := va) (gd := gd) (bi := bi) (si := si) (sh := sh) (le := le) (im := im) (bf := bf) (kp := kp)
  rw [row_Bo s hi, rup_Bo s hi, ← ix_h] at h
  exact h
theorem c_be_Re (s : St) {fo : Nat → Int32} {of : Int32} {tr : Nat → Int32} {b1 : Nat → Int32} {ta : Nat → Int32} {tm : Nat} {so : Int32} {be : Int32} {te : Int32} {wo : Int64} {va : Int32} {gd : Int32} {bi : Nat → Int32} {si : Nat → Int32} {sh : Nat → Int64} {le : Nat → Int64} {im : Nat → Int32} {bf : Nat → Int32} {kp : Int32} (i : Nat) (v : Int32) (hi : i < 12) : RunD 0 yX5_becomes cX5_becomes 4 (some .int) [.ref 0, .int (3 + 3 * nI i + nI 2), .int v] (mW (rowOf s) fo of tr b1 ta tm so be te wo va gd bi si sh le im bf kp) (some (.int (sRe s i))) (mW (rowOf (pRe s (upd (sRe s) i v))) fo of tr b1 ta tm so be te wo va gd bi si sh le im bf kp) := by
  have h := c_X5_becomes (rowOf s) (3 + 3 * i + 2) v (by omega) (fo := fo) (of := of) (tr := tr) (b1 := b1) (ta := ta) (tm := tm) (so := so) (be := be) (te := te) (wo := wo) (va := va) (gd := gd) (bi := bi) (si := si) (sh := sh) (le := le) (im := im) (bf := bf) (kp := kp)
  rw [row_Re s hi, rup_Re s hi, ← ix_h] at h
  exact h
theorem c_be_Ki (s : St) {fo : Nat → Int32} {of : Int32} {tr : Nat → Int32} {b1 : Nat → Int32} {ta : Nat → Int32} {tm : Nat} {so : Int32} {be : Int32} {te : Int32} {wo : Int64} {va : Int32} {gd : Int32} {bi : Nat → Int32} {si : Nat → Int32} {sh : Nat → Int64} {le : Nat → Int64} {im : Nat → Int32} {bf : Nat → Int32} {kp : Int32} (i : Nat) (v : Int32) (hi : i < 8) : RunD 0 yX5_becomes cX5_becomes 4 (some .int) [.ref 0, .int (39 + 6 * nI i), .int v] (mW (rowOf s) fo of tr b1 ta tm so be te wo va gd bi si sh le im bf kp) (some (.int (sKi s i))) (mW (rowOf (pKi s (upd (sKi s) i v))) fo of tr b1 ta tm so be te wo va gd bi si sh le im bf kp) := by
  have h := c_X5_becomes (rowOf s) (39 + 6 * i + 0) v (by omega) (fo := fo) (of := of) (tr := tr) (b1 := b1) (ta := ta) (tm := tm) (so := so) (be := be) (te := te) (wo := wo) (va := va) (gd := gd) (bi := bi) (si := si) (sh := sh) (le := le) (im := im) (bf := bf) (kp := kp)
  rw [row_Ki s i, rup_Ki s i, ← ix_p, show (39 : Int32) + 6 * nI i + nI 0 = 39 + 6 * nI i from Int32.add_zero _] at h
  exact h
theorem c_be_At (s : St) {fo : Nat → Int32} {of : Int32} {tr : Nat → Int32} {b1 : Nat → Int32} {ta : Nat → Int32} {tm : Nat} {so : Int32} {be : Int32} {te : Int32} {wo : Int64} {va : Int32} {gd : Int32} {bi : Nat → Int32} {si : Nat → Int32} {sh : Nat → Int64} {le : Nat → Int64} {im : Nat → Int32} {bf : Nat → Int32} {kp : Int32} (i : Nat) (v : Int32) (hi : i < 8) : RunD 0 yX5_becomes cX5_becomes 4 (some .int) [.ref 0, .int (39 + 6 * nI i + nI 1), .int v] (mW (rowOf s) fo of tr b1 ta tm so be te wo va gd bi si sh le im bf kp) (some (.int (sAt s i))) (mW (rowOf (pAt s (upd (sAt s) i v))) fo of tr b1 ta tm so be te wo va gd bi si sh le im bf kp) := by
  have h := c_X5_becomes (rowOf s) (39 + 6 * i + 1) v (by omega) (fo := fo) (of := of) (tr := tr) (b1 := b1) (ta := ta) (tm := tm) (so := so) (be := be) (te := te) (wo := wo) (va := va) (gd := gd) (bi := bi) (si := si) (sh := sh) (le := le) (im := im) (bf := bf) (kp := kp)
  rw [row_At s i, rup_At s i, ← ix_p] at h
  exact h
theorem c_be_Fa (s : St) {fo : Nat → Int32} {of : Int32} {tr : Nat → Int32} {b1 : Nat → Int32} {ta : Nat → Int32} {tm : Nat} {so : Int32} {be : Int32} {te : Int32} {wo : Int64} {va : Int32} {gd : Int32} {bi : Nat → Int32} {si : Nat → Int32} {sh : Nat → Int64} {le : Nat → Int64} {im : Nat → Int32} {bf : Nat → Int32} {kp : Int32} (i : Nat) (v : Int32) (hi : i < 8) : RunD 0 yX5_becomes cX5_becomes 4 (some .int) [.ref 0, .int (39 + 6 * nI i + nI 2), .int v] (mW (rowOf s) fo of tr b1 ta tm so be te wo va gd bi si sh le im bf kp) (some (.int (sFa s i))) (mW (rowOf (pFa s (upd (sFa s) i v))) fo of tr b1 ta tm so be te wo va gd bi si sh le im bf kp) := by
  have h := c_X5_becomes (rowOf s) (39 + 6 * i + 2) v (by omega) (fo := fo) (of := of) (tr := tr) (b1 := b1) (ta := ta) (tm := tm) (so := so) (be := be) (te := te) (wo := wo) (va := va) (gd := gd) (bi := bi) (si := si) (sh := sh) (le := le) (im := im) (bf := bf) (kp := kp)
  rw [row_Fa s i, rup_Fa s i, ← ix_p] at h
  exact h
theorem c_be_Co (s : St) {fo : Nat → Int32} {of : Int32} {tr : Nat → Int32} {b1 : Nat → Int32} {ta : Nat → Int32} {tm : Nat} {so : Int32} {be : Int32} {te : Int32} {wo : Int64} {va : Int32} {gd : Int32} {bi : Nat → Int32} {si : Nat → Int32} {sh : Nat → Int64} {le : Nat → Int64} {im : Nat → Int32} {bf : Nat → Int32} {kp : Int32} (i : Nat) (v : Int32) (hi : i < 8) : RunD 0 yX5_becomes cX5_becomes 4 (some .int) [.ref 0, .int (39 + 6 * nI i + nI 3), .int v] (mW (rowOf s) fo of tr b1 ta tm so be te wo va gd bi si sh le im bf kp) (some (.int (sCo s i))) (mW (rowOf (pCo s (upd (sCo s) i v))) fo of tr b1 ta tm so be te wo va gd bi si sh le im bf kp) := by
  have h := c_X5_becomes (rowOf s) (39 + 6 * i + 3) v (by omega) (fo := fo) (of := of) (tr := tr) (b1 := b1) (ta := ta) (tm := tm) (so := so) (be := be) (te := te) (wo := wo) (va := va) (gd := gd) (bi := bi) (si := si) (sh := sh) (le := le) (im := im) (bf := bf) (kp := kp)
  rw [row_Co s i, rup_Co s i, ← ix_p] at h
  exact h
theorem c_be_Ti (s : St) {fo : Nat → Int32} {of : Int32} {tr : Nat → Int32} {b1 : Nat → Int32} {ta : Nat → Int32} {tm : Nat} {so : Int32} {be : Int32} {te : Int32} {wo : Int64} {va : Int32} {gd : Int32} {bi : Nat → Int32} {si : Nat → Int32} {sh : Nat → Int64} {le : Nat → Int64} {im : Nat → Int32} {bf : Nat → Int32} {kp : Int32} (i : Nat) (v : Int32) (hi : i < 8) : RunD 0 yX5_becomes cX5_becomes 4 (some .int) [.ref 0, .int (39 + 6 * nI i + nI 4), .int v] (mW (rowOf s) fo of tr b1 ta tm so be te wo va gd bi si sh le im bf kp) (some (.int (sTi s i))) (mW (rowOf (pTi s (upd (sTi s) i v))) fo of tr b1 ta tm so be te wo va gd bi si sh le im bf kp) := by
  have h := c_X5_becomes (rowOf s) (39 + 6 * i + 4) v (by omega) (fo := fo) (of := of) (tr := tr) (b1 := b1) (ta := ta) (tm := tm) (so := so) (be := be) (te := te) (wo := wo) (va := va) (gd := gd) (bi := bi) (si := si) (sh := sh) (le := le) (im := im) (bf := bf) (kp := kp)
  rw [row_Ti s i, rup_Ti s i, ← ix_p] at h
  exact h
theorem c_be_Go (s : St) {fo : Nat → Int32} {of : Int32} {tr : Nat → Int32} {b1 : Nat → Int32} {ta : Nat → Int32} {tm : Nat} {so : Int32} {be : Int32} {te : Int32} {wo : Int64} {va : Int32} {gd : Int32} {bi : Nat → Int32} {si : Nat → Int32} {sh : Nat → Int64} {le : Nat → Int64} {im : Nat → Int32} {bf : Nat → Int32} {kp : Int32} (i : Nat) (v : Int32) (hi : i < 8) : RunD 0 yX5_becomes cX5_becomes 4 (some .int) [.ref 0, .int (39 + 6 * nI i + nI 5), .int v] (mW (rowOf s) fo of tr b1 ta tm so be te wo va gd bi si sh le im bf kp) (some (.int (sGo s i))) (mW (rowOf (pGo s (upd (sGo s) i v))) fo of tr b1 ta tm so be te wo va gd bi si sh le im bf kp) := by
  have h := c_X5_becomes (rowOf s) (39 + 6 * i + 5) v (by omega) (fo := fo) (of := of) (tr := tr) (b1 := b1) (ta := ta) (tm := tm) (so := so) (be := be) (te := te) (wo := wo) (va := va) (gd := gd) (bi := bi) (si := si) (sh := sh) (le := le) (im := im) (bf := bf) (kp := kp)
  rw [row_Go s i, rup_Go s i, ← ix_p] at h
  exact h
theorem c_be_Dr (s : St) {fo : Nat → Int32} {of : Int32} {tr : Nat → Int32} {b1 : Nat → Int32} {ta : Nat → Int32} {tm : Nat} {so : Int32} {be : Int32} {te : Int32} {wo : Int64} {va : Int32} {gd : Int32} {bi : Nat → Int32} {si : Nat → Int32} {sh : Nat → Int64} {le : Nat → Int64} {im : Nat → Int32} {bf : Nat → Int32} {kp : Int32} (v : Int32) : RunD 0 yX5_becomes cX5_becomes 4 (some .int) [.ref 0, .int 1, .int v] (mW (rowOf s) fo of tr b1 ta tm so be te wo va gd bi si sh le im bf kp) (some (.int (sDr s))) (mW (rowOf (pDr s v)) fo of tr b1 ta tm so be te wo va gd bi si sh le im bf kp) := by
  have h := c_X5_becomes (rowOf s) 1 v (by omega) (fo := fo) (of := of) (tr := tr) (b1 := b1) (ta := ta) (tm := tm) (so := so) (be := be) (te := te) (wo := wo) (va := va) (gd := gd) (bi := bi) (si := si) (sh := sh) (le := le) (im := im) (bf := bf) (kp := kp)
  rw [rup_Dr s v] at h
  exact h
set_option maxRecDepth 20000 in
set_option maxHeartbeats 2000000 in
theorem c_X5_house (S : St) {fo : Nat → Int32} {of : Int32} {tr : Nat → Int32} {b1 : Nat → Int32} {ta : Nat → Int32} {tm : Nat} {so : Int32} {be : Int32} {te : Int32} {wo : Int64} {va : Int32} {gd : Int32} {bi : Nat → Int32} {si : Nat → Int32} {sh : Nat → Int64} {le : Nat → Int64} {im : Nat → Int32} {bf : Nat → Int32} {kp : Int32} (h w v : Int32) (hI : Inv S) : RunD 2 yX5_house cX5_house 4 (some .int) [.ref 0, .int h, .int w, .int v] (mW (rowOf S) fo of tr b1 ta tm so be te wo va gd bi si sh le im bf kp) (some (.int (r_0 S h w v))) (mW (rowOf (s_0 S h w v)) (fdI (C0 h w v) fo 0) of tr b1 ta tm so be te wo va gd bi si sh le im bf kp) := by
  refine Runs.of (by decide) (Nat.le_of_ble_eq_true rfl) rfl ?_
  intro X g hret hnL
  refine v_iload_n (pc := 0) 1 g dX5_house_0 rfl rfl ?_
  refine v_cSd (pc := 1) g dX5_house_1 lk_X5_72 ((c_X5_isHouse _).any rfl rfl _) (Nat.le_of_ble_eq_true rfl) rfl rfl (Nat.le_of_ble_eq_true rfl) ?_
  refine v_ifb_eq (pc := 4) 43 g dX5_house_4 rfl (fun c4 => ?_) (fun c4 => ?_)
  · refine v_aload_n (pc := 43) 0 g dX5_house_43 rfl rfl ?_
    refine v_ldc (pc := 44) g dX5_house_44 co_X5_44 ?_
    refine v_cVd (pc := 46) g dX5_house_46 lk_X5_81 (c_X5_finds _ 0 (-1000000001) (by decide) (by decide)) (Nat.le_of_ble_eq_true rfl) rfl rfl rfl rfl (Nat.le_of_ble_eq_true rfl) ?_
    exact v_iret (pc := 49) g hret dX5_house_49 (by first | exact ⟨so_i (by unfold r_0 hGet; rw [if_pos hC, ei]; simp only [hw, reduceIte, Int.reduceEq]), by unfold s_0 fdI hSet; rw [if_pos hC, if_pos hC, ei]; simp only [hw, reduceIte, Int.reduceEq]⟩ | exact ⟨so_i (by unfold r_0; rw [if_neg (by omega)]), by unfold s_0 fdI; rw [if_neg (by omega), if_neg (by omega)]⟩)
  · refine v_iload_n (pc := 7) 2 g dX5_house_7 rfl rfl ?_
    refine v_iconst (pc := 8) (v := 0) g dX5_house_8 (by decide) ?_
    refine v_iconst (pc := 9) (v := 2) g dX5_house_9 (by decide) ?_
    refine v_cSd (pc := 10) g dX5_house_10 lk_X5_45 ((c_X5_in _ _ _ 0 2 rfl rfl).any rfl rfl _) (Nat.le_of_ble_eq_true rfl) rfl rfl (Nat.le_of_ble_eq_true rfl) ?_
    refine v_ifb_eq (pc := 13) 43 g dX5_house_13 rfl (fun c13 => ?_) (fun c13 => ?_)
    · refine v_aload_n (pc := 43) 0 g dX5_house_43 rfl rfl ?_
      refine v_ldc (pc := 44) g dX5_house_44 co_X5_44 ?_
      refine v_cVd (pc := 46) g dX5_house_46 lk_X5_81 (c_X5_finds _ 0 (-1000000001) (by decide) (by decide)) (Nat.le_of_ble_eq_true rfl) rfl rfl rfl rfl (Nat.le_of_ble_eq_true rfl) ?_
      exact v_iret (pc := 49) g hret dX5_house_49 (by first | exact ⟨so_i (by unfold r_0 hGet; rw [if_pos hC, ei]; simp only [hw, reduceIte, Int.reduceEq]), by unfold s_0 fdI hSet; rw [if_pos hC, if_pos hC, ei]; simp only [hw, reduceIte, Int.reduceEq]⟩ | exact ⟨so_i (by unfold r_0; rw [if_neg (by omega)]), by unfold s_0 fdI; rw [if_neg (by omega), if_neg (by omega)]⟩)
    · refine v_iload_n (pc := 16) 3 g dX5_house_16 rfl rfl ?_
      refine v_iconst (pc := 17) (v := 0) g dX5_house_17 (by decide) ?_
      refine v_iload_n (pc := 18) 2 g dX5_house_18 rfl rfl ?_
      refine v_cSd (pc := 19) g dX5_house_19 lk_X5_75 ((c_X5_mostOf _).any rfl rfl _) (Nat.le_of_ble_eq_true rfl) rfl rfl (Nat.le_of_ble_eq_true rfl) ?_
      refine v_cSd (pc := 22) g dX5_house_22 lk_X5_45 ((c_X5_in _ _ _ 0 _ rfl rfl).any rfl rfl _) (Nat.le_of_ble_eq_true rfl) rfl rfl (Nat.le_of_ble_eq_true rfl) ?_
      refine v_ifb_eq (pc := 25) 43 g dX5_house_25 rfl (fun c25 => ?_) (fun c25 => ?_)
      · refine v_aload_n (pc := 43) 0 g dX5_house_43 rfl rfl ?_
        refine v_ldc (pc := 44) g dX5_house_44 co_X5_44 ?_
        refine v_cVd (pc := 46) g dX5_house_46 lk_X5_81 (c_X5_finds _ 0 (-1000000001) (by decide) (by decide)) (Nat.le_of_ble_eq_true rfl) rfl rfl rfl rfl (Nat.le_of_ble_eq_true rfl) ?_
        exact v_iret (pc := 49) g hret dX5_house_49 (by first | exact ⟨so_i (by unfold r_0 hGet; rw [if_pos hC, ei]; simp only [hw, reduceIte, Int.reduceEq]), by unfold s_0 fdI hSet; rw [if_pos hC, if_pos hC, ei]; simp only [hw, reduceIte, Int.reduceEq]⟩ | exact ⟨so_i (by unfold r_0; rw [if_neg (by omega)]), by unfold s_0 fdI; rw [if_neg (by omega), if_neg (by omega)]⟩)
      · have hC : C0 h w v := ⟨c4, c13, c25⟩
        obtain ⟨i, hi, rfl⟩ := c4.nat (m := 11) (by omega)
        have ei : (nI i).toNatClampNeg = i := nI_clamp (by omega)
        obtain ⟨k, hk, rfl⟩ := c13.nat (m := 2) (by omega)
        rcases (show k = 0 ∨ k = 1 ∨ k = 2 by omega) with rfl | rfl | rfl
        · have hw : (nI 0).toInt = 0 := rfl
          refine v_aload_n (pc := 28) 0 g dX5_house_28 rfl rfl ?_
          refine v_iconst (pc := 29) (v := 3) g dX5_house_29 (by decide) ?_
          refine v_iconst (pc := 30) (v := 3) g dX5_house_30 (by decide) ?_
          refine v_iload_n (pc := 31) 1 g dX5_house_31 rfl rfl ?_
          refine v_imul (pc := 32) g dX5_house_32 ?_
          refine v_iadd (pc := 33) g dX5_house_33 ?_
          refine v_iload_n (pc := 34) 2 g dX5_house_34 rfl rfl ?_
          refine v_iadd (pc := 35) g dX5_house_35 ?_
          refine v_iload_n (pc := 36) 3 g dX5_house_36 rfl rfl ?_
          refine v_cVd (pc := 37) g dX5_house_37 lk_X5_78 (c_be_La S i v (by omega)) (Nat.le_of_ble_eq_true rfl) rfl rfl rfl rfl (Nat.le_of_ble_eq_true rfl) ?_
          refine v_goto (pc := 40) 49 g dX5_house_40 rfl ?_
          exact v_iret (pc := 49) g hret dX5_house_49 (by first | exact ⟨so_i (by unfold r_0 hGet; rw [if_pos hC, ei]; simp only [hw, reduceIte, Int.reduceEq]), by unfold s_0 fdI hSet; rw [if_pos hC, if_pos hC, ei]; simp only [hw, reduceIte, Int.reduceEq]⟩ | exact ⟨so_i (by unfold r_0; rw [if_neg (by omega)]), by unfold s_0 fdI; rw [if_neg (by omega), if_neg (by omega)]⟩)
        · have hw : (nI 1).toInt = 1 := rfl
          refine v_aload_n (pc := 28) 0 g dX5_house_28 rfl rfl ?_
          refine v_iconst (pc := 29) (v := 3) g dX5_house_29 (by decide) ?_
          refine v_iconst (pc := 30) (v := 3) g dX5_house_30 (by decide) ?_
          refine v_iload_n (pc := 31) 1 g dX5_house_31 rfl rfl ?_
          refine v_imul (pc := 32) g dX5_house_32 ?_
          refine v_iadd (pc := 33) g dX5_house_33 ?_
          refine v_iload_n (pc := 34) 2 g dX5_house_34 rfl rfl ?_
          refine v_iadd (pc := 35) g dX5_house_35 ?_
          refine v_iload_n (pc := 36) 3 g dX5_house_36 rfl rfl ?_
          refine v_cVd (pc := 37) g dX5_house_37 lk_X5_78 (c_be_Bo S i v (by omega)) (Nat.le_of_ble_eq_true rfl) rfl rfl rfl rfl (Nat.le_of_ble_eq_true rfl) ?_
          refine v_goto (pc := 40) 49 g dX5_house_40 rfl ?_
          exact v_iret (pc := 49) g hret dX5_house_49 (by first | exact ⟨so_i (by unfold r_0 hGet; rw [if_pos hC, ei]; simp only [hw, reduceIte, Int.reduceEq]), by unfold s_0 fdI hSet; rw [if_pos hC, if_pos hC, ei]; simp only [hw, reduceIte, Int.reduceEq]⟩ | exact ⟨so_i (by unfold r_0; rw [if_neg (by omega)]), by unfold s_0 fdI; rw [if_neg (by omega), if_neg (by omega)]⟩)
        · have hw : (nI 2).toInt = 2 := rfl
          refine v_aload_n (pc := 28) 0 g dX5_house_28 rfl rfl ?_
          refine v_iconst (pc := 29) (v := 3) g dX5_house_29 (by decide) ?_
          refine v_iconst (pc := 30) (v := 3) g dX5_house_30 (by decide) ?_
          refine v_iload_n (pc := 31) 1 g dX5_house_31 rfl rfl ?_
          refine v_imul (pc := 32) g dX5_house_32 ?_
          refine v_iadd (pc := 33) g dX5_house_33 ?_
          refine v_iload_n (pc := 34) 2 g dX5_house_34 rfl rfl ?_
          refine v_iadd (pc := 35) g dX5_house_35 ?_
          refine v_iload_n (pc := 36) 3 g dX5_house_36 rfl rfl ?_
          refine v_cVd (pc := 37) g dX5_house_37 lk_X5_78 (c_be_Re S i v (by omega)) (Nat.le_of_ble_eq_true rfl) rfl rfl rfl rfl (Nat.le_of_ble_eq_true rfl) ?_
          refine v_goto (pc := 40) 49 g dX5_house_40 rfl ?_
          exact v_iret (pc := 49) g hret dX5_house_49 (by first | exact ⟨so_i (by unfold r_0 hGet; rw [if_pos hC, ei]; simp only [hw, reduceIte, Int.reduceEq]), by unfold s_0 fdI hSet; rw [if_pos hC, if_pos hC, ei]; simp only [hw, reduceIte, Int.reduceEq]⟩ | exact ⟨so_i (by unfold r_0; rw [if_neg (by omega)]), by unfold s_0 fdI; rw [if_neg (by omega), if_neg (by omega)]⟩)
set_option maxRecDepth 20000 in
set_option maxHeartbeats 2000000 in
theorem c_X5_houseOf (S : St) {fo : Nat → Int32} {of : Int32} {tr : Nat → Int32} {b1 : Nat → Int32} {ta : Nat → Int32} {tm : Nat} {so : Int32} {be : Int32} {te : Int32} {wo : Int64} {va : Int32} {gd : Int32} {bi : Nat → Int32} {si : Nat → Int32} {sh : Nat → Int64} {le : Nat → Int64} {im : Nat → Int32} {bf : Nat → Int32} {kp : Int32} (h w : Int32) (hI : Inv S) : RunD 2 yX5_houseOf cX5_houseOf 3 (some .int) [.ref 0, .int h, .int w] (mW (rowOf S) fo of tr b1 ta tm so be te wo va gd bi si sh le im bf kp) (some (.int (r_1 S h w))) (mW (rowOf S) (fdI (C1 h w) fo 0) of tr b1 ta tm so be te wo va gd bi si sh le im bf kp) := by
  refine Runs.of (by decide) (Nat.le_of_ble_eq_true rfl) rfl ?_
  intro X g hret hnL
  refine v_iload_n (pc := 0) 1 g dX5_houseOf_0 rfl rfl ?_
  refine v_cSd (pc := 1) g dX5_houseOf_1 lk_X5_72 ((c_X5_isHouse _).any rfl rfl _) (Nat.le_of_ble_eq_true rfl) rfl rfl (Nat.le_of_ble_eq_true rfl) ?_
  refine v_ifb_eq (pc := 4) 16 g dX5_houseOf_4 rfl (fun c4 => ?_) (fun c4 => ?_)
  · refine v_aload_n (pc := 16) 0 g dX5_houseOf_16 rfl rfl ?_
    refine v_ldc (pc := 17) g dX5_houseOf_17 co_X5_44 ?_
    refine v_cVd (pc := 19) g dX5_houseOf_19 lk_X5_81 (c_X5_finds _ 0 (-1000000001) (by decide) (by decide)) (Nat.le_of_ble_eq_true rfl) rfl rfl rfl rfl (Nat.le_of_ble_eq_true rfl) ?_
    exact v_iret (pc := 22) g hret dX5_houseOf_22 (⟨so_i (by unfold r_1; rw [if_neg (by omega)]), by unfold fdI; rw [if_neg (by omega)]⟩)
  · refine v_iload_n (pc := 7) 2 g dX5_houseOf_7 rfl rfl ?_
    refine v_iconst (pc := 8) (v := 0) g dX5_houseOf_8 (by decide) ?_
    refine v_iconst (pc := 9) (v := 3) g dX5_houseOf_9 (by decide) ?_
    refine v_cSd (pc := 10) g dX5_houseOf_10 lk_X5_45 ((c_X5_in _ _ _ 0 3 rfl rfl).any rfl rfl _) (Nat.le_of_ble_eq_true rfl) rfl rfl (Nat.le_of_ble_eq_true rfl) ?_
    refine v_ifb_ne (pc := 13) 23 g dX5_houseOf_13 rfl (fun c13 => ?_) (fun c13 => ?_)
    · refine v_iload_n (pc := 23) 2 g dX5_houseOf_23 rfl rfl ?_
      refine v_iconst (pc := 24) (v := 3) g dX5_houseOf_24 (by decide) ?_
      refine v_icmp_ge (pc := 25) 37 g dX5_houseOf_25 rfl (fun c25 => ?_) (fun c25 => ?_)
      · have hw : w.toInt = 3 := by have := i_le.mp c25; have h3 : (3 : Int32).toInt = 3 := rfl; omega
        refine v_aload_n (pc := 37) 0 g dX5_houseOf_37 rfl rfl ?_
        refine v_iload_n (pc := 38) 1 g dX5_houseOf_38 rfl rfl ?_
        refine v_cVd (pc := 39) g dX5_houseOf_39 lk_X5_84 (c_X5_peopleAt S _ hI) (Nat.le_of_ble_eq_true rfl) rfl rfl rfl rfl (Nat.le_of_ble_eq_true rfl) ?_
        exact v_iret (pc := 42) g hret dX5_houseOf_42 (⟨so_i (by unfold r_1; rw [if_pos ⟨c4, c13⟩, if_pos hw]), by unfold fdI; rw [if_pos ⟨c4, c13⟩]⟩)
      · have hw3 : w.toInt < 3 := i_lt.mp (Int32.not_le.mp c25)
        have hC : C1 h w := ⟨c4, c13⟩
        obtain ⟨i, hi, rfl⟩ := c4.nat (m := 11) (by omega)
        have ei : (nI i).toNatClampNeg = i := nI_clamp (by omega)
        obtain ⟨k, hk, rfl⟩ := (show inR w 0 ((2 : Nat) : Int) from ⟨c13.1, by omega⟩).nat (by omega)
        rcases (show k = 0 ∨ k = 1 ∨ k = 2 by omega) with rfl | rfl | rfl
        · have hw : (nI 0).toInt = 0 := rfl
          refine v_aload_n (pc := 28) 0 g dX5_houseOf_28 rfl rfl ?_
          refine v_iload_n (pc := 29) 1 g dX5_houseOf_29 rfl rfl ?_
          refine v_iload_n (pc := 30) 2 g dX5_houseOf_30 rfl rfl ?_
          refine v_cVd (pc := 31) g dX5_houseOf_31 lk_X5_49 (c_st_La S i (by omega)) (Nat.le_of_ble_eq_true rfl) rfl rfl rfl rfl (Nat.le_of_ble_eq_true rfl) ?_
          refine v_goto (pc := 34) 42 g dX5_houseOf_34 rfl ?_
          exact v_iret (pc := 42) g hret dX5_houseOf_42 (⟨so_i (by unfold r_1 hGet; rw [if_pos hC, ei]; simp only [hw, reduceIte, Int.reduceEq]), by unfold fdI; rw [if_pos hC]⟩)
        · have hw : (nI 1).toInt = 1 := rfl
          refine v_aload_n (pc := 28) 0 g dX5_houseOf_28 rfl rfl ?_
          refine v_iload_n (pc := 29) 1 g dX5_houseOf_29 rfl rfl ?_
          refine v_iload_n (pc := 30) 2 g dX5_houseOf_30 rfl rfl ?_
          refine v_cVd (pc := 31) g dX5_houseOf_31 lk_X5_49 (c_st_Bo S i (by omega)) (Nat.le_of_ble_eq_true rfl) rfl rfl rfl rfl (Nat.le_of_ble_eq_true rfl) ?_
          refine v_goto (pc := 34) 42 g dX5_houseOf_34 rfl ?_
          exact v_iret (pc := 42) g hret dX5_houseOf_42 (⟨so_i (by unfold r_1 hGet; rw [if_pos hC, ei]; simp only [hw, reduceIte, Int.reduceEq]), by unfold fdI; rw [if_pos hC]⟩)
        · have hw : (nI 2).toInt = 2 := rfl
          refine v_aload_n (pc := 28) 0 g dX5_houseOf_28 rfl rfl ?_
          refine v_iload_n (pc := 29) 1 g dX5_houseOf_29 rfl rfl ?_
          refine v_iload_n (pc := 30) 2 g dX5_houseOf_30 rfl rfl ?_
          refine v_cVd (pc := 31) g dX5_houseOf_31 lk_X5_49 (c_st_Re S i (by omega)) (Nat.le_of_ble_eq_true rfl) rfl rfl rfl rfl (Nat.le_of_ble_eq_true rfl) ?_
          refine v_goto (pc := 34) 42 g dX5_houseOf_34 rfl ?_
          exact v_iret (pc := 42) g hret dX5_houseOf_42 (⟨so_i (by unfold r_1 hGet; rw [if_pos hC, ei]; simp only [hw, reduceIte, Int.reduceEq]), by unfold fdI; rw [if_pos hC]⟩)
    · refine v_aload_n (pc := 16) 0 g dX5_houseOf_16 rfl rfl ?_
      refine v_ldc (pc := 17) g dX5_houseOf_17 co_X5_44 ?_
      refine v_cVd (pc := 19) g dX5_houseOf_19 lk_X5_81 (c_X5_finds _ 0 (-1000000001) (by decide) (by decide)) (Nat.le_of_ble_eq_true rfl) rfl rfl rfl rfl (Nat.le_of_ble_eq_true rfl) ?_
      exact v_iret (pc := 22) g hret dX5_houseOf_22 (⟨so_i (by unfold r_1; rw [if_neg (by omega)]), by unfold fdI; rw [if_neg (by omega)]⟩)
set_option maxRecDepth 20000 in
set_option maxHeartbeats 2000000 in
theorem c_X5_dry (S : St) {fo : Nat → Int32} {of : Int32} {tr : Nat → Int32} {b1 : Nat → Int32} {ta : Nat → Int32} {tm : Nat} {so : Int32} {be : Int32} {te : Int32} {wo : Int64} {va : Int32} {gd : Int32} {bi : Nat → Int32} {si : Nat → Int32} {sh : Nat → Int64} {le : Nat → Int64} {im : Nat → Int32} {bf : Nat → Int32} {kp : Int32} (v : Int32) : RunD 1 yX5_dry cX5_dry 2 (some .int) [.ref 0, .int v] (mW (rowOf S) fo of tr b1 ta tm so be te wo va gd bi si sh le im bf kp) (some (.int (r_2 S v))) (mW (rowOf (s_2 S v)) (fdI (inR v 0 9) fo 0) of tr b1 ta tm so be te wo va gd bi si sh le im bf kp) := by
  refine Runs.of (by decide) (Nat.le_of_ble_eq_true rfl) rfl ?_
  intro X g hret hnL
  refine v_iload_n (pc := 0) 1 g dX5_dry_0 rfl rfl ?_
  refine v_iconst (pc := 1) (v := 0) g dX5_dry_1 (by decide) ?_
  refine v_bipush (pc := 2) (v := 9) g dX5_dry_2 (by decide) ?_
  refine v_cSd (pc := 4) g dX5_dry_4 lk_X5_45 ((c_X5_in _ _ _ 0 9 rfl rfl).any rfl rfl _) (Nat.le_of_ble_eq_true rfl) rfl rfl (Nat.le_of_ble_eq_true rfl) ?_
  refine v_ifb_eq (pc := 7) 19 g dX5_dry_7 rfl (fun c7 => ?_) (fun c7 => ?_)
  · refine v_aload_n (pc := 19) 0 g dX5_dry_19 rfl rfl ?_
    refine v_ldc (pc := 20) g dX5_dry_20 co_X5_44 ?_
    refine v_cVd (pc := 22) g dX5_dry_22 lk_X5_81 (c_X5_finds _ 0 (-1000000001) (by decide) (by decide)) (Nat.le_of_ble_eq_true rfl) rfl rfl rfl rfl (Nat.le_of_ble_eq_true rfl) ?_
    exact v_iret (pc := 25) g hret dX5_dry_25 (by first | exact ⟨so_i (by unfold r_2; rw [if_neg c7]), by unfold s_2 fdI; rw [if_neg c7, if_neg c7]⟩ | exact ⟨so_i (by unfold r_2; rw [if_pos c7]), by unfold s_2 fdI; rw [if_pos c7, if_pos c7]⟩)
  · refine v_aload_n (pc := 10) 0 g dX5_dry_10 rfl rfl ?_
    refine v_iconst (pc := 11) (v := 1) g dX5_dry_11 (by decide) ?_
    refine v_iload_n (pc := 12) 1 g dX5_dry_12 rfl rfl ?_
    refine v_cVd (pc := 13) g dX5_dry_13 lk_X5_78 (c_be_Dr S v) (Nat.le_of_ble_eq_true rfl) rfl rfl rfl rfl (Nat.le_of_ble_eq_true rfl) ?_
    refine v_goto (pc := 16) 25 g dX5_dry_16 rfl ?_
    exact v_iret (pc := 25) g hret dX5_dry_25 (by first | exact ⟨so_i (by unfold r_2; rw [if_neg c7]), by unfold s_2 fdI; rw [if_neg c7, if_neg c7]⟩ | exact ⟨so_i (by unfold r_2; rw [if_pos c7]), by unfold s_2 fdI; rw [if_pos c7, if_pos c7]⟩)
set_option maxRecDepth 20000 in
set_option maxHeartbeats 2000000 in
theorem c_X5_now (S : St) {fo : Nat → Int32} {of : Int32} {tr : Nat → Int32} {b1 : Nat → Int32} {ta : Nat → Int32} {tm : Nat} {so : Int32} {be : Int32} {te : Int32} {wo : Int64} {va : Int32} {gd : Int32} {bi : Nat → Int32} {si : Nat → Int32} {sh : Nat → Int64} {le : Nat → Int64} {im : Nat → Int32} {bf : Nat → Int32} {kp : Int32} (w : Int32) (hI : Inv S) : RunD 5 yX5_now cX5_now 2 (some .int) [.ref 0, .int w] (mW (rowOf S) fo of tr b1 ta tm so be te wo va gd bi si sh le im bf kp) (some (.int (r_3 S w))) (mW (rowOf S) (fdI (inR w 0 6) fo 0) of tr b1 ta tm so be te wo va gd bi si sh le im bf kp) := by
  refine Runs.of (by decide) (Nat.le_of_ble_eq_true rfl) rfl ?_
  intro X g hret hnL
  refine v_iload_n (pc := 0) 1 g dX5_now_0 rfl rfl ?_
  refine v_top (fun x1 e1 => ?_)
  by_cases t1_0 : x1.toInt = 0
  · refine v_tin (pc := 1) 0 44 g dX5_now_1 t1_0 (by decide) (by decide) rfl rfl ?_
    rw [e1] at t1_0
    refine v_aload_n (pc := 44) 0 g dX5_now_44 rfl rfl ?_
    refine v_get (pc := 45) g dX5_now_45 fl_X5_7 rfl rfl ?_
    refine v_iconst (pc := 48) (v := 0) g dX5_now_48 (by decide) ?_
    refine v_ialdN (pc := 49) _ g dX5_now_49 rfl rfl (Nat.le_of_ble_eq_true rfl) (Nat.le_of_ble_eq_true rfl) ?_
    exact v_iret (pc := 50) g hret dX5_now_50 (⟨so_i (by unfold r_3; simp only [*, reduceIte, Int.reduceEq]; try rfl), by unfold fdI; first | rw [if_pos (by omega)] | rw [if_neg (by omega)]⟩)
  by_cases t1_1 : x1.toInt = 1
  · refine v_tin (pc := 1) 1 51 g dX5_now_1 t1_1 (by decide) (by decide) rfl rfl ?_
    rw [e1] at t1_1
    refine v_aload_n (pc := 51) 0 g dX5_now_51 rfl rfl ?_
    refine v_get (pc := 52) g dX5_now_52 fl_X5_7 rfl rfl ?_
    refine v_iconst (pc := 55) (v := 1) g dX5_now_55 (by decide) ?_
    refine v_ialdN (pc := 56) _ g dX5_now_56 rfl rfl (Nat.le_of_ble_eq_true rfl) (Nat.le_of_ble_eq_true rfl) ?_
    exact v_iret (pc := 57) g hret dX5_now_57 (⟨so_i (by unfold r_3; simp only [*, reduceIte, Int.reduceEq]; try rfl), by unfold fdI; first | rw [if_pos (by omega)] | rw [if_neg (by omega)]⟩)
  by_cases t1_2 : x1.toInt = 2
  · refine v_tin (pc := 1) 2 58 g dX5_now_1 t1_2 (by decide) (by decide) rfl rfl ?_
    rw [e1] at t1_2
    refine v_aload_n (pc := 58) 0 g dX5_now_58 rfl rfl ?_
    refine v_iconst (pc := 59) (v := 0) g dX5_now_59 (by decide) ?_
    refine v_cVd (pc := 60) g dX5_now_60 lk_X5_87 (c_se_La S) (Nat.le_of_ble_eq_true rfl) rfl rfl rfl rfl (Nat.le_of_ble_eq_true rfl) ?_
    exact v_iret (pc := 63) g hret dX5_now_63 (⟨so_i (by unfold r_3; simp only [*, reduceIte, Int.reduceEq]; try rfl), by unfold fdI; first | rw [if_pos (by omega)] | rw [if_neg (by omega)]⟩)
  by_cases t1_3 : x1.toInt = 3
  · refine v_tin (pc := 1) 3 64 g dX5_now_1 t1_3 (by decide) (by decide) rfl rfl ?_
    rw [e1] at t1_3
    refine v_aload_n (pc := 64) 0 g dX5_now_64 rfl rfl ?_
    refine v_iconst (pc := 65) (v := 1) g dX5_now_65 (by decide) ?_
    refine v_cVd (pc := 66) g dX5_now_66 lk_X5_87 (c_se_Bo S hI) (Nat.le_of_ble_eq_true rfl) rfl rfl rfl rfl (Nat.le_of_ble_eq_true rfl) ?_
    exact v_iret (pc := 69) g hret dX5_now_69 (⟨so_i (by unfold r_3; simp only [*, reduceIte, Int.reduceEq]; try rfl), by unfold fdI; first | rw [if_pos (by omega)] | rw [if_neg (by omega)]⟩)
  by_cases t1_4 : x1.toInt = 4
  · refine v_tin (pc := 1) 4 70 g dX5_now_1 t1_4 (by decide) (by decide) rfl rfl ?_
    rw [e1] at t1_4
    refine v_aload_n (pc := 70) 0 g dX5_now_70 rfl rfl ?_
    refine v_cVd (pc := 71) g dX5_now_71 lk_X5_90 (c_X5_dueSet S hI) (Nat.le_of_ble_eq_true rfl) rfl rfl rfl rfl (Nat.le_of_ble_eq_true rfl) ?_
    exact v_iret (pc := 74) g hret dX5_now_74 (⟨so_i (by unfold r_3; simp only [*, reduceIte, Int.reduceEq]; try rfl), by unfold fdI; first | rw [if_pos (by omega)] | rw [if_neg (by omega)]⟩)
  by_cases t1_5 : x1.toInt = 5
  · refine v_tin (pc := 1) 5 75 g dX5_now_1 t1_5 (by decide) (by decide) rfl rfl ?_
    rw [e1] at t1_5
    refine v_aload_n (pc := 75) 0 g dX5_now_75 rfl rfl ?_
    refine v_iconst (pc := 76) (v := 3) g dX5_now_76 (by decide) ?_
    refine v_cVd (pc := 77) g dX5_now_77 lk_X5_93 (c_su_Co S hI) (Nat.le_of_ble_eq_true rfl) rfl rfl rfl rfl (Nat.le_of_ble_eq_true rfl) ?_
    exact v_iret (pc := 80) g hret dX5_now_80 (⟨so_i (by unfold r_3; simp only [*, reduceIte, Int.reduceEq]; try rfl), by unfold fdI; first | rw [if_pos (by omega)] | rw [if_neg (by omega)]⟩)
  by_cases t1_6 : x1.toInt = 6
  · refine v_tin (pc := 1) 6 81 g dX5_now_1 t1_6 (by decide) (by decide) rfl rfl ?_
    rw [e1] at t1_6
    refine v_aload_n (pc := 81) 0 g dX5_now_81 rfl rfl ?_
    refine v_cVd (pc := 82) g dX5_now_82 lk_X5_96 (c_X5_readOfAll S) (Nat.le_of_ble_eq_true rfl) rfl rfl rfl rfl (Nat.le_of_ble_eq_true rfl) ?_
    exact v_iret (pc := 85) g hret dX5_now_85 (⟨so_i (by unfold r_3; simp only [*, reduceIte, Int.reduceEq]; try rfl), by unfold fdI; first | rw [if_pos (by omega)] | rw [if_neg (by omega)]⟩)
  refine v_tout (pc := 1) 86 g dX5_now_1 (by omega) rfl ?_
  rw [e1] at t1_0
  rw [e1] at t1_1
  rw [e1] at t1_2
  rw [e1] at t1_3
  rw [e1] at t1_4
  rw [e1] at t1_5
  rw [e1] at t1_6
  refine v_aload_n (pc := 86) 0 g dX5_now_86 rfl rfl ?_
  refine v_ldc (pc := 87) g dX5_now_87 co_X5_44 ?_
  refine v_cVd (pc := 89) g dX5_now_89 lk_X5_81 (c_X5_finds _ 0 (-1000000001) (by decide) (by decide)) (Nat.le_of_ble_eq_true rfl) rfl rfl rfl rfl (Nat.le_of_ble_eq_true rfl) ?_
  exact v_iret (pc := 92) g hret dX5_now_92 (⟨so_i (by unfold r_3; simp only [*, reduceIte, Int.reduceEq]; try rfl), by unfold fdI; first | rw [if_pos (by omega)] | rw [if_neg (by omega)]⟩)
set_option maxRecDepth 20000 in
set_option maxHeartbeats 2000000 in
theorem c_X5_sneezer (S : St) {fo : Nat → Int32} {of : Int32} {tr : Nat → Int32} {b1 : Nat → Int32} {ta : Nat → Int32} {tm : Nat} {so : Int32} {be : Int32} {te : Int32} {wo : Int64} {va : Int32} {gd : Int32} {bi : Nat → Int32} {si : Nat → Int32} {sh : Nat → Int64} {le : Nat → Int64} {im : Nat → Int32} {bf : Nat → Int32} {kp : Int32} (k h : Int32) (hI : Inv S) : RunD 2 yX5_sneezer cX5_sneezer 3 (some .int) [.ref 0, .int k, .int h] (mW (rowOf S) fo of tr b1 ta tm so be te wo va gd bi si sh le im bf kp) (some (.int (r_4 S k h))) (mW (rowOf (s_4 S k h)) (f_4 S fo k h) of tr b1 ta tm so be te wo va gd bi si sh le im bf kp) := by
  refine Runs.of (by decide) (Nat.le_of_ble_eq_true rfl) rfl ?_
  intro X g hret hnL
  refine v_iload_n (pc := 0) 1 g dX5_sneezer_0 rfl rfl ?_
  refine v_cSd (pc := 1) g dX5_sneezer_1 lk_X5_103 ((c_X5_isKind _).any rfl rfl _) (Nat.le_of_ble_eq_true rfl) rfl rfl (Nat.le_of_ble_eq_true rfl) ?_
  refine v_ifb_eq (pc := 4) 14 g dX5_sneezer_4 rfl (fun c4 => ?_) (fun c4 => ?_)
  · refine v_aload_n (pc := 14) 0 g dX5_sneezer_14 rfl rfl ?_
    refine v_ldc (pc := 15) g dX5_sneezer_15 co_X5_44 ?_
    refine v_cVd (pc := 17) g dX5_sneezer_17 lk_X5_81 (c_X5_finds _ 0 (-1000000001) (by decide) (by decide)) (Nat.le_of_ble_eq_true rfl) rfl rfl rfl rfl (Nat.le_of_ble_eq_true rfl) ?_
    exact v_iret (pc := 20) g hret dX5_sneezer_20 (⟨so_i (by unfold r_4; rw [if_neg (by omega)]), by unfold s_4 f_4; rw [if_neg (by omega), if_neg (by omega)]⟩)
  · refine v_iload_n (pc := 7) 2 g dX5_sneezer_7 rfl rfl ?_
    refine v_cSd (pc := 8) g dX5_sneezer_8 lk_X5_72 ((c_X5_isHouse _).any rfl rfl _) (Nat.le_of_ble_eq_true rfl) rfl rfl (Nat.le_of_ble_eq_true rfl) ?_
    refine v_ifb_ne (pc := 11) 21 g dX5_sneezer_11 rfl (fun c11 => ?_) (fun c11 => ?_)
    · refine v_aload_n (pc := 21) 0 g dX5_sneezer_21 rfl rfl ?_
      refine v_get (pc := 22) g dX5_sneezer_22 fl_X5_7 rfl rfl ?_
      refine v_iconst (pc := 25) (v := 2) g dX5_sneezer_25 (by decide) ?_
      refine v_ialdN (pc := 26) _ g dX5_sneezer_26 rfl rfl (Nat.le_of_ble_eq_true rfl) (Nat.le_of_ble_eq_true rfl) ?_
      rw [row_N]
      refine v_bipush (pc := 27) (v := 8) g dX5_sneezer_27 (by decide) ?_
      refine v_icmp_ne (pc := 29) 39 g dX5_sneezer_29 rfl (fun c29 => ?_) (fun c29 => ?_)
      · have e30 : sN S < 8 := by have := hI.n; rcases Nat.lt_or_ge (sN S) 8 with q | q; exact q; exact absurd (show nI (sN S) = 8 by rw [show sN S = 8 by omega]; rfl) c29
        refine v_aload_n (pc := 39) 0 g dX5_sneezer_39 rfl rfl ?_
        refine v_iload_n (pc := 40) 1 g dX5_sneezer_40 rfl rfl ?_
        refine v_iload_n (pc := 41) 2 g dX5_sneezer_41 rfl rfl ?_
        refine v_iconst (pc := 42) (v := 1) g dX5_sneezer_42 (by decide) ?_
        refine v_bipush (pc := 43) (v := 20) g dX5_sneezer_43 (by decide) ?_
        refine v_iconst (pc := 45) (v := 0) g dX5_sneezer_45 (by decide) ?_
        refine v_cVd (pc := 46) g dX5_sneezer_46 lk_X5_107 (c_X5_adds S k h 1 20 0 e30) (Nat.le_of_ble_eq_true rfl) rfl rfl rfl rfl (Nat.le_of_ble_eq_true rfl) ?_
        refine v_aload_n (pc := 49) 0 g dX5_sneezer_49 rfl rfl ?_
        refine v_get (pc := 50) g dX5_sneezer_50 fl_X5_7 rfl rfl ?_
        refine v_iconst (pc := 53) (v := 2) g dX5_sneezer_53 (by decide) ?_
        refine v_ialdN (pc := 54) _ g dX5_sneezer_54 rfl rfl (Nat.le_of_ble_eq_true rfl) (Nat.le_of_ble_eq_true rfl) ?_
        rw [row_N]
        refine v_iconst (pc := 55) (v := 1) g dX5_sneezer_55 (by decide) ?_
        refine v_isub (pc := 56) g dX5_sneezer_56 ?_
        exact v_iret (pc := 57) g hret dX5_sneezer_57 (⟨so_i (by unfold r_4; rw [if_pos ⟨c4, c11⟩, if_pos e30]; exact nI_pred _), by unfold s_4 f_4; rw [if_pos ⟨⟨c4, c11⟩, e30⟩, if_pos ⟨c4, c11⟩, if_pos e30]⟩)
      · have e30 : ¬ sN S < 8 := by have := (nI_eq (a := sN S) (b := 8) (by have := hI.n; omega) (by omega)).mp c29; omega
        refine v_aload_n (pc := 32) 0 g dX5_sneezer_32 rfl rfl ?_
        refine v_ldc (pc := 33) g dX5_sneezer_33 co_X5_106 ?_
        refine v_cVd (pc := 35) g dX5_sneezer_35 lk_X5_81 (c_X5_finds _ 1 (-1000000002) (by decide) (by decide)) (Nat.le_of_ble_eq_true rfl) rfl rfl rfl rfl (Nat.le_of_ble_eq_true rfl) ?_
        exact v_iret (pc := 38) g hret dX5_sneezer_38 (⟨so_i (by unfold r_4; rw [if_pos ⟨c4, c11⟩, if_neg e30]), by unfold s_4 f_4; rw [if_neg (fun z => e30 z.2), if_pos ⟨c4, c11⟩, if_neg e30]⟩)
    · refine v_aload_n (pc := 14) 0 g dX5_sneezer_14 rfl rfl ?_
      refine v_ldc (pc := 15) g dX5_sneezer_15 co_X5_44 ?_
      refine v_cVd (pc := 17) g dX5_sneezer_17 lk_X5_81 (c_X5_finds _ 0 (-1000000001) (by decide) (by decide)) (Nat.le_of_ble_eq_true rfl) rfl rfl rfl rfl (Nat.le_of_ble_eq_true rfl) ?_
      exact v_iret (pc := 20) g hret dX5_sneezer_20 (⟨so_i (by unfold r_4; rw [if_neg (by omega)]), by unfold s_4 f_4; rw [if_neg (by omega), if_neg (by omega)]⟩)
set_option maxRecDepth 20000 in
set_option maxHeartbeats 2000000 in
theorem c_X5_of (S : St) {fo : Nat → Int32} {of : Int32} {tr : Nat → Int32} {b1 : Nat → Int32} {ta : Nat → Int32} {tm : Nat} {so : Int32} {be : Int32} {te : Int32} {wo : Int64} {va : Int32} {gd : Int32} {bi : Nat → Int32} {si : Nat → Int32} {sh : Nat → Int64} {le : Nat → Int64} {im : Nat → Int32} {bf : Nat → Int32} {kp : Int32} (p w : Int32) (hI : Inv S) : RunD 3 yX5_of cX5_of 3 (some .int) [.ref 0, .int p, .int w] (mW (rowOf S) fo of tr b1 ta tm so be te wo va gd bi si sh le im bf kp) (some (.int (r_5 S p w))) (mW (rowOf S) (fdI (C5 S p w) fo 0) of tr b1 ta tm so be te wo va gd bi si sh le im bf kp) := by
  refine Runs.of (by decide) (Nat.le_of_ble_eq_true rfl) rfl ?_
  intro X g hret hnL
  refine v_aload_n (pc := 0) 0 g dX5_of_0 rfl rfl ?_
  refine v_iload_n (pc := 1) 1 g dX5_of_1 rfl rfl ?_
  refine v_cVd (pc := 2) g dX5_of_2 lk_X5_111 (c_X5_isOne S _ hI.n) (Nat.le_of_ble_eq_true rfl) rfl rfl rfl rfl (Nat.le_of_ble_eq_true rfl) ?_
  refine v_ifb_eq (pc := 5) 18 g dX5_of_5 rfl (fun c5 => ?_) (fun c5 => ?_)
  · refine v_aload_n (pc := 18) 0 g dX5_of_18 rfl rfl ?_
    refine v_ldc (pc := 19) g dX5_of_19 co_X5_44 ?_
    refine v_cVd (pc := 21) g dX5_of_21 lk_X5_81 (c_X5_finds _ 0 (-1000000001) (by decide) (by decide)) (Nat.le_of_ble_eq_true rfl) rfl rfl rfl rfl (Nat.le_of_ble_eq_true rfl) ?_
    exact v_iret (pc := 24) g hret dX5_of_24 (⟨so_i (by unfold r_5; rw [if_neg (by omega)]), by unfold fdI; rw [if_neg (by omega)]⟩)
  · refine v_iload_n (pc := 8) 2 g dX5_of_8 rfl rfl ?_
    refine v_iconst (pc := 9) (v := 0) g dX5_of_9 (by decide) ?_
    refine v_bipush (pc := 10) (v := 9) g dX5_of_10 (by decide) ?_
    refine v_cSd (pc := 12) g dX5_of_12 lk_X5_45 ((c_X5_in _ _ _ 0 9 rfl rfl).any rfl rfl _) (Nat.le_of_ble_eq_true rfl) rfl rfl (Nat.le_of_ble_eq_true rfl) ?_
    refine v_ifb_ne (pc := 15) 25 g dX5_of_15 rfl (fun c15 => ?_) (fun c15 => ?_)
    · have hC : C5 S p w := ⟨c5, c15⟩
      obtain ⟨i, hi, rfl⟩ := (show isP S p from c5).nat hI.n
      have ei : (nI i).toNatClampNeg = i := nI_clamp (by have := hI.n; omega)
      refine v_iload_n (pc := 25) 2 g dX5_of_25 rfl rfl ?_
      refine v_top (fun x26 e26 => ?_)
      by_cases t26_6 : x26.toInt = 6
      · refine v_tin (pc := 26) 6 56 g dX5_of_26 t26_6 (by decide) (by decide) rfl rfl ?_
        rw [e26] at t26_6
        refine v_aload_n (pc := 56) 0 g dX5_of_56 rfl rfl ?_
        refine v_iload_n (pc := 57) 1 g dX5_of_57 rfl rfl ?_
        refine v_cVd (pc := 58) g dX5_of_58 lk_X5_114 (c_X5_tickles S i hI (by have := hI.n; omega)) (Nat.le_of_ble_eq_true rfl) rfl rfl rfl rfl (Nat.le_of_ble_eq_true rfl) ?_
        exact v_iret (pc := 61) g hret dX5_of_61 (⟨so_i (by unfold r_5; rw [if_pos hC, ei]; unfold ofG; simp only [*, reduceIte, Int.reduceEq]; try rfl), by unfold fdI; rw [if_pos hC]⟩)
      by_cases t26_7 : x26.toInt = 7
      · refine v_tin (pc := 26) 7 62 g dX5_of_26 t26_7 (by decide) (by decide) rfl rfl ?_
        rw [e26] at t26_7
        refine v_aload_n (pc := 62) 0 g dX5_of_62 rfl rfl ?_
        refine v_iload_n (pc := 63) 1 g dX5_of_63 rfl rfl ?_
        refine v_cVd (pc := 64) g dX5_of_64 lk_X5_64 (c_X5_holds S i (by have := hI.n; omega)) (Nat.le_of_ble_eq_true rfl) rfl rfl rfl rfl (Nat.le_of_ble_eq_true rfl) ?_
        exact v_iret (pc := 67) g hret dX5_of_67 (⟨so_i (by unfold r_5; rw [if_pos hC, ei]; unfold ofG; simp only [*, reduceIte, Int.reduceEq]; try rfl), by unfold fdI; rw [if_pos hC]⟩)
      by_cases t26_8 : x26.toInt = 8
      · refine v_tin (pc := 26) 8 68 g dX5_of_26 t26_8 (by decide) (by decide) rfl rfl ?_
        rw [e26] at t26_8
        refine v_aload_n (pc := 68) 0 g dX5_of_68 rfl rfl ?_
        refine v_iload_n (pc := 69) 1 g dX5_of_69 rfl rfl ?_
        refine v_cVd (pc := 70) g dX5_of_70 lk_X5_117 (c_X5_blows S i (by have := hI.n; omega)) (Nat.le_of_ble_eq_true rfl) rfl rfl rfl rfl (Nat.le_of_ble_eq_true rfl) ?_
        exact v_iret (pc := 73) g hret dX5_of_73 (⟨so_i (by unfold r_5; rw [if_pos hC, ei]; unfold ofG; simp only [*, reduceIte, Int.reduceEq]; try rfl), by unfold fdI; rw [if_pos hC]⟩)
      by_cases t26_9 : x26.toInt = 9
      · refine v_tin (pc := 26) 9 74 g dX5_of_26 t26_9 (by decide) (by decide) rfl rfl ?_
        rw [e26] at t26_9
        refine v_aload_n (pc := 74) 0 g dX5_of_74 rfl rfl ?_
        refine v_iload_n (pc := 75) 1 g dX5_of_75 rfl rfl ?_
        refine v_cVd (pc := 76) g dX5_of_76 lk_X5_120 (c_X5_heals S i (by have := hI.n; omega)) (Nat.le_of_ble_eq_true rfl) rfl rfl rfl rfl (Nat.le_of_ble_eq_true rfl) ?_
        exact v_iret (pc := 79) g hret dX5_of_79 (⟨so_i (by unfold r_5; rw [if_pos hC, ei]; unfold ofG; simp only [*, reduceIte, Int.reduceEq]; try rfl), by unfold fdI; rw [if_pos hC]⟩)
      refine v_tout (pc := 26) 80 g dX5_of_26 (by omega) rfl ?_
      rw [e26] at t26_6
      rw [e26] at t26_7
      rw [e26] at t26_8
      rw [e26] at t26_9
      obtain ⟨k, hk, rfl⟩ := (show inR w 0 ((5 : Nat) : Int) from ⟨c15.1, by have := c15.2; omega⟩).nat (by omega)
      rcases (show k = 0 ∨ k = 1 ∨ k = 2 ∨ k = 3 ∨ k = 4 ∨ k = 5 by omega) with rfl | rfl | rfl | rfl | rfl | rfl
      · have hw : (nI 0).toInt = 0 := rfl
        refine v_aload_n (pc := 80) 0 g dX5_of_80 rfl rfl ?_
        refine v_iload_n (pc := 81) 1 g dX5_of_81 rfl rfl ?_
        refine v_iload_n (pc := 82) 2 g dX5_of_82 rfl rfl ?_
        refine v_cVd (pc := 83) g dX5_of_83 lk_X5_53 (c_it_Ki S i (by have := hI.n; omega)) (Nat.le_of_ble_eq_true rfl) rfl rfl rfl rfl (Nat.le_of_ble_eq_true rfl) ?_
        exact v_iret (pc := 86) g hret dX5_of_86 (⟨so_i (by unfold r_5; rw [if_pos hC, ei]; unfold ofG; simp only [hw, reduceIte, Int.reduceEq]; try rfl), by unfold fdI; rw [if_pos hC]⟩)
      · have hw : (nI 1).toInt = 1 := rfl
        refine v_aload_n (pc := 80) 0 g dX5_of_80 rfl rfl ?_
        refine v_iload_n (pc := 81) 1 g dX5_of_81 rfl rfl ?_
        refine v_iload_n (pc := 82) 2 g dX5_of_82 rfl rfl ?_
        refine v_cVd (pc := 83) g dX5_of_83 lk_X5_53 (c_it_At S i (by have := hI.n; omega)) (Nat.le_of_ble_eq_true rfl) rfl rfl rfl rfl (Nat.le_of_ble_eq_true rfl) ?_
        exact v_iret (pc := 86) g hret dX5_of_86 (⟨so_i (by unfold r_5; rw [if_pos hC, ei]; unfold ofG; simp only [hw, reduceIte, Int.reduceEq]; try rfl), by unfold fdI; rw [if_pos hC]⟩)
      · have hw : (nI 2).toInt = 2 := rfl
        refine v_aload_n (pc := 80) 0 g dX5_of_80 rfl rfl ?_
        refine v_iload_n (pc := 81) 1 g dX5_of_81 rfl rfl ?_
        refine v_iload_n (pc := 82) 2 g dX5_of_82 rfl rfl ?_
        refine v_cVd (pc := 83) g dX5_of_83 lk_X5_53 (c_it_Fa S i (by have := hI.n; omega)) (Nat.le_of_ble_eq_true rfl) rfl rfl rfl rfl (Nat.le_of_ble_eq_true rfl) ?_
        exact v_iret (pc := 86) g hret dX5_of_86 (⟨so_i (by unfold r_5; rw [if_pos hC, ei]; unfold ofG; simp only [hw, reduceIte, Int.reduceEq]; try rfl), by unfold fdI; rw [if_pos hC]⟩)
      · have hw : (nI 3).toInt = 3 := rfl
        refine v_aload_n (pc := 80) 0 g dX5_of_80 rfl rfl ?_
        refine v_iload_n (pc := 81) 1 g dX5_of_81 rfl rfl ?_
        refine v_iload_n (pc := 82) 2 g dX5_of_82 rfl rfl ?_
        refine v_cVd (pc := 83) g dX5_of_83 lk_X5_53 (c_it_Co S i (by have := hI.n; omega)) (Nat.le_of_ble_eq_true rfl) rfl rfl rfl rfl (Nat.le_of_ble_eq_true rfl) ?_
        exact v_iret (pc := 86) g hret dX5_of_86 (⟨so_i (by unfold r_5; rw [if_pos hC, ei]; unfold ofG; simp only [hw, reduceIte, Int.reduceEq]; try rfl), by unfold fdI; rw [if_pos hC]⟩)
      · have hw : (nI 4).toInt = 4 := rfl
        refine v_aload_n (pc := 80) 0 g dX5_of_80 rfl rfl ?_
        refine v_iload_n (pc := 81) 1 g dX5_of_81 rfl rfl ?_
        refine v_iload_n (pc := 82) 2 g dX5_of_82 rfl rfl ?_
        refine v_cVd (pc := 83) g dX5_of_83 lk_X5_53 (c_it_Ti S i (by have := hI.n; omega)) (Nat.le_of_ble_eq_true rfl) rfl rfl rfl rfl (Nat.le_of_ble_eq_true rfl) ?_
        exact v_iret (pc := 86) g hret dX5_of_86 (⟨so_i (by unfold r_5; rw [if_pos hC, ei]; unfold ofG; simp only [hw, reduceIte, Int.reduceEq]; try rfl), by unfold fdI; rw [if_pos hC]⟩)
      · have hw : (nI 5).toInt = 5 := rfl
        refine v_aload_n (pc := 80) 0 g dX5_of_80 rfl rfl ?_
        refine v_iload_n (pc := 81) 1 g dX5_of_81 rfl rfl ?_
        refine v_iload_n (pc := 82) 2 g dX5_of_82 rfl rfl ?_
        refine v_cVd (pc := 83) g dX5_of_83 lk_X5_53 (c_it_Go S i (by have := hI.n; omega)) (Nat.le_of_ble_eq_true rfl) rfl rfl rfl rfl (Nat.le_of_ble_eq_true rfl) ?_
        exact v_iret (pc := 86) g hret dX5_of_86 (⟨so_i (by unfold r_5; rw [if_pos hC, ei]; unfold ofG; simp only [hw, reduceIte, Int.reduceEq]; try rfl), by unfold fdI; rw [if_pos hC]⟩)
    · refine v_aload_n (pc := 18) 0 g dX5_of_18 rfl rfl ?_
      refine v_ldc (pc := 19) g dX5_of_19 co_X5_44 ?_
      refine v_cVd (pc := 21) g dX5_of_21 lk_X5_81 (c_X5_finds _ 0 (-1000000001) (by decide) (by decide)) (Nat.le_of_ble_eq_true rfl) rfl rfl rfl rfl (Nat.le_of_ble_eq_true rfl) ?_
      exact v_iret (pc := 24) g hret dX5_of_24 (⟨so_i (by unfold r_5; rw [if_neg (by omega)]), by unfold fdI; rw [if_neg (by omega)]⟩)
set_option maxRecDepth 20000 in
set_option maxHeartbeats 2000000 in
theorem c_X5_set (S : St) {fo : Nat → Int32} {of : Int32} {tr : Nat → Int32} {b1 : Nat → Int32} {ta : Nat → Int32} {tm : Nat} {so : Int32} {be : Int32} {te : Int32} {wo : Int64} {va : Int32} {gd : Int32} {bi : Nat → Int32} {si : Nat → Int32} {sh : Nat → Int64} {le : Nat → Int64} {im : Nat → Int32} {bf : Nat → Int32} {kp : Int32} (p w v : Int32) (hI : Inv S) : RunD 3 yX5_set cX5_set 4 (some .int) [.ref 0, .int p, .int w, .int v] (mW (rowOf S) fo of tr b1 ta tm so be te wo va gd bi si sh le im bf kp) (some (.int (r_6 S p w v))) (mW (rowOf (s_6 S p w v)) (fdI (C6 S p w v) fo 0) of tr b1 ta tm so be te wo va gd bi si sh le im bf kp) := by
  refine Runs.of (by decide) (Nat.le_of_ble_eq_true rfl) rfl ?_
  intro X g hret hnL
  refine v_aload_n (pc := 0) 0 g dX5_set_0 rfl rfl ?_
  refine v_iload_n (pc := 1) 1 g dX5_set_1 rfl rfl ?_
  refine v_cVd (pc := 2) g dX5_set_2 lk_X5_111 (c_X5_isOne S _ hI.n) (Nat.le_of_ble_eq_true rfl) rfl rfl rfl rfl (Nat.le_of_ble_eq_true rfl) ?_
  refine v_ifb_eq (pc := 5) 33 g dX5_set_5 rfl (fun c5 => ?_) (fun c5 => ?_)
  · refine v_aload_n (pc := 33) 0 g dX5_set_33 rfl rfl ?_
    refine v_ldc (pc := 34) g dX5_set_34 co_X5_44 ?_
    refine v_cVd (pc := 36) g dX5_set_36 lk_X5_81 (c_X5_finds _ 0 (-1000000001) (by decide) (by decide)) (Nat.le_of_ble_eq_true rfl) rfl rfl rfl rfl (Nat.le_of_ble_eq_true rfl) ?_
    exact v_iret (pc := 39) g hret dX5_set_39 (by first | exact ⟨so_i (by unfold r_6 pGet; rw [if_pos hC, ei]; simp only [hw, reduceIte, Int.reduceEq]), by unfold s_6 fdI pSet; rw [if_pos hC, if_pos hC, ei]; simp only [hw, reduceIte, Int.reduceEq]⟩ | exact ⟨so_i (by unfold r_6; rw [if_neg (fun z => by first | exact c5 z.1 | exact c13 z.2)]), by unfold s_6 fdI; rw [if_neg (fun z => by first | exact c5 z.1 | exact c13 z.2), if_neg (fun z => by first | exact c5 z.1 | exact c13 z.2)]⟩)
  · refine v_iload_n (pc := 8) 2 g dX5_set_8 rfl rfl ?_
    refine v_iload_n (pc := 9) 3 g dX5_set_9 rfl rfl ?_
    refine v_cSd (pc := 10) g dX5_set_10 lk_X5_123 ((c_X5_isPart2 _ _).any rfl rfl _) (Nat.le_of_ble_eq_true rfl) rfl rfl (Nat.le_of_ble_eq_true rfl) ?_
    refine v_ifb_eq (pc := 13) 33 g dX5_set_13 rfl (fun c13 => ?_) (fun c13 => ?_)
    · refine v_aload_n (pc := 33) 0 g dX5_set_33 rfl rfl ?_
      refine v_ldc (pc := 34) g dX5_set_34 co_X5_44 ?_
      refine v_cVd (pc := 36) g dX5_set_36 lk_X5_81 (c_X5_finds _ 0 (-1000000001) (by decide) (by decide)) (Nat.le_of_ble_eq_true rfl) rfl rfl rfl rfl (Nat.le_of_ble_eq_true rfl) ?_
      exact v_iret (pc := 39) g hret dX5_set_39 (by first | exact ⟨so_i (by unfold r_6 pGet; rw [if_pos hC, ei]; simp only [hw, reduceIte, Int.reduceEq]), by unfold s_6 fdI pSet; rw [if_pos hC, if_pos hC, ei]; simp only [hw, reduceIte, Int.reduceEq]⟩ | exact ⟨so_i (by unfold r_6; rw [if_neg (fun z => by first | exact c5 z.1 | exact c13 z.2)]), by unfold s_6 fdI; rw [if_neg (fun z => by first | exact c5 z.1 | exact c13 z.2), if_neg (fun z => by first | exact c5 z.1 | exact c13 z.2)]⟩)
    · have hC : C6 S p w v := ⟨c5, c13⟩
      obtain ⟨i, hi, rfl⟩ := (show isP S p from c5).nat hI.n
      have ei : (nI i).toNatClampNeg = i := nI_clamp (by have := hI.n; omega)
      have i8 : i < 8 := by have := hI.n; omega
      obtain ⟨k, hk, rfl⟩ := (show inR w 0 ((5 : Nat) : Int) from ⟨by have := c13.1.1; omega, c13.1.2⟩).nat (by omega)
      have hk1 : 1 ≤ k := by have := c13.1.1; rw [nI_toInt (by omega)] at this; omega
      rcases (show k = 1 ∨ k = 2 ∨ k = 3 ∨ k = 4 ∨ k = 5 by omega) with rfl | rfl | rfl | rfl | rfl
      · have hw : (nI 1).toInt = 1 := rfl
        refine v_aload_n (pc := 16) 0 g dX5_set_16 rfl rfl ?_
        refine v_bipush (pc := 17) (v := 39) g dX5_set_17 (by decide) ?_
        refine v_bipush (pc := 19) (v := 6) g dX5_set_19 (by decide) ?_
        refine v_iload_n (pc := 21) 1 g dX5_set_21 rfl rfl ?_
        refine v_imul (pc := 22) g dX5_set_22 ?_
        refine v_iadd (pc := 23) g dX5_set_23 ?_
        refine v_iload_n (pc := 24) 2 g dX5_set_24 rfl rfl ?_
        refine v_iadd (pc := 25) g dX5_set_25 ?_
        refine v_iload_n (pc := 26) 3 g dX5_set_26 rfl rfl ?_
        refine v_cVd (pc := 27) g dX5_set_27 lk_X5_78 (c_be_At S i v i8) (Nat.le_of_ble_eq_true rfl) rfl rfl rfl rfl (Nat.le_of_ble_eq_true rfl) ?_
        refine v_goto (pc := 30) 39 g dX5_set_30 rfl ?_
        exact v_iret (pc := 39) g hret dX5_set_39 (by first | exact ⟨so_i (by unfold r_6 pGet; rw [if_pos hC, ei]; simp only [hw, reduceIte, Int.reduceEq]), by unfold s_6 fdI pSet; rw [if_pos hC, if_pos hC, ei]; simp only [hw, reduceIte, Int.reduceEq]⟩ | exact ⟨so_i (by unfold r_6; rw [if_neg (fun z => by first | exact c5 z.1 | exact c13 z.2)]), by unfold s_6 fdI; rw [if_neg (fun z => by first | exact c5 z.1 | exact c13 z.2), if_neg (fun z => by first | exact c5 z.1 | exact c13 z.2)]⟩)
      · have hw : (nI 2).toInt = 2 := rfl
        refine v_aload_n (pc := 16) 0 g dX5_set_16 rfl rfl ?_
        refine v_bipush (pc := 17) (v := 39) g dX5_set_17 (by decide) ?_
        refine v_bipush (pc := 19) (v := 6) g dX5_set_19 (by decide) ?_
        refine v_iload_n (pc := 21) 1 g dX5_set_21 rfl rfl ?_
        refine v_imul (pc := 22) g dX5_set_22 ?_
        refine v_iadd (pc := 23) g dX5_set_23 ?_
        refine v_iload_n (pc := 24) 2 g dX5_set_24 rfl rfl ?_
        refine v_iadd (pc := 25) g dX5_set_25 ?_
        refine v_iload_n (pc := 26) 3 g dX5_set_26 rfl rfl ?_
        refine v_cVd (pc := 27) g dX5_set_27 lk_X5_78 (c_be_Fa S i v i8) (Nat.le_of_ble_eq_true rfl) rfl rfl rfl rfl (Nat.le_of_ble_eq_true rfl) ?_
        refine v_goto (pc := 30) 39 g dX5_set_30 rfl ?_
        exact v_iret (pc := 39) g hret dX5_set_39 (by first | exact ⟨so_i (by unfold r_6 pGet; rw [if_pos hC, ei]; simp only [hw, reduceIte, Int.reduceEq]), by unfold s_6 fdI pSet; rw [if_pos hC, if_pos hC, ei]; simp only [hw, reduceIte, Int.reduceEq]⟩ | exact ⟨so_i (by unfold r_6; rw [if_neg (fun z => by first | exact c5 z.1 | exact c13 z.2)]), by unfold s_6 fdI; rw [if_neg (fun z => by first | exact c5 z.1 | exact c13 z.2), if_neg (fun z => by first | exact c5 z.1 | exact c13 z.2)]⟩)
      · have hw : (nI 3).toInt = 3 := rfl
        refine v_aload_n (pc := 16) 0 g dX5_set_16 rfl rfl ?_
        refine v_bipush (pc := 17) (v := 39) g dX5_set_17 (by decide) ?_
        refine v_bipush (pc := 19) (v := 6) g dX5_set_19 (by decide) ?_
        refine v_iload_n (pc := 21) 1 g dX5_set_21 rfl rfl ?_
        refine v_imul (pc := 22) g dX5_set_22 ?_
        refine v_iadd (pc := 23) g dX5_set_23 ?_
        refine v_iload_n (pc := 24) 2 g dX5_set_24 rfl rfl ?_
        refine v_iadd (pc := 25) g dX5_set_25 ?_
        refine v_iload_n (pc := 26) 3 g dX5_set_26 rfl rfl ?_
        refine v_cVd (pc := 27) g dX5_set_27 lk_X5_78 (c_be_Co S i v i8) (Nat.le_of_ble_eq_true rfl) rfl rfl rfl rfl (Nat.le_of_ble_eq_true rfl) ?_
        refine v_goto (pc := 30) 39 g dX5_set_30 rfl ?_
        exact v_iret (pc := 39) g hret dX5_set_39 (by first | exact ⟨so_i (by unfold r_6 pGet; rw [if_pos hC, ei]; simp only [hw, reduceIte, Int.reduceEq]), by unfold s_6 fdI pSet; rw [if_pos hC, if_pos hC, ei]; simp only [hw, reduceIte, Int.reduceEq]⟩ | exact ⟨so_i (by unfold r_6; rw [if_neg (fun z => by first | exact c5 z.1 | exact c13 z.2)]), by unfold s_6 fdI; rw [if_neg (fun z => by first | exact c5 z.1 | exact c13 z.2), if_neg (fun z => by first | exact c5 z.1 | exact c13 z.2)]⟩)
      · have hw : (nI 4).toInt = 4 := rfl
        refine v_aload_n (pc := 16) 0 g dX5_set_16 rfl rfl ?_
        refine v_bipush (pc := 17) (v := 39) g dX5_set_17 (by decide) ?_
        refine v_bipush (pc := 19) (v := 6) g dX5_set_19 (by decide) ?_
        refine v_iload_n (pc := 21) 1 g dX5_set_21 rfl rfl ?_
        refine v_imul (pc := 22) g dX5_set_22 ?_
        refine v_iadd (pc := 23) g dX5_set_23 ?_
        refine v_iload_n (pc := 24) 2 g dX5_set_24 rfl rfl ?_
        refine v_iadd (pc := 25) g dX5_set_25 ?_
        refine v_iload_n (pc := 26) 3 g dX5_set_26 rfl rfl ?_
        refine v_cVd (pc := 27) g dX5_set_27 lk_X5_78 (c_be_Ti S i v i8) (Nat.le_of_ble_eq_true rfl) rfl rfl rfl rfl (Nat.le_of_ble_eq_true rfl) ?_
        refine v_goto (pc := 30) 39 g dX5_set_30 rfl ?_
        exact v_iret (pc := 39) g hret dX5_set_39 (by first | exact ⟨so_i (by unfold r_6 pGet; rw [if_pos hC, ei]; simp only [hw, reduceIte, Int.reduceEq]), by unfold s_6 fdI pSet; rw [if_pos hC, if_pos hC, ei]; simp only [hw, reduceIte, Int.reduceEq]⟩ | exact ⟨so_i (by unfold r_6; rw [if_neg (fun z => by first | exact c5 z.1 | exact c13 z.2)]), by unfold s_6 fdI; rw [if_neg (fun z => by first | exact c5 z.1 | exact c13 z.2), if_neg (fun z => by first | exact c5 z.1 | exact c13 z.2)]⟩)
      · have hw : (nI 5).toInt = 5 := rfl
        refine v_aload_n (pc := 16) 0 g dX5_set_16 rfl rfl ?_
        refine v_bipush (pc := 17) (v := 39) g dX5_set_17 (by decide) ?_
        refine v_bipush (pc := 19) (v := 6) g dX5_set_19 (by decide) ?_
        refine v_iload_n (pc := 21) 1 g dX5_set_21 rfl rfl ?_
        refine v_imul (pc := 22) g dX5_set_22 ?_
        refine v_iadd (pc := 23) g dX5_set_23 ?_
        refine v_iload_n (pc := 24) 2 g dX5_set_24 rfl rfl ?_
        refine v_iadd (pc := 25) g dX5_set_25 ?_
        refine v_iload_n (pc := 26) 3 g dX5_set_26 rfl rfl ?_
        refine v_cVd (pc := 27) g dX5_set_27 lk_X5_78 (c_be_Go S i v i8) (Nat.le_of_ble_eq_true rfl) rfl rfl rfl rfl (Nat.le_of_ble_eq_true rfl) ?_
        refine v_goto (pc := 30) 39 g dX5_set_30 rfl ?_
        exact v_iret (pc := 39) g hret dX5_set_39 (by first | exact ⟨so_i (by unfold r_6 pGet; rw [if_pos hC, ei]; simp only [hw, reduceIte, Int.reduceEq]), by unfold s_6 fdI pSet; rw [if_pos hC, if_pos hC, ei]; simp only [hw, reduceIte, Int.reduceEq]⟩ | exact ⟨so_i (by unfold r_6; rw [if_neg (fun z => by first | exact c5 z.1 | exact c13 z.2)]), by unfold s_6 fdI; rw [if_neg (fun z => by first | exact c5 z.1 | exact c13 z.2), if_neg (fun z => by first | exact c5 z.1 | exact c13 z.2)]⟩)
set_option maxRecDepth 20000 in
set_option maxHeartbeats 2000000 in
theorem c_X5_turn (S : St) {fo : Nat → Int32} {of : Int32} {tr : Nat → Int32} {b1 : Nat → Int32} {ta : Nat → Int32} {tm : Nat} {so : Int32} {be : Int32} {te : Int32} {wo : Int64} {va : Int32} {gd : Int32} {bi : Nat → Int32} {si : Nat → Int32} {sh : Nat → Int64} {le : Nat → Int64} {im : Nat → Int32} {bf : Nat → Int32} {kp : Int32} (p k : Int32) (hI : Inv S) : RunD 2 yX5_turn cX5_turn 3 (some .int) [.ref 0, .int p, .int k] (mW (rowOf S) fo of tr b1 ta tm so be te wo va gd bi si sh le im bf kp) (some (.int (r_7 S p k))) (mW (rowOf (s_7 S p k)) (fdI (C7 S p k) fo 0) of tr b1 ta tm so be te wo va gd bi si sh le im bf kp) := by
  refine Runs.of (by decide) (Nat.le_of_ble_eq_true rfl) rfl ?_
  intro X g hret hnL
  refine v_aload_n (pc := 0) 0 g dX5_turn_0 rfl rfl ?_
  refine v_iload_n (pc := 1) 1 g dX5_turn_1 rfl rfl ?_
  refine v_cVd (pc := 2) g dX5_turn_2 lk_X5_111 (c_X5_isOne S _ hI.n) (Nat.le_of_ble_eq_true rfl) rfl rfl rfl rfl (Nat.le_of_ble_eq_true rfl) ?_
  refine v_ifb_eq (pc := 5) 30 g dX5_turn_5 rfl (fun c5 => ?_) (fun c5 => ?_)
  · refine v_aload_n (pc := 30) 0 g dX5_turn_30 rfl rfl ?_
    refine v_ldc (pc := 31) g dX5_turn_31 co_X5_44 ?_
    refine v_cVd (pc := 33) g dX5_turn_33 lk_X5_81 (c_X5_finds _ 0 (-1000000001) (by decide) (by decide)) (Nat.le_of_ble_eq_true rfl) rfl rfl rfl rfl (Nat.le_of_ble_eq_true rfl) ?_
    exact v_iret (pc := 36) g hret dX5_turn_36 (by first | exact ⟨so_i (by unfold r_7; rw [if_pos hC, ei]), by unfold s_7 fdI; rw [if_pos hC, if_pos hC, ei]⟩ | exact ⟨so_i (by unfold r_7; rw [if_neg (by omega)]), by unfold s_7 fdI; rw [if_neg (by omega), if_neg (by omega)]⟩)
  · refine v_iload_n (pc := 8) 2 g dX5_turn_8 rfl rfl ?_
    refine v_cSd (pc := 9) g dX5_turn_9 lk_X5_103 ((c_X5_isKind _).any rfl rfl _) (Nat.le_of_ble_eq_true rfl) rfl rfl (Nat.le_of_ble_eq_true rfl) ?_
    refine v_ifb_eq (pc := 12) 30 g dX5_turn_12 rfl (fun c12 => ?_) (fun c12 => ?_)
    · refine v_aload_n (pc := 30) 0 g dX5_turn_30 rfl rfl ?_
      refine v_ldc (pc := 31) g dX5_turn_31 co_X5_44 ?_
      refine v_cVd (pc := 33) g dX5_turn_33 lk_X5_81 (c_X5_finds _ 0 (-1000000001) (by decide) (by decide)) (Nat.le_of_ble_eq_true rfl) rfl rfl rfl rfl (Nat.le_of_ble_eq_true rfl) ?_
      exact v_iret (pc := 36) g hret dX5_turn_36 (by first | exact ⟨so_i (by unfold r_7; rw [if_pos hC, ei]), by unfold s_7 fdI; rw [if_pos hC, if_pos hC, ei]⟩ | exact ⟨so_i (by unfold r_7; rw [if_neg (by omega)]), by unfold s_7 fdI; rw [if_neg (by omega), if_neg (by omega)]⟩)
    · have hC : C7 S p k := ⟨c5, c12⟩
      obtain ⟨i, hi, rfl⟩ := (show isP S p from c5).nat hI.n
      have ei : (nI i).toNatClampNeg = i := nI_clamp (by have := hI.n; omega)
      refine v_aload_n (pc := 15) 0 g dX5_turn_15 rfl rfl ?_
      refine v_bipush (pc := 16) (v := 39) g dX5_turn_16 (by decide) ?_
      refine v_bipush (pc := 18) (v := 6) g dX5_turn_18 (by decide) ?_
      refine v_iload_n (pc := 20) 1 g dX5_turn_20 rfl rfl ?_
      refine v_imul (pc := 21) g dX5_turn_21 ?_
      refine v_iadd (pc := 22) g dX5_turn_22 ?_
      refine v_iload_n (pc := 23) 2 g dX5_turn_23 rfl rfl ?_
      refine v_cVd (pc := 24) g dX5_turn_24 lk_X5_78 (c_be_Ki S i k (by have := hI.n; omega)) (Nat.le_of_ble_eq_true rfl) rfl rfl rfl rfl (Nat.le_of_ble_eq_true rfl) ?_
      refine v_goto (pc := 27) 36 g dX5_turn_27 rfl ?_
      exact v_iret (pc := 36) g hret dX5_turn_36 (by first | exact ⟨so_i (by unfold r_7; rw [if_pos hC, ei]), by unfold s_7 fdI; rw [if_pos hC, if_pos hC, ei]⟩ | exact ⟨so_i (by unfold r_7; rw [if_neg (by omega)]), by unfold s_7 fdI; rw [if_neg (by omega), if_neg (by omega)]⟩)
