/-! ===== the reference: its calls, II ===== -/
set_option maxRecDepth 20000 in
set_option maxHeartbeats 2000000 in
theorem c_X5_as (S : St) {fo : Nat → Int32} {of : Int32} {tr : Nat → Int32} {b1 : Nat → Int32} {ta : Nat → Int32} {tm : Nat} {so : Int32} {be : Int32} {te : Int32} {wo : Int64} {va : Int32} {gd : Int32} {bi : Nat → Int32} {si : Nat → Int32} {sh : Nat → Int64} {le : Nat → Int64} {im : Nat → Int32} {bf : Nat → Int32} {kp : Int32} (p k : Int32) (hI : Inv S) : RunD 2 yX5_as cX5_as 5 (some .int) [.ref 0, .int p, .int k] (mW (rowOf S) fo of tr b1 ta tm so be te wo va gd bi si sh le im bf kp) (some (.int (r_8 S p k))) (mW (rowOf S) (f_8 S fo p k) of tr b1 ta tm so be te wo va gd bi si sh le im bf kp) := by
  refine Runs.of (by decide) (Nat.le_of_ble_eq_true rfl) rfl ?_
  intro X g hret hnL
  refine v_aload_n (pc := 0) 0 g dX5_as_0 rfl rfl ?_
  refine v_iload_n (pc := 1) 1 g dX5_as_1 rfl rfl ?_
  refine v_cVd (pc := 2) g dX5_as_2 lk_X5_111 (c_X5_isOne S _ hI.n) (Nat.le_of_ble_eq_true rfl) rfl rfl rfl rfl (Nat.le_of_ble_eq_true rfl) ?_
  refine v_ifb_eq (pc := 5) 15 g dX5_as_5 rfl (fun c5 => ?_) (fun c5 => ?_)
  · refine v_aload_n (pc := 15) 0 g dX5_as_15 rfl rfl ?_
    refine v_ldc (pc := 16) g dX5_as_16 co_X5_44 ?_
    refine v_cVd (pc := 18) g dX5_as_18 lk_X5_81 (c_X5_finds _ 0 (-1000000001) (by decide) (by decide)) (Nat.le_of_ble_eq_true rfl) rfl rfl rfl rfl (Nat.le_of_ble_eq_true rfl) ?_
    exact v_iret (pc := 21) g hret dX5_as_21 (⟨so_i (by unfold r_8; rw [if_neg (by omega)]), by unfold f_8; rw [if_neg (by omega)]⟩)
  · refine v_iload_n (pc := 8) 2 g dX5_as_8 rfl rfl ?_
    refine v_cSd (pc := 9) g dX5_as_9 lk_X5_103 ((c_X5_isKind _).any rfl rfl _) (Nat.le_of_ble_eq_true rfl) rfl rfl (Nat.le_of_ble_eq_true rfl) ?_
    refine v_ifb_ne (pc := 12) 22 g dX5_as_12 rfl (fun c12 => ?_) (fun c12 => ?_)
    · have hC : C7 S p k := ⟨c5, c12⟩
      obtain ⟨i, hi, rfl⟩ := (show isP S p from c5).nat hI.n
      have ei : (nI i).toNatClampNeg = i := nI_clamp (by have := hI.n; omega)
      refine v_aload_n (pc := 22) 0 g dX5_as_22 rfl rfl ?_
      refine v_iload_n (pc := 23) 1 g dX5_as_23 rfl rfl ?_
      refine v_iconst (pc := 24) (v := 0) g dX5_as_24 (by decide) ?_
      refine v_cVd (pc := 25) g dX5_as_25 lk_X5_53 (c_it_Ki S i (by have := hI.n; omega)) (Nat.le_of_ble_eq_true rfl) rfl rfl rfl rfl (Nat.le_of_ble_eq_true rfl) ?_
      refine v_istore_n (pc := 28) 3 _ g dX5_as_28 rfl (Nat.le_of_ble_eq_true rfl) hnL.symm rfl ?_
      refine v_iload_n (pc := 29) 2 g dX5_as_29 rfl rfl ?_
      refine v_if_eq (pc := 30) 58 g dX5_as_30 rfl (fun c30 => ?_) (fun c30 => ?_)
      · refine v_iconst (pc := 58) (v := 1) g dX5_as_58 (by decide) ?_
        refine v_goto (pc := 59) 63 g dX5_as_59 rfl ?_
        refine v_stE [.int (bI (undK (sKi S i) k))] (by first | (rw [bI_1 (by simp only [i_eq, Int32.reduceToInt] at *; omega)]; done) | (rw [bI_0 (by simp only [i_eq, Int32.reduceToInt] at *; omega)]; done)) ?_
        refine v_istore (pc := 63) _ g dX5_as_63 (Nat.le_of_ble_eq_true rfl) hnL.symm rfl ?_
        refine v_iload (pc := 65) g dX5_as_65 rfl ?_
        refine v_ifb_eq (pc := 67) 79 g dX5_as_67 rfl (fun c67 => ?_) (fun c67 => ?_)
        · refine v_aload_n (pc := 79) 0 g dX5_as_79 rfl rfl ?_
          refine v_ldc (pc := 80) g dX5_as_80 co_X5_127 ?_
          refine v_cVd (pc := 82) g dX5_as_82 lk_X5_81 (c_X5_finds _ 2 (-1000000003) (by decide) (by decide)) (Nat.le_of_ble_eq_true rfl) rfl rfl rfl rfl (Nat.le_of_ble_eq_true rfl) ?_
          exact v_iret (pc := 85) g hret dX5_as_85 (by first | exact ⟨so_i (by unfold r_8; rw [if_pos hC, ei, if_pos c67]), by unfold f_8; rw [if_pos hC, ei, if_pos c67]⟩ | exact ⟨so_i (by unfold r_8; rw [if_pos hC, ei, if_neg c67]), by unfold f_8; rw [if_pos hC, ei, if_neg c67]⟩)
        · refine v_aload_n (pc := 70) 0 g dX5_as_70 rfl rfl ?_
          refine v_iload_n (pc := 71) 1 g dX5_as_71 rfl rfl ?_
          refine v_iconst (pc := 72) (v := 3) g dX5_as_72 (by decide) ?_
          refine v_cVd (pc := 73) g dX5_as_73 lk_X5_53 (c_it_Co S i (by have := hI.n; omega)) (Nat.le_of_ble_eq_true rfl) rfl rfl rfl rfl (Nat.le_of_ble_eq_true rfl) ?_
          refine v_goto (pc := 76) 85 g dX5_as_76 rfl ?_
          exact v_iret (pc := 85) g hret dX5_as_85 (by first | exact ⟨so_i (by unfold r_8; rw [if_pos hC, ei, if_pos c67]), by unfold f_8; rw [if_pos hC, ei, if_pos c67]⟩ | exact ⟨so_i (by unfold r_8; rw [if_pos hC, ei, if_neg c67]), by unfold f_8; rw [if_pos hC, ei, if_neg c67]⟩)
      · refine v_iload_n (pc := 33) 2 g dX5_as_33 rfl rfl ?_
        refine v_iload_n (pc := 34) 3 g dX5_as_34 rfl rfl ?_
        refine v_icmp_eq (pc := 35) 58 g dX5_as_35 rfl (fun c35 => ?_) (fun c35 => ?_)
        · refine v_iconst (pc := 58) (v := 1) g dX5_as_58 (by decide) ?_
          refine v_goto (pc := 59) 63 g dX5_as_59 rfl ?_
          refine v_stE [.int (bI (undK (sKi S i) k))] (by first | (rw [bI_1 (by simp only [i_eq, Int32.reduceToInt] at *; omega)]; done) | (rw [bI_0 (by simp only [i_eq, Int32.reduceToInt] at *; omega)]; done)) ?_
          refine v_istore (pc := 63) _ g dX5_as_63 (Nat.le_of_ble_eq_true rfl) hnL.symm rfl ?_
          refine v_iload (pc := 65) g dX5_as_65 rfl ?_
          refine v_ifb_eq (pc := 67) 79 g dX5_as_67 rfl (fun c67 => ?_) (fun c67 => ?_)
          · refine v_aload_n (pc := 79) 0 g dX5_as_79 rfl rfl ?_
            refine v_ldc (pc := 80) g dX5_as_80 co_X5_127 ?_
            refine v_cVd (pc := 82) g dX5_as_82 lk_X5_81 (c_X5_finds _ 2 (-1000000003) (by decide) (by decide)) (Nat.le_of_ble_eq_true rfl) rfl rfl rfl rfl (Nat.le_of_ble_eq_true rfl) ?_
            exact v_iret (pc := 85) g hret dX5_as_85 (by first | exact ⟨so_i (by unfold r_8; rw [if_pos hC, ei, if_pos c67]), by unfold f_8; rw [if_pos hC, ei, if_pos c67]⟩ | exact ⟨so_i (by unfold r_8; rw [if_pos hC, ei, if_neg c67]), by unfold f_8; rw [if_pos hC, ei, if_neg c67]⟩)
          · refine v_aload_n (pc := 70) 0 g dX5_as_70 rfl rfl ?_
            refine v_iload_n (pc := 71) 1 g dX5_as_71 rfl rfl ?_
            refine v_iconst (pc := 72) (v := 3) g dX5_as_72 (by decide) ?_
            refine v_cVd (pc := 73) g dX5_as_73 lk_X5_53 (c_it_Co S i (by have := hI.n; omega)) (Nat.le_of_ble_eq_true rfl) rfl rfl rfl rfl (Nat.le_of_ble_eq_true rfl) ?_
            refine v_goto (pc := 76) 85 g dX5_as_76 rfl ?_
            exact v_iret (pc := 85) g hret dX5_as_85 (by first | exact ⟨so_i (by unfold r_8; rw [if_pos hC, ei, if_pos c67]), by unfold f_8; rw [if_pos hC, ei, if_pos c67]⟩ | exact ⟨so_i (by unfold r_8; rw [if_pos hC, ei, if_neg c67]), by unfold f_8; rw [if_pos hC, ei, if_neg c67]⟩)
        · refine v_iload_n (pc := 38) 2 g dX5_as_38 rfl rfl ?_
          refine v_iconst (pc := 39) (v := 1) g dX5_as_39 (by decide) ?_
          refine v_icmp_ne (pc := 40) 48 g dX5_as_40 rfl (fun c40 => ?_) (fun c40 => ?_)
          · refine v_iload_n (pc := 48) 2 g dX5_as_48 rfl rfl ?_
            refine v_iconst (pc := 49) (v := 2) g dX5_as_49 (by decide) ?_
            refine v_icmp_ne (pc := 50) 62 g dX5_as_50 rfl (fun c50 => ?_) (fun c50 => ?_)
            · refine v_iconst (pc := 62) (v := 0) g dX5_as_62 (by decide) ?_
              refine v_stE [.int (bI (undK (sKi S i) k))] (by first | (rw [bI_1 (by simp only [i_eq, Int32.reduceToInt] at *; omega)]; done) | (rw [bI_0 (by simp only [i_eq, Int32.reduceToInt] at *; omega)]; done)) ?_
              refine v_istore (pc := 63) _ g dX5_as_63 (Nat.le_of_ble_eq_true rfl) hnL.symm rfl ?_
              refine v_iload (pc := 65) g dX5_as_65 rfl ?_
              refine v_ifb_eq (pc := 67) 79 g dX5_as_67 rfl (fun c67 => ?_) (fun c67 => ?_)
              · refine v_aload_n (pc := 79) 0 g dX5_as_79 rfl rfl ?_
                refine v_ldc (pc := 80) g dX5_as_80 co_X5_127 ?_
                refine v_cVd (pc := 82) g dX5_as_82 lk_X5_81 (c_X5_finds _ 2 (-1000000003) (by decide) (by decide)) (Nat.le_of_ble_eq_true rfl) rfl rfl rfl rfl (Nat.le_of_ble_eq_true rfl) ?_
                exact v_iret (pc := 85) g hret dX5_as_85 (by first | exact ⟨so_i (by unfold r_8; rw [if_pos hC, ei, if_pos c67]), by unfold f_8; rw [if_pos hC, ei, if_pos c67]⟩ | exact ⟨so_i (by unfold r_8; rw [if_pos hC, ei, if_neg c67]), by unfold f_8; rw [if_pos hC, ei, if_neg c67]⟩)
              · refine v_aload_n (pc := 70) 0 g dX5_as_70 rfl rfl ?_
                refine v_iload_n (pc := 71) 1 g dX5_as_71 rfl rfl ?_
                refine v_iconst (pc := 72) (v := 3) g dX5_as_72 (by decide) ?_
                refine v_cVd (pc := 73) g dX5_as_73 lk_X5_53 (c_it_Co S i (by have := hI.n; omega)) (Nat.le_of_ble_eq_true rfl) rfl rfl rfl rfl (Nat.le_of_ble_eq_true rfl) ?_
                refine v_goto (pc := 76) 85 g dX5_as_76 rfl ?_
                exact v_iret (pc := 85) g hret dX5_as_85 (by first | exact ⟨so_i (by unfold r_8; rw [if_pos hC, ei, if_pos c67]), by unfold f_8; rw [if_pos hC, ei, if_pos c67]⟩ | exact ⟨so_i (by unfold r_8; rw [if_pos hC, ei, if_neg c67]), by unfold f_8; rw [if_pos hC, ei, if_neg c67]⟩)
            · refine v_iload_n (pc := 53) 3 g dX5_as_53 rfl rfl ?_
              refine v_iconst (pc := 54) (v := 5) g dX5_as_54 (by decide) ?_
              refine v_icmp_ne (pc := 55) 62 g dX5_as_55 rfl (fun c55 => ?_) (fun c55 => ?_)
              · refine v_iconst (pc := 62) (v := 0) g dX5_as_62 (by decide) ?_
                refine v_stE [.int (bI (undK (sKi S i) k))] (by first | (rw [bI_1 (by simp only [i_eq, Int32.reduceToInt] at *; omega)]; done) | (rw [bI_0 (by simp only [i_eq, Int32.reduceToInt] at *; omega)]; done)) ?_
                refine v_istore (pc := 63) _ g dX5_as_63 (Nat.le_of_ble_eq_true rfl) hnL.symm rfl ?_
                refine v_iload (pc := 65) g dX5_as_65 rfl ?_
                refine v_ifb_eq (pc := 67) 79 g dX5_as_67 rfl (fun c67 => ?_) (fun c67 => ?_)
                · refine v_aload_n (pc := 79) 0 g dX5_as_79 rfl rfl ?_
                  refine v_ldc (pc := 80) g dX5_as_80 co_X5_127 ?_
                  refine v_cVd (pc := 82) g dX5_as_82 lk_X5_81 (c_X5_finds _ 2 (-1000000003) (by decide) (by decide)) (Nat.le_of_ble_eq_true rfl) rfl rfl rfl rfl (Nat.le_of_ble_eq_true rfl) ?_
                  exact v_iret (pc := 85) g hret dX5_as_85 (by first | exact ⟨so_i (by unfold r_8; rw [if_pos hC, ei, if_pos c67]), by unfold f_8; rw [if_pos hC, ei, if_pos c67]⟩ | exact ⟨so_i (by unfold r_8; rw [if_pos hC, ei, if_neg c67]), by unfold f_8; rw [if_pos hC, ei, if_neg c67]⟩)
                · refine v_aload_n (pc := 70) 0 g dX5_as_70 rfl rfl ?_
                  refine v_iload_n (pc := 71) 1 g dX5_as_71 rfl rfl ?_
                  refine v_iconst (pc := 72) (v := 3) g dX5_as_72 (by decide) ?_
                  refine v_cVd (pc := 73) g dX5_as_73 lk_X5_53 (c_it_Co S i (by have := hI.n; omega)) (Nat.le_of_ble_eq_true rfl) rfl rfl rfl rfl (Nat.le_of_ble_eq_true rfl) ?_
                  refine v_goto (pc := 76) 85 g dX5_as_76 rfl ?_
                  exact v_iret (pc := 85) g hret dX5_as_85 (by first | exact ⟨so_i (by unfold r_8; rw [if_pos hC, ei, if_pos c67]), by unfold f_8; rw [if_pos hC, ei, if_pos c67]⟩ | exact ⟨so_i (by unfold r_8; rw [if_pos hC, ei, if_neg c67]), by unfold f_8; rw [if_pos hC, ei, if_neg c67]⟩)
              · refine v_iconst (pc := 58) (v := 1) g dX5_as_58 (by decide) ?_
                refine v_goto (pc := 59) 63 g dX5_as_59 rfl ?_
                refine v_stE [.int (bI (undK (sKi S i) k))] (by first | (rw [bI_1 (by simp only [i_eq, Int32.reduceToInt] at *; omega)]; done) | (rw [bI_0 (by simp only [i_eq, Int32.reduceToInt] at *; omega)]; done)) ?_
                refine v_istore (pc := 63) _ g dX5_as_63 (Nat.le_of_ble_eq_true rfl) hnL.symm rfl ?_
                refine v_iload (pc := 65) g dX5_as_65 rfl ?_
                refine v_ifb_eq (pc := 67) 79 g dX5_as_67 rfl (fun c67 => ?_) (fun c67 => ?_)
                · refine v_aload_n (pc := 79) 0 g dX5_as_79 rfl rfl ?_
                  refine v_ldc (pc := 80) g dX5_as_80 co_X5_127 ?_
                  refine v_cVd (pc := 82) g dX5_as_82 lk_X5_81 (c_X5_finds _ 2 (-1000000003) (by decide) (by decide)) (Nat.le_of_ble_eq_true rfl) rfl rfl rfl rfl (Nat.le_of_ble_eq_true rfl) ?_
                  exact v_iret (pc := 85) g hret dX5_as_85 (by first | exact ⟨so_i (by unfold r_8; rw [if_pos hC, ei, if_pos c67]), by unfold f_8; rw [if_pos hC, ei, if_pos c67]⟩ | exact ⟨so_i (by unfold r_8; rw [if_pos hC, ei, if_neg c67]), by unfold f_8; rw [if_pos hC, ei, if_neg c67]⟩)
                · refine v_aload_n (pc := 70) 0 g dX5_as_70 rfl rfl ?_
                  refine v_iload_n (pc := 71) 1 g dX5_as_71 rfl rfl ?_
                  refine v_iconst (pc := 72) (v := 3) g dX5_as_72 (by decide) ?_
                  refine v_cVd (pc := 73) g dX5_as_73 lk_X5_53 (c_it_Co S i (by have := hI.n; omega)) (Nat.le_of_ble_eq_true rfl) rfl rfl rfl rfl (Nat.le_of_ble_eq_true rfl) ?_
                  refine v_goto (pc := 76) 85 g dX5_as_76 rfl ?_
                  exact v_iret (pc := 85) g hret dX5_as_85 (by first | exact ⟨so_i (by unfold r_8; rw [if_pos hC, ei, if_pos c67]), by unfold f_8; rw [if_pos hC, ei, if_pos c67]⟩ | exact ⟨so_i (by unfold r_8; rw [if_pos hC, ei, if_neg c67]), by unfold f_8; rw [if_pos hC, ei, if_neg c67]⟩)
          · refine v_iload_n (pc := 43) 3 g dX5_as_43 rfl rfl ?_
            refine v_iconst (pc := 44) (v := 4) g dX5_as_44 (by decide) ?_
            refine v_icmp_eq (pc := 45) 58 g dX5_as_45 rfl (fun c45 => ?_) (fun c45 => ?_)
            · refine v_iconst (pc := 58) (v := 1) g dX5_as_58 (by decide) ?_
              refine v_goto (pc := 59) 63 g dX5_as_59 rfl ?_
              refine v_stE [.int (bI (undK (sKi S i) k))] (by first | (rw [bI_1 (by simp only [i_eq, Int32.reduceToInt] at *; omega)]; done) | (rw [bI_0 (by simp only [i_eq, Int32.reduceToInt] at *; omega)]; done)) ?_
              refine v_istore (pc := 63) _ g dX5_as_63 (Nat.le_of_ble_eq_true rfl) hnL.symm rfl ?_
              refine v_iload (pc := 65) g dX5_as_65 rfl ?_
              refine v_ifb_eq (pc := 67) 79 g dX5_as_67 rfl (fun c67 => ?_) (fun c67 => ?_)
              · refine v_aload_n (pc := 79) 0 g dX5_as_79 rfl rfl ?_
                refine v_ldc (pc := 80) g dX5_as_80 co_X5_127 ?_
                refine v_cVd (pc := 82) g dX5_as_82 lk_X5_81 (c_X5_finds _ 2 (-1000000003) (by decide) (by decide)) (Nat.le_of_ble_eq_true rfl) rfl rfl rfl rfl (Nat.le_of_ble_eq_true rfl) ?_
                exact v_iret (pc := 85) g hret dX5_as_85 (by first | exact ⟨so_i (by unfold r_8; rw [if_pos hC, ei, if_pos c67]), by unfold f_8; rw [if_pos hC, ei, if_pos c67]⟩ | exact ⟨so_i (by unfold r_8; rw [if_pos hC, ei, if_neg c67]), by unfold f_8; rw [if_pos hC, ei, if_neg c67]⟩)
              · refine v_aload_n (pc := 70) 0 g dX5_as_70 rfl rfl ?_
                refine v_iload_n (pc := 71) 1 g dX5_as_71 rfl rfl ?_
                refine v_iconst (pc := 72) (v := 3) g dX5_as_72 (by decide) ?_
                refine v_cVd (pc := 73) g dX5_as_73 lk_X5_53 (c_it_Co S i (by have := hI.n; omega)) (Nat.le_of_ble_eq_true rfl) rfl rfl rfl rfl (Nat.le_of_ble_eq_true rfl) ?_
                refine v_goto (pc := 76) 85 g dX5_as_76 rfl ?_
                exact v_iret (pc := 85) g hret dX5_as_85 (by first | exact ⟨so_i (by unfold r_8; rw [if_pos hC, ei, if_pos c67]), by unfold f_8; rw [if_pos hC, ei, if_pos c67]⟩ | exact ⟨so_i (by unfold r_8; rw [if_pos hC, ei, if_neg c67]), by unfold f_8; rw [if_pos hC, ei, if_neg c67]⟩)
            · refine v_iload_n (pc := 48) 2 g dX5_as_48 rfl rfl ?_
              refine v_iconst (pc := 49) (v := 2) g dX5_as_49 (by decide) ?_
              refine v_icmp_ne (pc := 50) 62 g dX5_as_50 rfl (fun c50 => ?_) (fun c50 => ?_)
              · refine v_iconst (pc := 62) (v := 0) g dX5_as_62 (by decide) ?_
                refine v_stE [.int (bI (undK (sKi S i) k))] (by first | (rw [bI_1 (by simp only [i_eq, Int32.reduceToInt] at *; omega)]; done) | (rw [bI_0 (by simp only [i_eq, Int32.reduceToInt] at *; omega)]; done)) ?_
                refine v_istore (pc := 63) _ g dX5_as_63 (Nat.le_of_ble_eq_true rfl) hnL.symm rfl ?_
                refine v_iload (pc := 65) g dX5_as_65 rfl ?_
                refine v_ifb_eq (pc := 67) 79 g dX5_as_67 rfl (fun c67 => ?_) (fun c67 => ?_)
                · refine v_aload_n (pc := 79) 0 g dX5_as_79 rfl rfl ?_
                  refine v_ldc (pc := 80) g dX5_as_80 co_X5_127 ?_
                  refine v_cVd (pc := 82) g dX5_as_82 lk_X5_81 (c_X5_finds _ 2 (-1000000003) (by decide) (by decide)) (Nat.le_of_ble_eq_true rfl) rfl rfl rfl rfl (Nat.le_of_ble_eq_true rfl) ?_
                  exact v_iret (pc := 85) g hret dX5_as_85 (by first | exact ⟨so_i (by unfold r_8; rw [if_pos hC, ei, if_pos c67]), by unfold f_8; rw [if_pos hC, ei, if_pos c67]⟩ | exact ⟨so_i (by unfold r_8; rw [if_pos hC, ei, if_neg c67]), by unfold f_8; rw [if_pos hC, ei, if_neg c67]⟩)
                · refine v_aload_n (pc := 70) 0 g dX5_as_70 rfl rfl ?_
                  refine v_iload_n (pc := 71) 1 g dX5_as_71 rfl rfl ?_
                  refine v_iconst (pc := 72) (v := 3) g dX5_as_72 (by decide) ?_
                  refine v_cVd (pc := 73) g dX5_as_73 lk_X5_53 (c_it_Co S i (by have := hI.n; omega)) (Nat.le_of_ble_eq_true rfl) rfl rfl rfl rfl (Nat.le_of_ble_eq_true rfl) ?_
                  refine v_goto (pc := 76) 85 g dX5_as_76 rfl ?_
                  exact v_iret (pc := 85) g hret dX5_as_85 (by first | exact ⟨so_i (by unfold r_8; rw [if_pos hC, ei, if_pos c67]), by unfold f_8; rw [if_pos hC, ei, if_pos c67]⟩ | exact ⟨so_i (by unfold r_8; rw [if_pos hC, ei, if_neg c67]), by unfold f_8; rw [if_pos hC, ei, if_neg c67]⟩)
              · refine v_iload_n (pc := 53) 3 g dX5_as_53 rfl rfl ?_
                refine v_iconst (pc := 54) (v := 5) g dX5_as_54 (by decide) ?_
                refine v_icmp_ne (pc := 55) 62 g dX5_as_55 rfl (fun c55 => ?_) (fun c55 => ?_)
                · refine v_iconst (pc := 62) (v := 0) g dX5_as_62 (by decide) ?_
                  refine v_stE [.int (bI (undK (sKi S i) k))] (by first | (rw [bI_1 (by simp only [i_eq, Int32.reduceToInt] at *; omega)]; done) | (rw [bI_0 (by simp only [i_eq, Int32.reduceToInt] at *; omega)]; done)) ?_
                  refine v_istore (pc := 63) _ g dX5_as_63 (Nat.le_of_ble_eq_true rfl) hnL.symm rfl ?_
                  refine v_iload (pc := 65) g dX5_as_65 rfl ?_
                  refine v_ifb_eq (pc := 67) 79 g dX5_as_67 rfl (fun c67 => ?_) (fun c67 => ?_)
                  · refine v_aload_n (pc := 79) 0 g dX5_as_79 rfl rfl ?_
                    refine v_ldc (pc := 80) g dX5_as_80 co_X5_127 ?_
                    refine v_cVd (pc := 82) g dX5_as_82 lk_X5_81 (c_X5_finds _ 2 (-1000000003) (by decide) (by decide)) (Nat.le_of_ble_eq_true rfl) rfl rfl rfl rfl (Nat.le_of_ble_eq_true rfl) ?_
                    exact v_iret (pc := 85) g hret dX5_as_85 (by first | exact ⟨so_i (by unfold r_8; rw [if_pos hC, ei, if_pos c67]), by unfold f_8; rw [if_pos hC, ei, if_pos c67]⟩ | exact ⟨so_i (by unfold r_8; rw [if_pos hC, ei, if_neg c67]), by unfold f_8; rw [if_pos hC, ei, if_neg c67]⟩)
                  · refine v_aload_n (pc := 70) 0 g dX5_as_70 rfl rfl ?_
                    refine v_iload_n (pc := 71) 1 g dX5_as_71 rfl rfl ?_
                    refine v_iconst (pc := 72) (v := 3) g dX5_as_72 (by decide) ?_
                    refine v_cVd (pc := 73) g dX5_as_73 lk_X5_53 (c_it_Co S i (by have := hI.n; omega)) (Nat.le_of_ble_eq_true rfl) rfl rfl rfl rfl (Nat.le_of_ble_eq_true rfl) ?_
                    refine v_goto (pc := 76) 85 g dX5_as_76 rfl ?_
                    exact v_iret (pc := 85) g hret dX5_as_85 (by first | exact ⟨so_i (by unfold r_8; rw [if_pos hC, ei, if_pos c67]), by unfold f_8; rw [if_pos hC, ei, if_pos c67]⟩ | exact ⟨so_i (by unfold r_8; rw [if_pos hC, ei, if_neg c67]), by unfold f_8; rw [if_pos hC, ei, if_neg c67]⟩)
                · refine v_iconst (pc := 58) (v := 1) g dX5_as_58 (by decide) ?_
                  refine v_goto (pc := 59) 63 g dX5_as_59 rfl ?_
                  refine v_stE [.int (bI (undK (sKi S i) k))] (by first | (rw [bI_1 (by simp only [i_eq, Int32.reduceToInt] at *; omega)]; done) | (rw [bI_0 (by simp only [i_eq, Int32.reduceToInt] at *; omega)]; done)) ?_
                  refine v_istore (pc := 63) _ g dX5_as_63 (Nat.le_of_ble_eq_true rfl) hnL.symm rfl ?_
                  refine v_iload (pc := 65) g dX5_as_65 rfl ?_
                  refine v_ifb_eq (pc := 67) 79 g dX5_as_67 rfl (fun c67 => ?_) (fun c67 => ?_)
                  · refine v_aload_n (pc := 79) 0 g dX5_as_79 rfl rfl ?_
                    refine v_ldc (pc := 80) g dX5_as_80 co_X5_127 ?_
                    refine v_cVd (pc := 82) g dX5_as_82 lk_X5_81 (c_X5_finds _ 2 (-1000000003) (by decide) (by decide)) (Nat.le_of_ble_eq_true rfl) rfl rfl rfl rfl (Nat.le_of_ble_eq_true rfl) ?_
                    exact v_iret (pc := 85) g hret dX5_as_85 (by first | exact ⟨so_i (by unfold r_8; rw [if_pos hC, ei, if_pos c67]), by unfold f_8; rw [if_pos hC, ei, if_pos c67]⟩ | exact ⟨so_i (by unfold r_8; rw [if_pos hC, ei, if_neg c67]), by unfold f_8; rw [if_pos hC, ei, if_neg c67]⟩)
                  · refine v_aload_n (pc := 70) 0 g dX5_as_70 rfl rfl ?_
                    refine v_iload_n (pc := 71) 1 g dX5_as_71 rfl rfl ?_
                    refine v_iconst (pc := 72) (v := 3) g dX5_as_72 (by decide) ?_
                    refine v_cVd (pc := 73) g dX5_as_73 lk_X5_53 (c_it_Co S i (by have := hI.n; omega)) (Nat.le_of_ble_eq_true rfl) rfl rfl rfl rfl (Nat.le_of_ble_eq_true rfl) ?_
                    refine v_goto (pc := 76) 85 g dX5_as_76 rfl ?_
                    exact v_iret (pc := 85) g hret dX5_as_85 (by first | exact ⟨so_i (by unfold r_8; rw [if_pos hC, ei, if_pos c67]), by unfold f_8; rw [if_pos hC, ei, if_pos c67]⟩ | exact ⟨so_i (by unfold r_8; rw [if_pos hC, ei, if_neg c67]), by unfold f_8; rw [if_pos hC, ei, if_neg c67]⟩)
    · refine v_aload_n (pc := 15) 0 g dX5_as_15 rfl rfl ?_
      refine v_ldc (pc := 16) g dX5_as_16 co_X5_44 ?_
      refine v_cVd (pc := 18) g dX5_as_18 lk_X5_81 (c_X5_finds _ 0 (-1000000001) (by decide) (by decide)) (Nat.le_of_ble_eq_true rfl) rfl rfl rfl rfl (Nat.le_of_ble_eq_true rfl) ?_
      exact v_iret (pc := 21) g hret dX5_as_21 (⟨so_i (by unfold r_8; rw [if_neg (by omega)]), by unfold f_8; rw [if_neg (by omega)]⟩)
set_option maxRecDepth 20000 in
set_option maxHeartbeats 2000000 in
theorem c_X5_minutes (S : St) {fo : Nat → Int32} {of : Int32} {tr : Nat → Int32} {b1 : Nat → Int32} {ta : Nat → Int32} {tm : Nat} {so : Int32} {be : Int32} {te : Int32} {wo : Int64} {va : Int32} {gd : Int32} {bi : Nat → Int32} {si : Nat → Int32} {sh : Nat → Int64} {le : Nat → Int64} {im : Nat → Int32} {bf : Nat → Int32} {kp : Int32} (n : Int32) (hI : Inv S) (hM : inR (sMi S) 0 99999) : Runs 7 yX5_minutes cX5_minutes 2 (some .int) [.ref 0, .int n] (mW (rowOf S) fo of tr b1 ta tm so be te wo va gd bi si sh le im bf kp) (fun r0 w0 => ∃ o1, r0 = some (.int (r_9 S n)) ∧ w0 = mW (rowOf (s_9 S n)) (f_9 S fo n) o1 tr b1 ta tm so be te wo va gd bi si sh le im bf kp) := by
  refine Runs.of (by decide) (Nat.le_of_ble_eq_true rfl) rfl ?_
  intro X g hret hnL
  refine v_iload_n (pc := 0) 1 g dX5_minutes_0 rfl rfl ?_
  refine v_iconst (pc := 1) (v := 1) g dX5_minutes_1 (by decide) ?_
  refine v_bipush (pc := 2) (v := 100) g dX5_minutes_2 (by decide) ?_
  refine v_cSd (pc := 4) g dX5_minutes_4 lk_X5_45 ((c_X5_in _ _ _ 1 100 rfl rfl).any rfl rfl _) (Nat.le_of_ble_eq_true rfl) rfl rfl (Nat.le_of_ble_eq_true rfl) ?_
  refine v_ifb_ne (pc := 7) 17 g dX5_minutes_7 rfl (fun c7 => ?_) (fun c7 => ?_)
  · obtain ⟨i, hi, rfl⟩ := (show inR n 0 ((100 : Nat) : Int) from ⟨by have := c7.1; omega, c7.2⟩).nat (by omega)
    have ei : (nI i).toNatClampNeg = i := nI_clamp (by omega)
    obtain ⟨a, ha, ea⟩ := hM.nat (m := 99999) (by omega)
    have hq : (sMi S + nI i).toInt = (sMi S).toInt + (nI i).toInt := by rw [ea, nI_add, nI_toInt (by omega), nI_toInt (by omega), nI_toInt (by omega)]; omega
    refine v_aload_n (pc := 17) 0 g dX5_minutes_17 rfl rfl ?_
    refine v_get (pc := 18) g dX5_minutes_18 fl_X5_7 rfl rfl ?_
    refine v_iconst (pc := 21) (v := 0) g dX5_minutes_21 (by decide) ?_
    refine v_ialdN (pc := 22) _ g dX5_minutes_22 rfl rfl (Nat.le_of_ble_eq_true rfl) (Nat.le_of_ble_eq_true rfl) ?_
    rw [row_Mi]
    refine v_iload_n (pc := 23) 1 g dX5_minutes_23 rfl rfl ?_
    refine v_iadd (pc := 24) g dX5_minutes_24 ?_
    refine v_ldc (pc := 25) g dX5_minutes_25 co_X5_151 ?_
    refine v_icmp_le (pc := 27) 37 g dX5_minutes_27 rfl (fun c27 => ?_) (fun c27 => ?_)
    · have hC : C9 S (nI i) := by rw [i_le, hq] at c27; exact c27
      refine v_aload_n (pc := 37) 0 g dX5_minutes_37 rfl rfl ?_
      refine v_iload_n (pc := 38) 1 g dX5_minutes_38 rfl rfl ?_
      refine v_cVd (pc := 39) g dX5_minutes_39 lk_X5_153 (c_X5_passes S i hI (by omega)) (Nat.le_of_ble_eq_true rfl) rfl rfl rfl rfl (Nat.le_of_ble_eq_true rfl) ?_
      refine v_aload_n (pc := 42) 0 g dX5_minutes_42 rfl rfl ?_
      refine v_iconst (pc := 43) (v := 0) g dX5_minutes_43 (by decide) ?_
      refine v_cVd (pc := 44) g dX5_minutes_44 lk_X5_87 (c_se_La _) (Nat.le_of_ble_eq_true rfl) rfl rfl rfl rfl (Nat.le_of_ble_eq_true rfl) ?_
      exact v_iret (pc := 47) g hret dX5_minutes_47 (⟨_, so_i (by unfold r_9; rw [if_pos c7, if_pos hC, ei]), by unfold s_9 f_9; rw [if_pos ⟨c7, hC⟩, if_pos c7, if_pos hC, ei]⟩)
    · have hC : ¬ C9 S (nI i) := by rw [i_le, hq] at c27; exact c27
      refine v_aload_n (pc := 30) 0 g dX5_minutes_30 rfl rfl ?_
      refine v_ldc (pc := 31) g dX5_minutes_31 co_X5_152 ?_
      refine v_cVd (pc := 33) g dX5_minutes_33 lk_X5_81 (c_X5_finds _ 4 (-1000000005) (by decide) (by decide)) (Nat.le_of_ble_eq_true rfl) rfl rfl rfl rfl (Nat.le_of_ble_eq_true rfl) ?_
      exact v_iret (pc := 36) g hret dX5_minutes_36 (⟨_, so_i (by unfold r_9; rw [if_pos c7, if_neg hC]), by unfold s_9 f_9; rw [if_neg (fun z => hC z.2), if_pos c7, if_neg hC]⟩)
  · refine v_aload_n (pc := 10) 0 g dX5_minutes_10 rfl rfl ?_
    refine v_ldc (pc := 11) g dX5_minutes_11 co_X5_44 ?_
    refine v_cVd (pc := 13) g dX5_minutes_13 lk_X5_81 (c_X5_finds _ 0 (-1000000001) (by decide) (by decide)) (Nat.le_of_ble_eq_true rfl) rfl rfl rfl rfl (Nat.le_of_ble_eq_true rfl) ?_
    exact v_iret (pc := 16) g hret dX5_minutes_16 (⟨_, so_i (by unfold r_9; rw [if_neg c7]), by unfold s_9 f_9; rw [if_neg (fun z => c7 z.1), if_neg c7]⟩)
set_option maxRecDepth 20000 in
set_option maxHeartbeats 2000000 in
theorem c_X5_image (r : Nat → Int32) {fo : Nat → Int32} {of : Int32} {tr : Nat → Int32} {b1 : Nat → Int32} {ta : Nat → Int32} {tm : Nat} {so : Int32} {be : Int32} {te : Int32} {wo : Int64} {va : Int32} {gd : Int32} {bi : Nat → Int32} {si : Nat → Int32} {sh : Nat → Int64} {le : Nat → Int64} {im : Nat → Int32} {bf : Nat → Int32} {kp : Int32} : RunD 1 yX5_image cX5_image 1 (some .int) [.ref 0] (mW r fo of tr b1 ta tm so be te wo va gd bi si sh le im bf kp) (some (.int 1)) (mW r fo of tr b1 ta tm so be te wo va gd bi si sh le r bf 1) := by
  refine Runs.of (by decide) (Nat.le_of_ble_eq_true rfl) rfl ?_
  intro X g hret hnL
  refine v_aload_n (pc := 0) 0 g dX5_image_0 rfl rfl ?_
  refine v_iconst (pc := 1) (v := 1) g dX5_image_1 (by decide) ?_
  refine v_aload_n (pc := 2) 0 g dX5_image_2 rfl rfl ?_
  refine v_get (pc := 3) g dX5_image_3 fl_X5_38 rfl rfl ?_
  refine v_cVd (pc := 6) g dX5_image_6 lk_X5_156 (c_mvK_im r) (Nat.le_of_ble_eq_true rfl) rfl rfl rfl rfl (Nat.le_of_ble_eq_true rfl) ?_
  refine v_aload_n (pc := 9) 0 g dX5_image_9 rfl rfl ?_
  refine v_iconst (pc := 10) (v := 1) g dX5_image_10 (by decide) ?_
  refine v_put (pc := 11) _ g dX5_image_11 fp_X5_282 rfl (Nat.le_of_ble_eq_true rfl) rfl rfl rfl rfl ?_
  refine v_iconst (pc := 14) (v := 1) g dX5_image_14 (by decide) ?_
  exact v_iret (pc := 15) g hret dX5_image_15 (⟨rfl, rfl⟩)
set_option maxRecDepth 20000 in
set_option maxHeartbeats 2000000 in
theorem c_X5_undo (S K : St) {fo : Nat → Int32} {of : Int32} {tr : Nat → Int32} {b1 : Nat → Int32} {ta : Nat → Int32} {tm : Nat} {so : Int32} {be : Int32} {te : Int32} {wo : Int64} {va : Int32} {gd : Int32} {bi : Nat → Int32} {si : Nat → Int32} {sh : Nat → Int64} {le : Nat → Int64} {im : Nat → Int32} {bf : Nat → Int32} {kp : Int32} (hk : ¬ kp = 0 → im = rowOf K) : RunD 1 yX5_undo cX5_undo 1 (some .int) [.ref 0] (mW (rowOf S) fo of tr b1 ta tm so be te wo va gd bi si sh le im bf kp) (some (.int (r_32 K kp))) (mW (rowOf (s_32 S K kp)) (f_32 kp fo) of tr b1 ta tm so be te wo va gd bi si sh le im bf kp) := by
  refine Runs.of (by decide) (Nat.le_of_ble_eq_true rfl) rfl ?_
  intro X g hret hnL
  refine v_aload_n (pc := 0) 0 g dX5_undo_0 rfl rfl ?_
  refine v_get (pc := 1) g dX5_undo_1 fl_X5_282 rfl rfl ?_
  refine v_if_ne (pc := 4) 14 g dX5_undo_4 rfl (fun c4 => ?_) (fun c4 => ?_)
  · refine v_aload_n (pc := 14) 0 g dX5_undo_14 rfl rfl ?_
    refine v_iconst (pc := 15) (v := 0) g dX5_undo_15 (by decide) ?_
    refine v_aload_n (pc := 16) 0 g dX5_undo_16 rfl rfl ?_
    refine v_get (pc := 17) g dX5_undo_17 fl_X5_38 rfl rfl ?_
    have e4 := hk c4
    subst e4
    refine v_cVd (pc := 20) g dX5_undo_20 lk_X5_156 (c_mvB_im _) (Nat.le_of_ble_eq_true rfl) rfl rfl rfl rfl (Nat.le_of_ble_eq_true rfl) ?_
    refine v_aload_n (pc := 23) 0 g dX5_undo_23 rfl rfl ?_
    refine v_get (pc := 24) g dX5_undo_24 fl_X5_7 rfl rfl ?_
    refine v_iconst (pc := 27) (v := 2) g dX5_undo_27 (by decide) ?_
    refine v_ialdN (pc := 28) _ g dX5_undo_28 rfl rfl (Nat.le_of_ble_eq_true rfl) (Nat.le_of_ble_eq_true rfl) ?_
    rw [row_N]
    exact v_iret (pc := 29) g hret dX5_undo_29 (⟨so_i (by unfold r_32; rw [if_neg c4]), by unfold s_32 f_32; rw [if_neg c4, if_neg c4]⟩)
  · refine v_aload_n (pc := 7) 0 g dX5_undo_7 rfl rfl ?_
    refine v_ldc (pc := 8) g dX5_undo_8 co_X5_166 ?_
    refine v_cVd (pc := 10) g dX5_undo_10 lk_X5_81 (c_X5_finds _ 3 (-1000000004) (by decide) (by decide)) (Nat.le_of_ble_eq_true rfl) rfl rfl rfl rfl (Nat.le_of_ble_eq_true rfl) ?_
    exact v_iret (pc := 13) g hret dX5_undo_13 (⟨so_i (by unfold r_32; rw [if_pos c4]), by unfold s_32 f_32; rw [if_pos c4, if_pos c4]⟩)
set_option maxRecDepth 20000 in
set_option maxHeartbeats 2000000 in
theorem c_X5_tear (r : Nat → Int32) {fo : Nat → Int32} {of : Int32} {tr : Nat → Int32} {b1 : Nat → Int32} {ta : Nat → Int32} {tm : Nat} {so : Int32} {be : Int32} {te : Int32} {wo : Int64} {va : Int32} {gd : Int32} {bi : Nat → Int32} {si : Nat → Int32} {sh : Nat → Int64} {le : Nat → Int64} {im : Nat → Int32} {bf : Nat → Int32} {kp : Int32} : RunD 0 yX5_tear cX5_tear 2 (some .int) [.ref 0] (mW r fo of tr b1 ta tm so be te wo va gd bi si sh le im bf kp) (some (.int (r_33 kp))) (mW r fo of tr b1 ta tm so be te wo va gd bi si sh le im bf 0) := by
  refine Runs.of (by decide) (Nat.le_of_ble_eq_true rfl) rfl ?_
  intro X g hret hnL
  refine v_aload_n (pc := 0) 0 g dX5_tear_0 rfl rfl ?_
  refine v_get (pc := 1) g dX5_tear_1 fl_X5_282 rfl rfl ?_
  refine v_if_eq (pc := 4) 11 g dX5_tear_4 rfl (fun c4 => ?_) (fun c4 => ?_)
  · refine v_iconst (pc := 11) (v := 0) g dX5_tear_11 (by decide) ?_
    refine v_istore_n (pc := 12) 1 _ g dX5_tear_12 rfl (Nat.le_of_ble_eq_true rfl) hnL.symm rfl ?_
    refine v_aload_n (pc := 13) 0 g dX5_tear_13 rfl rfl ?_
    refine v_iconst (pc := 14) (v := 0) g dX5_tear_14 (by decide) ?_
    refine v_put (pc := 15) _ g dX5_tear_15 fp_X5_282 rfl (Nat.le_of_ble_eq_true rfl) rfl rfl rfl rfl ?_
    refine v_iload_n (pc := 18) 1 g dX5_tear_18 rfl rfl ?_
    exact v_iret (pc := 19) g hret dX5_tear_19 (⟨so_i (by unfold r_33; first | rw [if_pos c4] | rw [if_neg c4]), rfl⟩)
  · refine v_iconst (pc := 7) (v := 1) g dX5_tear_7 (by decide) ?_
    refine v_goto (pc := 8) 12 g dX5_tear_8 rfl ?_
    refine v_istore_n (pc := 12) 1 _ g dX5_tear_12 rfl (Nat.le_of_ble_eq_true rfl) hnL.symm rfl ?_
    refine v_aload_n (pc := 13) 0 g dX5_tear_13 rfl rfl ?_
    refine v_iconst (pc := 14) (v := 0) g dX5_tear_14 (by decide) ?_
    refine v_put (pc := 15) _ g dX5_tear_15 fp_X5_282 rfl (Nat.le_of_ble_eq_true rfl) rfl rfl rfl rfl ?_
    refine v_iload_n (pc := 18) 1 g dX5_tear_18 rfl rfl ?_
    exact v_iret (pc := 19) g hret dX5_tear_19 (⟨so_i (by unfold r_33; first | rw [if_pos c4] | rw [if_neg c4]), rfl⟩)
set_option maxRecDepth 20000 in
set_option maxHeartbeats 2000000 in
theorem c_X5_wipe (r : Nat → Int32) {fo : Nat → Int32} {of : Int32} {tr : Nat → Int32} {b1 : Nat → Int32} {ta : Nat → Int32} {tm : Nat} {so : Int32} {be : Int32} {te : Int32} {wo : Int64} {va : Int32} {gd : Int32} {bi : Nat → Int32} {si : Nat → Int32} {sh : Nat → Int64} {le : Nat → Int64} {im : Nat → Int32} {bf : Nat → Int32} {kp : Int32} : RunD 0 yX5_wipe cX5_wipe 2 (some .int) [.ref 0] (mW r fo of tr b1 ta tm so be te wo va gd bi si sh le im bf kp) (some (.int (nI tm))) (mW r fo of tr b1 ta 0 so be te wo va gd bi si sh le im bf kp) := by
  refine Runs.of (by decide) (Nat.le_of_ble_eq_true rfl) rfl ?_
  intro X g hret hnL
  refine v_aload_n (pc := 0) 0 g dX5_wipe_0 rfl rfl ?_
  refine v_get (pc := 1) g dX5_wipe_1 fl_X5_170 rfl rfl ?_
  refine v_istore_n (pc := 4) 1 _ g dX5_wipe_4 rfl (Nat.le_of_ble_eq_true rfl) hnL.symm rfl ?_
  refine v_aload_n (pc := 5) 0 g dX5_wipe_5 rfl rfl ?_
  refine v_iconst (pc := 6) (v := 0) g dX5_wipe_6 (by decide) ?_
  refine v_put (pc := 7) _ g dX5_wipe_7 fp_X5_170 rfl (Nat.le_of_ble_eq_true rfl) rfl rfl rfl rfl ?_
  refine v_iload_n (pc := 10) 1 g dX5_wipe_10 rfl rfl ?_
  exact v_iret (pc := 11) g hret dX5_wipe_11 (⟨rfl, rfl⟩)
set_option maxRecDepth 20000 in
set_option maxHeartbeats 2000000 in
theorem c_X5_count (S : St) {fo : Nat → Int32} {of : Int32} {tr : Nat → Int32} {b1 : Nat → Int32} {ta : Nat → Int32} {tm : Nat} {so : Int32} {be : Int32} {te : Int32} {wo : Int64} {va : Int32} {gd : Int32} {bi : Nat → Int32} {si : Nat → Int32} {sh : Nat → Int64} {le : Nat → Int64} {im : Nat → Int32} {bf : Nat → Int32} {kp : Int32} (w : Int32) (hI : Inv S) : RunD 2 yX5_count cX5_count 2 (some .int) [.ref 0, .int w] (mW (rowOf S) fo of tr b1 ta tm so be te wo va gd bi si sh le im bf kp) (some (.int (r_34 S tm w))) (mW (rowOf S) (fdI (inR w 0 3) fo 0) of tr b1 ta tm so be te wo va gd bi si sh le im bf kp) := by
  refine Runs.of (by decide) (Nat.le_of_ble_eq_true rfl) rfl ?_
  intro X g hret hnL
  refine v_iload_n (pc := 0) 1 g dX5_count_0 rfl rfl ?_
  refine v_top (fun x1 e1 => ?_)
  by_cases t1_0 : x1.toInt = 0
  · refine v_tin (pc := 1) 0 32 g dX5_count_1 t1_0 (by decide) (by decide) rfl rfl ?_
    rw [e1] at t1_0
    refine v_aload_n (pc := 32) 0 g dX5_count_32 rfl rfl ?_
    refine v_get (pc := 33) g dX5_count_33 fl_X5_7 rfl rfl ?_
    refine v_iconst (pc := 36) (v := 2) g dX5_count_36 (by decide) ?_
    refine v_ialdN (pc := 37) _ g dX5_count_37 rfl rfl (Nat.le_of_ble_eq_true rfl) (Nat.le_of_ble_eq_true rfl) ?_
    exact v_iret (pc := 38) g hret dX5_count_38 (⟨so_i (by unfold r_34; simp only [*, reduceIte, Int.reduceEq]; try rfl), by unfold fdI; first | rw [if_pos (by omega)] | rw [if_neg (by omega)]⟩)
  by_cases t1_1 : x1.toInt = 1
  · refine v_tin (pc := 1) 1 39 g dX5_count_1 t1_1 (by decide) (by decide) rfl rfl ?_
    rw [e1] at t1_1
    refine v_aload_n (pc := 39) 0 g dX5_count_39 rfl rfl ?_
    refine v_get (pc := 40) g dX5_count_40 fl_X5_170 rfl rfl ?_
    exact v_iret (pc := 43) g hret dX5_count_43 (⟨so_i (by unfold r_34; simp only [*, reduceIte, Int.reduceEq]; try rfl), by unfold fdI; first | rw [if_pos (by omega)] | rw [if_neg (by omega)]⟩)
  by_cases t1_2 : x1.toInt = 2
  · refine v_tin (pc := 1) 2 44 g dX5_count_1 t1_2 (by decide) (by decide) rfl rfl ?_
    rw [e1] at t1_2
    refine v_aload_n (pc := 44) 0 g dX5_count_44 rfl rfl ?_
    refine v_cVd (pc := 45) g dX5_count_45 lk_X5_60 (c_X5_lampsMany S) (Nat.le_of_ble_eq_true rfl) rfl rfl rfl rfl (Nat.le_of_ble_eq_true rfl) ?_
    exact v_iret (pc := 48) g hret dX5_count_48 (⟨so_i (by unfold r_34; simp only [*, reduceIte, Int.reduceEq]; try rfl), by unfold fdI; first | rw [if_pos (by omega)] | rw [if_neg (by omega)]⟩)
  by_cases t1_3 : x1.toInt = 3
  · refine v_tin (pc := 1) 3 49 g dX5_count_1 t1_3 (by decide) (by decide) rfl rfl ?_
    rw [e1] at t1_3
    refine v_aload_n (pc := 49) 0 g dX5_count_49 rfl rfl ?_
    refine v_iconst (pc := 50) (v := 5) g dX5_count_50 (by decide) ?_
    refine v_cVd (pc := 51) g dX5_count_51 lk_X5_93 (c_su_Go S hI) (Nat.le_of_ble_eq_true rfl) rfl rfl rfl rfl (Nat.le_of_ble_eq_true rfl) ?_
    exact v_iret (pc := 54) g hret dX5_count_54 (⟨so_i (by unfold r_34; simp only [*, reduceIte, Int.reduceEq]; try rfl), by unfold fdI; first | rw [if_pos (by omega)] | rw [if_neg (by omega)]⟩)
  refine v_tout (pc := 1) 55 g dX5_count_1 (by omega) rfl ?_
  rw [e1] at t1_0
  rw [e1] at t1_1
  rw [e1] at t1_2
  rw [e1] at t1_3
  refine v_aload_n (pc := 55) 0 g dX5_count_55 rfl rfl ?_
  refine v_ldc (pc := 56) g dX5_count_56 co_X5_44 ?_
  refine v_cVd (pc := 58) g dX5_count_58 lk_X5_81 (c_X5_finds _ 0 (-1000000001) (by decide) (by decide)) (Nat.le_of_ble_eq_true rfl) rfl rfl rfl rfl (Nat.le_of_ble_eq_true rfl) ?_
  exact v_iret (pc := 61) g hret dX5_count_61 (⟨so_i (by unfold r_34; simp only [*, reduceIte, Int.reduceEq]; try rfl), by unfold fdI; first | rw [if_pos (by omega)] | rw [if_neg (by omega)]⟩)
set_option maxRecDepth 20000 in
set_option maxHeartbeats 2000000 in
theorem c_X5_status (r : Nat → Int32) {fo : Nat → Int32} {of : Int32} {tr : Nat → Int32} {b1 : Nat → Int32} {ta : Nat → Int32} {tm : Nat} {so : Int32} {be : Int32} {te : Int32} {wo : Int64} {va : Int32} {gd : Int32} {bi : Nat → Int32} {si : Nat → Int32} {sh : Nat → Int64} {le : Nat → Int64} {im : Nat → Int32} {bf : Nat → Int32} {kp : Int32} (w : Int32) : RunD 1 yX5_status cX5_status 4 (some .int) [.ref 0, .int w] (mW r fo of tr b1 ta tm so be te wo va gd bi si sh le im bf kp) (some (.int (r_35 fo w))) (mW r (fdI (inR w (-1) 6) fo 0) of tr b1 ta tm so be te wo va gd bi si sh le im bf kp) := by
  refine Runs.of (by decide) (Nat.le_of_ble_eq_true rfl) rfl ?_
  intro X g hret hnL
  refine v_iload_n (pc := 0) 1 g dX5_status_0 rfl rfl ?_
  refine v_iconst (pc := 1) (v := (-1)) g dX5_status_1 (by decide) ?_
  refine v_bipush (pc := 2) (v := 6) g dX5_status_2 (by decide) ?_
  refine v_cSd (pc := 4) g dX5_status_4 lk_X5_45 ((c_X5_in _ _ _ (-1) 6 rfl rfl).any rfl rfl _) (Nat.le_of_ble_eq_true rfl) rfl rfl (Nat.le_of_ble_eq_true rfl) ?_
  refine v_ifb_ne (pc := 7) 17 g dX5_status_7 rfl (fun c7 => ?_) (fun c7 => ?_)
  · refine v_iconst (pc := 17) (v := 0) g dX5_status_17 (by decide) ?_
    refine v_istore_n (pc := 18) 2 _ g dX5_status_18 rfl (Nat.le_of_ble_eq_true rfl) hnL.symm rfl ?_
    refine v_iconst (pc := 19) (v := 0) g dX5_status_19 (by decide) ?_
    refine v_istore_n (pc := 20) 3 _ g dX5_status_20 rfl (Nat.le_of_ble_eq_true rfl) hnL.symm rfl ?_
    have L21 : ∀ (fu : Nat) (k : Nat), k ≤ 7 → 7 - k < fu → V X 21 [some (.ref 0), some (.int w), some (.int (sumN fo k)), some (.int (nI k))] [] (mW r fo of tr b1 ta tm so be te wo va gd bi si sh le im bf kp) := by
      intro fu
      induction fu with
      | zero => intro k hk hm; exact absurd hm (Nat.not_lt_zero _)
      | succ fu ih =>
        intro k hk hm
        refine v_iload_n (pc := 21) 3 g dX5_status_21 rfl rfl ?_
        refine v_bipush (pc := 22) (v := 7) g dX5_status_22 (by decide) ?_
        refine v_icmp_ge (pc := 24) 42 g dX5_status_24 rfl (fun c24 => ?_) (fun c24 => ?_)
        · have e24 : k = 7 := ge_t (n := 7) rfl hk (by omega) c24
          subst e24
          refine v_iload_n (pc := 42) 1 g dX5_status_42 rfl rfl ?_
          refine v_if_ge (pc := 43) 50 g dX5_status_43 rfl (fun c43 => ?_) (fun c43 => ?_)
          · have h0 : 0 ≤ w.toInt := i_le.mp c43
            refine v_aload_n (pc := 50) 0 g dX5_status_50 rfl rfl ?_
            refine v_get (pc := 51) g dX5_status_51 fl_X5_13 rfl rfl ?_
            refine v_iload_n (pc := 54) 1 g dX5_status_54 rfl rfl ?_
            refine v_if_ge (pc := 55) 62 g dX5_status_55 rfl (fun c55 => ?_) (fun c55 => ?_)
            · refine v_iload_n (pc := 62) 1 g dX5_status_62 rfl rfl ?_
              obtain ⟨i, hi, rfl⟩ := (show inR w 0 ((6 : Nat) : Int) from ⟨h0, c7.2⟩).nat (by omega)
              have ei : (nI i).toNatClampNeg = i := nI_clamp (by omega)
              refine v_ialdN (pc := 63) _ g dX5_status_63 rfl rfl (by omega) (Nat.le_of_ble_eq_true rfl) ?_
              exact v_iret (pc := 64) g hret dX5_status_64 (by first | exact ⟨so_i (by unfold r_35; rw [if_pos c7, if_neg (by omega), ei]), by unfold fdI; rw [if_pos c7]⟩ | exact ⟨so_i (by unfold r_35; rw [if_pos c7, if_pos h0]), by unfold fdI; rw [if_pos c7]⟩)
            · exact absurd c43 c55
          · have h0 : w.toInt < 0 := i_lt.mp (Int32.not_le.mp c43)
            refine v_iload_n (pc := 46) 2 g dX5_status_46 rfl rfl ?_
            refine v_goto (pc := 47) 64 g dX5_status_47 rfl ?_
            exact v_iret (pc := 64) g hret dX5_status_64 (by first | exact ⟨so_i (by unfold r_35; rw [if_pos c7, if_neg (by omega), ei]), by unfold fdI; rw [if_pos c7]⟩ | exact ⟨so_i (by unfold r_35; rw [if_pos c7, if_pos h0]), by unfold fdI; rw [if_pos c7]⟩)
        · have e24 : k < 7 := ge_f (n := 7) rfl hk (by omega) c24
          refine v_iload_n (pc := 27) 2 g dX5_status_27 rfl rfl ?_
          refine v_aload_n (pc := 28) 0 g dX5_status_28 rfl rfl ?_
          refine v_get (pc := 29) g dX5_status_29 fl_X5_13 rfl rfl ?_
          refine v_iload_n (pc := 32) 3 g dX5_status_32 rfl rfl ?_
          refine v_ialdN (pc := 33) _ g dX5_status_33 rfl rfl (by omega) (Nat.le_of_ble_eq_true rfl) ?_
          refine v_iadd (pc := 34) g dX5_status_34 ?_
          refine v_istore_n (pc := 35) 2 _ g dX5_status_35 rfl (Nat.le_of_ble_eq_true rfl) hnL.symm rfl ?_
          refine v_iincN (pc := 36) g dX5_status_36 rfl hnL.symm ?_
          refine v_goto (pc := 39) 21 g dX5_status_39 rfl ?_
          exact ih (k + 1) (by omega) (by omega)
    exact L21 8 0 (Nat.zero_le _) (by omega)
  · refine v_aload_n (pc := 10) 0 g dX5_status_10 rfl rfl ?_
    refine v_ldc (pc := 11) g dX5_status_11 co_X5_44 ?_
    refine v_cVd (pc := 13) g dX5_status_13 lk_X5_81 (c_X5_finds _ 0 (-1000000001) (by decide) (by decide)) (Nat.le_of_ble_eq_true rfl) rfl rfl rfl rfl (Nat.le_of_ble_eq_true rfl) ?_
    exact v_iret (pc := 16) g hret dX5_status_16 (⟨so_i (by unfold r_35; rw [if_neg c7]), by unfold fdI; rw [if_neg c7]⟩)
set_option maxRecDepth 20000 in
set_option maxHeartbeats 2000000 in
theorem c_X5_on (S : St) {fo : Nat → Int32} {of : Int32} {tr : Nat → Int32} {b1 : Nat → Int32} {ta : Nat → Int32} {tm : Nat} {so : Int32} {be : Int32} {te : Int32} {wo : Int64} {va : Int32} {gd : Int32} {bi : Nat → Int32} {si : Nat → Int32} {sh : Nat → Int64} {le : Nat → Int64} {im : Nat → Int32} {bf : Nat → Int32} {kp : Int32} (p n w : Int32) (hI : Inv S) : Runs 8 yX5_on cX5_on 4 (some .int) [.ref 0, .int p, .int n, .int w] (mW (rowOf S) fo of tr b1 ta tm so be te wo va gd bi si sh le im bf kp) (fun r0 w0 => ∃ o1 t1, r0 = some (.int (r_10 S p n w)) ∧ w0 = mW (rowOf S) (fdI (C10 S p n w) fo 0) o1 t1 b1 ta tm so be te wo va gd bi si sh le im bf kp) := by
  refine Runs.of (by decide) (Nat.le_of_ble_eq_true rfl) rfl ?_
  intro X g hret hnL
  refine v_aload_n (pc := 0) 0 g dX5_on_0 rfl rfl ?_
  refine v_iload_n (pc := 1) 1 g dX5_on_1 rfl rfl ?_
  refine v_cVd (pc := 2) g dX5_on_2 lk_X5_111 (c_X5_isOne S _ hI.n) (Nat.le_of_ble_eq_true rfl) rfl rfl rfl rfl (Nat.le_of_ble_eq_true rfl) ?_
  refine v_ifb_eq (pc := 5) 28 g dX5_on_5 rfl (fun c5 => ?_) (fun c5 => ?_)
  · refine v_aload_n (pc := 28) 0 g dX5_on_28 rfl rfl ?_
    refine v_ldc (pc := 29) g dX5_on_29 co_X5_44 ?_
    refine v_cVd (pc := 31) g dX5_on_31 lk_X5_81 (c_X5_finds _ 0 (-1000000001) (by decide) (by decide)) (Nat.le_of_ble_eq_true rfl) rfl rfl rfl rfl (Nat.le_of_ble_eq_true rfl) ?_
    exact v_iret (pc := 34) g hret dX5_on_34 (⟨_, _, so_i (by unfold r_10; rw [if_neg (by omega)]), by unfold fdI; rw [if_neg (by omega)]⟩)
  · refine v_iload_n (pc := 8) 2 g dX5_on_8 rfl rfl ?_
    refine v_iconst (pc := 9) (v := 0) g dX5_on_9 (by decide) ?_
    refine v_sipush (pc := 10) (v := 200) g dX5_on_10 (by decide) ?_
    refine v_cSd (pc := 13) g dX5_on_13 lk_X5_45 ((c_X5_in _ _ _ 0 200 rfl rfl).any rfl rfl _) (Nat.le_of_ble_eq_true rfl) rfl rfl (Nat.le_of_ble_eq_true rfl) ?_
    refine v_ifb_eq (pc := 16) 28 g dX5_on_16 rfl (fun c16 => ?_) (fun c16 => ?_)
    · refine v_aload_n (pc := 28) 0 g dX5_on_28 rfl rfl ?_
      refine v_ldc (pc := 29) g dX5_on_29 co_X5_44 ?_
      refine v_cVd (pc := 31) g dX5_on_31 lk_X5_81 (c_X5_finds _ 0 (-1000000001) (by decide) (by decide)) (Nat.le_of_ble_eq_true rfl) rfl rfl rfl rfl (Nat.le_of_ble_eq_true rfl) ?_
      exact v_iret (pc := 34) g hret dX5_on_34 (⟨_, _, so_i (by unfold r_10; rw [if_neg (by omega)]), by unfold fdI; rw [if_neg (by omega)]⟩)
    · refine v_iload_n (pc := 19) 3 g dX5_on_19 rfl rfl ?_
      refine v_iconst (pc := 20) (v := 0) g dX5_on_20 (by decide) ?_
      refine v_iconst (pc := 21) (v := 2) g dX5_on_21 (by decide) ?_
      refine v_cSd (pc := 22) g dX5_on_22 lk_X5_45 ((c_X5_in _ _ _ 0 2 rfl rfl).any rfl rfl _) (Nat.le_of_ble_eq_true rfl) rfl rfl (Nat.le_of_ble_eq_true rfl) ?_
      refine v_ifb_ne (pc := 25) 35 g dX5_on_25 rfl (fun c25 => ?_) (fun c25 => ?_)
      · have hC : C10 S p n w := ⟨c5, c16, c25⟩
        obtain ⟨i, hi, rfl⟩ := (show isP S p from c5).nat hI.n
        have ei : (nI i).toNatClampNeg = i := nI_clamp (by have := hI.n; omega)
        obtain ⟨m, hm, rfl⟩ := c16.nat (m := 200) (by omega)
        have em : (nI m).toNatClampNeg = m := nI_clamp (by omega)
        obtain ⟨k, hk, rfl⟩ := c25.nat (m := 2) (by omega)
        refine v_aload_n (pc := 35) 0 g dX5_on_35 rfl rfl ?_
        refine v_iconst (pc := 36) (v := 1) g dX5_on_36 (by decide) ?_
        refine v_aload_n (pc := 37) 0 g dX5_on_37 rfl rfl ?_
        refine v_get (pc := 38) g dX5_on_38 fl_X5_16 rfl rfl ?_
        refine v_cVd (pc := 41) g dX5_on_41 lk_X5_156 (c_mvK_tr (rowOf S)) (Nat.le_of_ble_eq_true rfl) rfl rfl rfl rfl (Nat.le_of_ble_eq_true rfl) ?_
        refine v_aload_n (pc := 44) 0 g dX5_on_44 rfl rfl ?_
        refine v_iload_n (pc := 45) 2 g dX5_on_45 rfl rfl ?_
        refine v_bipush (pc := 46) (v := 39) g dX5_on_46 (by decide) ?_
        refine v_bipush (pc := 48) (v := 6) g dX5_on_48 (by decide) ?_
        refine v_iload_n (pc := 50) 1 g dX5_on_50 rfl rfl ?_
        refine v_imul (pc := 51) g dX5_on_51 ?_
        refine v_iadd (pc := 52) g dX5_on_52 ?_
        refine v_iconst (pc := 53) (v := 3) g dX5_on_53 (by decide) ?_
        refine v_iadd (pc := 54) g dX5_on_54 ?_
        refine v_iload_n (pc := 55) 3 g dX5_on_55 rfl rfl ?_
        refine v_iadd (pc := 56) g dX5_on_56 ?_
        rw [show (39 : Int32) + 6 * nI i + 3 + nI k = nI (39 + 6 * i + (3 + k)) by rw [Int32.add_assoc, show (3 : Int32) + nI k = nI (3 + k) from nI_add 3 k, ix_p]]
        refine v_cVd (pc := 57) g dX5_on_57 lk_X5_160 (c_X5_behind (tr := tr) S S m _ hI (by omega) (by have := hI.n; omega)) (Nat.le_of_ble_eq_true rfl) rfl rfl rfl rfl (Nat.le_of_ble_eq_true rfl) ?_
        exact v_iret (pc := 60) g hret dX5_on_60 (⟨_, _, so_i (by unfold r_10; rw [if_pos hC, ei, em, row_p _ _ (by omega), nI_toInt (by omega)]; rcases (show k = 0 ∨ k = 1 ∨ k = 2 by omega) with rfl | rfl | rfl <;> rfl), by unfold fdI; rw [if_pos hC]⟩)
      · refine v_aload_n (pc := 28) 0 g dX5_on_28 rfl rfl ?_
        refine v_ldc (pc := 29) g dX5_on_29 co_X5_44 ?_
        refine v_cVd (pc := 31) g dX5_on_31 lk_X5_81 (c_X5_finds _ 0 (-1000000001) (by decide) (by decide)) (Nat.le_of_ble_eq_true rfl) rfl rfl rfl rfl (Nat.le_of_ble_eq_true rfl) ?_
        exact v_iret (pc := 34) g hret dX5_on_34 (⟨_, _, so_i (by unfold r_10; rw [if_neg (by omega)]), by unfold fdI; rw [if_neg (by omega)]⟩)
set_option maxRecDepth 20000 in
set_option maxHeartbeats 2000000 in
theorem c_X5_then (S : St) {fo : Nat → Int32} {of : Int32} {tr : Nat → Int32} {b1 : Nat → Int32} {ta : Nat → Int32} {tm : Nat} {so : Int32} {be : Int32} {te : Int32} {wo : Int64} {va : Int32} {gd : Int32} {bi : Nat → Int32} {si : Nat → Int32} {sh : Nat → Int64} {le : Nat → Int64} {im : Nat → Int32} {bf : Nat → Int32} {kp : Int32} (h n w : Int32) (hI : Inv S) : Runs 8 yX5_then cX5_then 4 (some .int) [.ref 0, .int h, .int n, .int w] (mW (rowOf S) fo of tr b1 ta tm so be te wo va gd bi si sh le im bf kp) (fun r0 w0 => ∃ o1 t1, r0 = some (.int (r_11 S h n w)) ∧ w0 = mW (rowOf S) (fdI (C11 h n w) fo 0) o1 t1 b1 ta tm so be te wo va gd bi si sh le im bf kp) := by
  refine Runs.of (by decide) (Nat.le_of_ble_eq_true rfl) rfl ?_
  intro X g hret hnL
  refine v_iload_n (pc := 0) 1 g dX5_then_0 rfl rfl ?_
  refine v_cSd (pc := 1) g dX5_then_1 lk_X5_72 ((c_X5_isHouse _).any rfl rfl _) (Nat.le_of_ble_eq_true rfl) rfl rfl (Nat.le_of_ble_eq_true rfl) ?_
  refine v_ifb_eq (pc := 4) 27 g dX5_then_4 rfl (fun c4 => ?_) (fun c4 => ?_)
  · refine v_aload_n (pc := 27) 0 g dX5_then_27 rfl rfl ?_
    refine v_ldc (pc := 28) g dX5_then_28 co_X5_44 ?_
    refine v_cVd (pc := 30) g dX5_then_30 lk_X5_81 (c_X5_finds _ 0 (-1000000001) (by decide) (by decide)) (Nat.le_of_ble_eq_true rfl) rfl rfl rfl rfl (Nat.le_of_ble_eq_true rfl) ?_
    exact v_iret (pc := 33) g hret dX5_then_33 (⟨_, _, so_i (by unfold r_11; rw [if_neg (by omega)]), by unfold fdI; rw [if_neg (by omega)]⟩)
  · refine v_iload_n (pc := 7) 2 g dX5_then_7 rfl rfl ?_
    refine v_iconst (pc := 8) (v := 0) g dX5_then_8 (by decide) ?_
    refine v_sipush (pc := 9) (v := 200) g dX5_then_9 (by decide) ?_
    refine v_cSd (pc := 12) g dX5_then_12 lk_X5_45 ((c_X5_in _ _ _ 0 200 rfl rfl).any rfl rfl _) (Nat.le_of_ble_eq_true rfl) rfl rfl (Nat.le_of_ble_eq_true rfl) ?_
    refine v_ifb_eq (pc := 15) 27 g dX5_then_15 rfl (fun c15 => ?_) (fun c15 => ?_)
    · refine v_aload_n (pc := 27) 0 g dX5_then_27 rfl rfl ?_
      refine v_ldc (pc := 28) g dX5_then_28 co_X5_44 ?_
      refine v_cVd (pc := 30) g dX5_then_30 lk_X5_81 (c_X5_finds _ 0 (-1000000001) (by decide) (by decide)) (Nat.le_of_ble_eq_true rfl) rfl rfl rfl rfl (Nat.le_of_ble_eq_true rfl) ?_
      exact v_iret (pc := 33) g hret dX5_then_33 (⟨_, _, so_i (by unfold r_11; rw [if_neg (by omega)]), by unfold fdI; rw [if_neg (by omega)]⟩)
    · refine v_iload_n (pc := 18) 3 g dX5_then_18 rfl rfl ?_
      refine v_iconst (pc := 19) (v := 0) g dX5_then_19 (by decide) ?_
      refine v_iconst (pc := 20) (v := 1) g dX5_then_20 (by decide) ?_
      refine v_cSd (pc := 21) g dX5_then_21 lk_X5_45 ((c_X5_in _ _ _ 0 1 rfl rfl).any rfl rfl _) (Nat.le_of_ble_eq_true rfl) rfl rfl (Nat.le_of_ble_eq_true rfl) ?_
      refine v_ifb_ne (pc := 24) 34 g dX5_then_24 rfl (fun c24 => ?_) (fun c24 => ?_)
      · have hC : C11 h n w := ⟨c4, c15, c24⟩
        obtain ⟨i, hi, rfl⟩ := c4.nat (m := 11) (by omega)
        have ei : (nI i).toNatClampNeg = i := nI_clamp (by omega)
        obtain ⟨m, hm, rfl⟩ := c15.nat (m := 200) (by omega)
        have em : (nI m).toNatClampNeg = m := nI_clamp (by omega)
        refine v_aload_n (pc := 34) 0 g dX5_then_34 rfl rfl ?_
        refine v_iconst (pc := 35) (v := 1) g dX5_then_35 (by decide) ?_
        refine v_aload_n (pc := 36) 0 g dX5_then_36 rfl rfl ?_
        refine v_get (pc := 37) g dX5_then_37 fl_X5_16 rfl rfl ?_
        refine v_cVd (pc := 40) g dX5_then_40 lk_X5_156 (c_mvK_tr (rowOf S)) (Nat.le_of_ble_eq_true rfl) rfl rfl rfl rfl (Nat.le_of_ble_eq_true rfl) ?_
        refine v_aload_n (pc := 43) 0 g dX5_then_43 rfl rfl ?_
        refine v_iload_n (pc := 44) 2 g dX5_then_44 rfl rfl ?_
        refine v_iconst (pc := 45) (v := 3) g dX5_then_45 (by decide) ?_
        refine v_iconst (pc := 46) (v := 3) g dX5_then_46 (by decide) ?_
        refine v_iload_n (pc := 47) 1 g dX5_then_47 rfl rfl ?_
        refine v_imul (pc := 48) g dX5_then_48 ?_
        refine v_iadd (pc := 49) g dX5_then_49 ?_
        refine v_iload_n (pc := 50) 3 g dX5_then_50 rfl rfl ?_
        refine v_if_ne (pc := 51) 58 g dX5_then_51 rfl (fun c51 => ?_) (fun c51 => ?_)
        · have hw : ¬ w.toInt = 0 := fun z => c51 (by rw [i_eq]; exact z)
          refine v_iconst (pc := 58) (v := 2) g dX5_then_58 (by decide) ?_
          refine v_iadd (pc := 59) g dX5_then_59 ?_
          first | rw [show (3 : Int32) + 3 * nI i + 0 = nI (3 + 3 * i + 0) from ix_h i 0] | rw [show (3 : Int32) + 3 * nI i + 2 = nI (3 + 3 * i + 2) from ix_h i 2]
          refine v_cVd (pc := 60) g dX5_then_60 lk_X5_160 (c_X5_behind (tr := tr) S S m _ hI (by omega) (by omega)) (Nat.le_of_ble_eq_true rfl) rfl rfl rfl rfl (Nat.le_of_ble_eq_true rfl) ?_
          exact v_iret (pc := 63) g hret dX5_then_63 (⟨_, _, so_i (by unfold r_11; rw [if_pos hC, ei, em, row_h _ (by omega) (by omega)]; first | (rw [if_pos hw]; rfl) | (rw [if_neg hw]; rfl)), by unfold fdI; rw [if_pos hC]⟩)
        · have hw : w.toInt = 0 := by rw [c51]; rfl
          refine v_iconst (pc := 54) (v := 0) g dX5_then_54 (by decide) ?_
          refine v_goto (pc := 55) 59 g dX5_then_55 rfl ?_
          refine v_iadd (pc := 59) g dX5_then_59 ?_
          first | rw [show (3 : Int32) + 3 * nI i + 0 = nI (3 + 3 * i + 0) from ix_h i 0] | rw [show (3 : Int32) + 3 * nI i + 2 = nI (3 + 3 * i + 2) from ix_h i 2]
          refine v_cVd (pc := 60) g dX5_then_60 lk_X5_160 (c_X5_behind (tr := tr) S S m _ hI (by omega) (by omega)) (Nat.le_of_ble_eq_true rfl) rfl rfl rfl rfl (Nat.le_of_ble_eq_true rfl) ?_
          exact v_iret (pc := 63) g hret dX5_then_63 (⟨_, _, so_i (by unfold r_11; rw [if_pos hC, ei, em, row_h _ (by omega) (by omega)]; first | (rw [if_pos hw]; rfl) | (rw [if_neg hw]; rfl)), by unfold fdI; rw [if_pos hC]⟩)
      · refine v_aload_n (pc := 27) 0 g dX5_then_27 rfl rfl ?_
        refine v_ldc (pc := 28) g dX5_then_28 co_X5_44 ?_
        refine v_cVd (pc := 30) g dX5_then_30 lk_X5_81 (c_X5_finds _ 0 (-1000000001) (by decide) (by decide)) (Nat.le_of_ble_eq_true rfl) rfl rfl rfl rfl (Nat.le_of_ble_eq_true rfl) ?_
        exact v_iret (pc := 33) g hret dX5_then_33 (⟨_, _, so_i (by unfold r_11; rw [if_neg (by omega)]), by unfold fdI; rw [if_neg (by omega)]⟩)
