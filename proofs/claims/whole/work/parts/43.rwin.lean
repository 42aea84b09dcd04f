/-! ===== the reference: an item, a winter ===== -/
theorem upd_sf (f : Nat → Int32) (k : Nat) : upd f k (f k) = f := by
  funext j
  unfold upd
  split
  · next h => rw [h]
  · rfl
set_option maxRecDepth 20000 in
set_option maxHeartbeats 2000000 in
theorem c_X5_wantItem (S : St) {fo : Nat → Int32} {of : Int32} {tr : Nat → Int32} {b1 : Nat → Int32} {ta : Nat → Int32} {tm : Nat} {bi : Nat → Int32} {si : Nat → Int32} {sh : Nat → Int64} {le : Nat → Int64} {im : Nat → Int32} {bf : Nat → Int32} {kp : Int32} (b : Nat) (hR : tpR ta) (hl : tm ≤ 120) (hb : b ≤ tm) (h8 : sN S ≤ 8) : RunD 6 yX5_wantItem cX5_wantItem 2 none [.ref 0] (mW (rowOf S) fo of tr b1 ta tm (nI (soT ta tm b)) (nI b) (nI (enT ta tm b)) (woT ta tm b) (vaT ta tm b) 1 bi si sh le im bf kp) (none) (mW (rowOf ((it1 ta tm S b).1.getD S)) fo of tr b1 ta tm (nI (soT ta tm ((it1 ta tm S b).2))) (nI ((it1 ta tm S b).2)) (nI (enT ta tm ((it1 ta tm S b).2))) (woT ta tm ((it1 ta tm S b).2)) (vaT ta tm ((it1 ta tm S b).2)) (bI ((it1 ta tm S b).1.isSome = true)) bi si sh le im bf kp) := by
  refine Runs.of (by decide) (Nat.le_of_ble_eq_true rfl) rfl ?_
  intro X g hret hnL
  have hn0 := en_rng hR hb
  have hn1 := nx_rng hR hb
  have he1 := en_rng hR hn1.2.1
  have hn2 := nx_rng hR hn1.2.1
  have he2 := en_rng hR hn2.2.1
  refine v_aload_n (pc := 0) 0 g dX5_wantItem_0 rfl rfl ?_
  refine v_cVd (pc := 1) g dX5_wantItem_1 lk_X5_240 (c_X5_kindHere (rowOf S) b hR hb) (Nat.le_of_ble_eq_true rfl) rfl rfl rfl rfl (Nat.le_of_ble_eq_true rfl) ?_
  refine v_if_lt (pc := 4) 18 g dX5_wantItem_4 rfl (fun c4 => ?_) (fun c4 => ?_)
  · have ek := kd_none c4
    have hI0 : it1 ta tm S b = ot1 ta tm S b := by unfold it1; rw [ek]; rfl
    refine v_aload_n (pc := 18) 0 g dX5_wantItem_18 rfl rfl ?_
    refine v_ldc2 (pc := 19) g dX5_wantItem_19 co_X5_246 ?_
    refine v_cVd (pc := 22) g dX5_wantItem_22 lk_X5_206 (c_iw (rowOf S) b 9 _ hR hb (by decide) rfl) (Nat.le_of_ble_eq_true rfl) rfl rfl rfl rfl (Nat.le_of_ble_eq_true rfl) ?_
    refine v_ifb_eq (pc := 25) 36 g dX5_wantItem_25 rfl (fun c25 => ?_) (fun c25 => ?_)
    · refine v_aload_n (pc := 36) 0 g dX5_wantItem_36 rfl rfl ?_
      refine v_ldc2 (pc := 37) g dX5_wantItem_37 co_X5_251 ?_
      refine v_cVd (pc := 40) g dX5_wantItem_40 lk_X5_206 (c_iw (rowOf S) b 10 _ hR hb (by decide) rfl) (Nat.le_of_ble_eq_true rfl) rfl rfl rfl rfl (Nat.le_of_ble_eq_true rfl) ?_
      refine v_ifb_eq (pc := 43) 54 g dX5_wantItem_43 rfl (fun c43 => ?_) (fun c43 => ?_)
      · refine v_aload_n (pc := 54) 0 g dX5_wantItem_54 rfl rfl ?_
        refine v_ldc2 (pc := 55) g dX5_wantItem_55 co_X5_253 ?_
        refine v_cVd (pc := 58) g dX5_wantItem_58 lk_X5_206 (c_iw (rowOf S) b 12 _ hR hb (by decide) rfl) (Nat.le_of_ble_eq_true rfl) rfl rfl rfl rfl (Nat.le_of_ble_eq_true rfl) ?_
        refine v_ifb_eq (pc := 61) 71 g dX5_wantItem_61 rfl (fun c61 => ?_) (fun c61 => ?_)
        · refine v_aload_n (pc := 71) 0 g dX5_wantItem_71 rfl rfl ?_
          refine v_ldc2 (pc := 72) g dX5_wantItem_72 co_X5_258 ?_
          refine v_cVd (pc := 75) g dX5_wantItem_75 lk_X5_206 (c_iw (rowOf S) b 11 _ hR hb (by decide) rfl) (Nat.le_of_ble_eq_true rfl) rfl rfl rfl rfl (Nat.le_of_ble_eq_true rfl) ?_
          refine v_ifb_eq (pc := 78) 119 g dX5_wantItem_78 rfl (fun c78 => ?_) (fun c78 => ?_)
          · have hE : it1 ta tm S b = (none, b) := by rw [hI0]; unfold ot1; rw [if_neg c25, if_neg c43, if_neg c78, if_neg c61]
            refine v_aload_n (pc := 119) 0 g dX5_wantItem_119 rfl rfl ?_
            refine v_iconst (pc := 120) (v := 0) g dX5_wantItem_120 (by decide) ?_
            refine v_put (pc := 121) _ g dX5_wantItem_121 fp_X5_220 rfl (Nat.le_of_ble_eq_true rfl) rfl rfl rfl rfl ?_
            exact v_vret (pc := 124) g hret dX5_wantItem_124 (by first | (refine ⟨rfl, ?_⟩; rw [hE]; rfl) | (refine ⟨rfl, ?_⟩; rw [hE, hD, hG, hW]; show mW (upd (rowOf S) 1 (vaT ta tm (nxT ta tm b))) _ _ _ _ _ _ _ _ _ _ _ _ _ _ _ _ _ _ _ = _; rw [rup_Dr, num_va (by decide) c102]; rfl) | (refine ⟨rfl, ?_⟩; rw [hE, hD, hG, hW]; show mW (upd (rowOf S) 1 (rowOf S 1)) _ _ _ _ _ _ _ _ _ _ _ _ _ _ _ _ _ _ _ = _; rw [upd_sf]; rfl) | exact ⟨rfl, by rw [hE]⟩)
          · have hE : it1 ta tm S b = dr1 ta tm S b := by rw [hI0]; unfold ot1; rw [if_neg c25, if_neg c43, if_pos c78]
            refine v_aload_n (pc := 81) 0 g dX5_wantItem_81 rfl rfl ?_
            refine v_cVd (pc := 82) g dX5_wantItem_82 lk_X5_224 (c_X5_advance (rowOf S) (enT ta tm (b)) (nxT ta tm (b)) hl hn0.2.1 rfl) (Nat.le_of_ble_eq_true rfl) rfl rfl rfl rfl (Nat.le_of_ble_eq_true rfl) ?_
            refine v_aload_n (pc := 85) 0 g dX5_wantItem_85 rfl rfl ?_
            refine v_iconst (pc := 86) (v := 0) g dX5_wantItem_86 (by decide) ?_
            refine v_bipush (pc := 87) (v := 9) g dX5_wantItem_87 (by decide) ?_
            refine v_cVd (pc := 89) g dX5_wantItem_89 lk_X5_227 (c_X5_wantNumber (rowOf S) (nxT ta tm b) 9 9 hR hl hn1.2.1 rfl (by decide)) (Nat.le_of_ble_eq_true rfl) rfl rfl rfl rfl (Nat.le_of_ble_eq_true rfl) ?_
            refine v_istore_n (pc := 92) 1 _ g dX5_wantItem_92 rfl (Nat.le_of_ble_eq_true rfl) hnL.symm rfl ?_
            refine v_aload_n (pc := 93) 0 g dX5_wantItem_93 rfl rfl ?_
            refine v_get (pc := 94) g dX5_wantItem_94 fl_X5_7 rfl rfl ?_
            refine v_iconst (pc := 97) (v := 1) g dX5_wantItem_97 (by decide) ?_
            refine v_aload_n (pc := 98) 0 g dX5_wantItem_98 rfl rfl ?_
            refine v_get (pc := 99) g dX5_wantItem_99 fl_X5_220 rfl rfl ?_
            refine v_ifb_eq (pc := 102) 109 g dX5_wantItem_102 rfl (fun c102 => ?_) (fun c102 => ?_)
            · have hD : dr1 ta tm S b = (none, nxT ta tm b) := by unfold dr1; rw [if_neg c102]
              have hG : (bI (numT ta tm (nxT ta tm b) 9) : Int32) = 0 := bI_0 c102
              have hW := wnB_f c102
              refine v_aload_n (pc := 109) 0 g dX5_wantItem_109 rfl rfl ?_
              refine v_get (pc := 110) g dX5_wantItem_110 fl_X5_7 rfl rfl ?_
              refine v_iconst (pc := 113) (v := 1) g dX5_wantItem_113 (by decide) ?_
              refine v_ialdN (pc := 114) _ g dX5_wantItem_114 rfl rfl (Nat.le_of_ble_eq_true rfl) (Nat.le_of_ble_eq_true rfl) ?_
              refine v_iastN (pc := 115) _ _ g dX5_wantItem_115 rfl rfl (Nat.le_of_ble_eq_true rfl) (Nat.le_of_ble_eq_true rfl) rfl ?_
              refine v_goto (pc := 116) 124 g dX5_wantItem_116 rfl ?_
              exact v_vret (pc := 124) g hret dX5_wantItem_124 (by first | (refine ⟨rfl, ?_⟩; rw [hE]; rfl) | (refine ⟨rfl, ?_⟩; rw [hE, hD, hG, hW]; show mW (upd (rowOf S) 1 (vaT ta tm (nxT ta tm b))) _ _ _ _ _ _ _ _ _ _ _ _ _ _ _ _ _ _ _ = _; rw [rup_Dr, num_va (by decide) c102]; rfl) | (refine ⟨rfl, ?_⟩; rw [hE, hD, hG, hW]; show mW (upd (rowOf S) 1 (rowOf S 1)) _ _ _ _ _ _ _ _ _ _ _ _ _ _ _ _ _ _ _ = _; rw [upd_sf]; rfl) | exact ⟨rfl, by rw [hE]⟩)
            · have hD : dr1 ta tm S b = (some (pDr S (nvT ta tm (nxT ta tm b))), nxT ta tm (nxT ta tm b)) := by unfold dr1; rw [if_pos c102]
              have hG : (bI (numT ta tm (nxT ta tm b) 9) : Int32) = 1 := bI_1 c102
              have hW := wnB_t c102
              refine v_iload_n (pc := 105) 1 g dX5_wantItem_105 rfl rfl ?_
              refine v_goto (pc := 106) 115 g dX5_wantItem_106 rfl ?_
              refine v_iastN (pc := 115) _ _ g dX5_wantItem_115 rfl rfl (Nat.le_of_ble_eq_true rfl) (Nat.le_of_ble_eq_true rfl) rfl ?_
              refine v_goto (pc := 116) 124 g dX5_wantItem_116 rfl ?_
              exact v_vret (pc := 124) g hret dX5_wantItem_124 (by first | (refine ⟨rfl, ?_⟩; rw [hE]; rfl) | (refine ⟨rfl, ?_⟩; rw [hE, hD, hG, hW]; show mW (upd (rowOf S) 1 (vaT ta tm (nxT ta tm b))) _ _ _ _ _ _ _ _ _ _ _ _ _ _ _ _ _ _ _ = _; rw [rup_Dr, num_va (by decide) c102]; rfl) | (refine ⟨rfl, ?_⟩; rw [hE, hD, hG, hW]; show mW (upd (rowOf S) 1 (rowOf S 1)) _ _ _ _ _ _ _ _ _ _ _ _ _ _ _ _ _ _ _ = _; rw [upd_sf]; rfl) | exact ⟨rfl, by rw [hE]⟩)
        · have hE : it1 ta tm S b = lm1 ta tm S b := by rw [hI0]; unfold ot1; rw [if_neg c25, if_neg c43, if_neg (isW_ne (j := 11) (by decide) (by decide) (by decide) c61), if_pos c61]
          refine v_aload_n (pc := 64) 0 g dX5_wantItem_64 rfl rfl ?_
          refine v_cVd (pc := 65) g dX5_wantItem_65 lk_X5_255 (c_X5_wantLamp S b hR hl hb) (Nat.le_of_ble_eq_true rfl) rfl rfl rfl rfl (Nat.le_of_ble_eq_true rfl) ?_
          refine v_goto (pc := 68) 124 g dX5_wantItem_68 rfl ?_
          exact v_vret (pc := 124) g hret dX5_wantItem_124 (by first | (refine ⟨rfl, ?_⟩; rw [hE]; rfl) | (refine ⟨rfl, ?_⟩; rw [hE, hD, hG, hW]; show mW (upd (rowOf S) 1 (vaT ta tm (nxT ta tm b))) _ _ _ _ _ _ _ _ _ _ _ _ _ _ _ _ _ _ _ = _; rw [rup_Dr, num_va (by decide) c102]; rfl) | (refine ⟨rfl, ?_⟩; rw [hE, hD, hG, hW]; show mW (upd (rowOf S) 1 (rowOf S 1)) _ _ _ _ _ _ _ _ _ _ _ _ _ _ _ _ _ _ _ = _; rw [upd_sf]; rfl) | exact ⟨rfl, by rw [hE]⟩)
      · have hE : it1 ta tm S b = bk1 ta tm S 0 b := by rw [hI0]; unfold ot1; rw [if_neg c25, if_pos c43]
        refine v_aload_n (pc := 46) 0 g dX5_wantItem_46 rfl rfl ?_
        refine v_iconst (pc := 47) (v := 0) g dX5_wantItem_47 (by decide) ?_
        refine v_cVd (pc := 48) g dX5_wantItem_48 lk_X5_248 (c_X5_wantBook S b 0 hR hl hb) (Nat.le_of_ble_eq_true rfl) rfl rfl rfl rfl (Nat.le_of_ble_eq_true rfl) ?_
        refine v_goto (pc := 51) 124 g dX5_wantItem_51 rfl ?_
        exact v_vret (pc := 124) g hret dX5_wantItem_124 (by first | (refine ⟨rfl, ?_⟩; rw [hE]; rfl) | (refine ⟨rfl, ?_⟩; rw [hE, hD, hG, hW]; show mW (upd (rowOf S) 1 (vaT ta tm (nxT ta tm b))) _ _ _ _ _ _ _ _ _ _ _ _ _ _ _ _ _ _ _ = _; rw [rup_Dr, num_va (by decide) c102]; rfl) | (refine ⟨rfl, ?_⟩; rw [hE, hD, hG, hW]; show mW (upd (rowOf S) 1 (rowOf S 1)) _ _ _ _ _ _ _ _ _ _ _ _ _ _ _ _ _ _ _ = _; rw [upd_sf]; rfl) | exact ⟨rfl, by rw [hE]⟩)
    · have hE : it1 ta tm S b = bk1 ta tm S 1 b := by rw [hI0]; unfold ot1; rw [if_pos c25]
      refine v_aload_n (pc := 28) 0 g dX5_wantItem_28 rfl rfl ?_
      refine v_iconst (pc := 29) (v := 1) g dX5_wantItem_29 (by decide) ?_
      refine v_cVd (pc := 30) g dX5_wantItem_30 lk_X5_248 (c_X5_wantBook S b 1 hR hl hb) (Nat.le_of_ble_eq_true rfl) rfl rfl rfl rfl (Nat.le_of_ble_eq_true rfl) ?_
      refine v_goto (pc := 33) 124 g dX5_wantItem_33 rfl ?_
      exact v_vret (pc := 124) g hret dX5_wantItem_124 (by first | (refine ⟨rfl, ?_⟩; rw [hE]; rfl) | (refine ⟨rfl, ?_⟩; rw [hE, hD, hG, hW]; show mW (upd (rowOf S) 1 (vaT ta tm (nxT ta tm b))) _ _ _ _ _ _ _ _ _ _ _ _ _ _ _ _ _ _ _ = _; rw [rup_Dr, num_va (by decide) c102]; rfl) | (refine ⟨rfl, ?_⟩; rw [hE, hD, hG, hW]; show mW (upd (rowOf S) 1 (rowOf S 1)) _ _ _ _ _ _ _ _ _ _ _ _ _ _ _ _ _ _ _ = _; rw [upd_sf]; rfl) | exact ⟨rfl, by rw [hE]⟩)
  · obtain ⟨k, hk, ek⟩ := kd_some c4
    have hE : it1 ta tm S b = sz1 ta tm S (nI k) b := by unfold it1; rw [ek]; rfl
    refine v_aload_n (pc := 7) 0 g dX5_wantItem_7 rfl rfl ?_
    refine v_aload_n (pc := 8) 0 g dX5_wantItem_8 rfl rfl ?_
    refine v_cVd (pc := 9) g dX5_wantItem_9 lk_X5_240 (c_X5_kindHere (rowOf S) b hR hb) (Nat.le_of_ble_eq_true rfl) rfl rfl rfl rfl (Nat.le_of_ble_eq_true rfl) ?_
    rw [show oK (kdT ta tm b) = nI k by rw [ek]; rfl]
    refine v_cVd (pc := 12) g dX5_wantItem_12 lk_X5_243 (c_X5_wantOne S b (nI k) hR hl hb h8) (Nat.le_of_ble_eq_true rfl) rfl rfl rfl rfl (Nat.le_of_ble_eq_true rfl) ?_
    refine v_goto (pc := 15) 124 g dX5_wantItem_15 rfl ?_
    exact v_vret (pc := 124) g hret dX5_wantItem_124 (by first | (refine ⟨rfl, ?_⟩; rw [hE]; rfl) | (refine ⟨rfl, ?_⟩; rw [hE, hD, hG, hW]; show mW (upd (rowOf S) 1 (vaT ta tm (nxT ta tm b))) _ _ _ _ _ _ _ _ _ _ _ _ _ _ _ _ _ _ _ = _; rw [rup_Dr, num_va (by decide) c102]; rfl) | (refine ⟨rfl, ?_⟩; rw [hE, hD, hG, hW]; show mW (upd (rowOf S) 1 (rowOf S 1)) _ _ _ _ _ _ _ _ _ _ _ _ _ _ _ _ _ _ _ = _; rw [upd_sf]; rfl) | exact ⟨rfl, by rw [hE]⟩)
set_option maxRecDepth 20000 in
set_option maxHeartbeats 2000000 in
theorem c_X5_winter (S : St) {fo : Nat → Int32} {of : Int32} {tr : Nat → Int32} {b1 : Nat → Int32} {ta : Nat → Int32} {tm : Nat} {so : Int32} {be : Int32} {te : Int32} {wo : Int64} {va : Int32} {gd : Int32} {bi : Nat → Int32} {si : Nat → Int32} {sh : Nat → Int64} {le : Nat → Int64} {im : Nat → Int32} {bf : Nat → Int32} {kp : Int32} (hI : Inv S) (hR : tpR ta) (hl : tm ≤ 120) : Runs 7 yX5_winter cX5_winter 3 (some .int) [.ref 0] (mW (rowOf S) fo of tr b1 ta tm so be te wo va gd bi si sh le im bf kp) (fun r0 w0 => ∃ so1 be1 te1 wo1 va1 gd1 bf1, r0 = some (.int (r_24 S ta tm)) ∧ w0 = mW (rowOf (s_24 S ta tm)) fo of tr b1 ta 0 so1 be1 te1 wo1 va1 gd1 bi si sh le im bf1 kp) := by
  refine Runs.of (by decide) (Nat.le_of_ble_eq_true rfl) rfl ?_
  intro X g hret hnL
  have J71 : ∀ (P : Prop) [Decidable P] (s1 : St) (b n : Nat), (P → tkT ta tm b = 0 → a_24 S ta tm = (some s1, nI n)) → (¬ (P ∧ tkT ta tm b = 0) → a_24 S ta tm = (none, -1 - nI b)) → V X 71 [some (.ref 0), some (.int (nI n)), some (.int 0)] [] (mW (rowOf s1) fo of tr b1 ta tm (nI (soT ta tm b)) (nI b) (nI (enT ta tm b)) (woT ta tm b) (vaT ta tm b) (bI P) bi si sh le im (rowOf S) kp) := by
    intro P _ s1 b n hA hB
    refine v_aload_n (pc := 71) 0 g dX5_winter_71 rfl rfl ?_
    refine v_aload_n (pc := 72) 0 g dX5_winter_72 rfl rfl ?_
    refine v_get (pc := 73) g dX5_winter_73 fl_X5_220 rfl rfl ?_
    refine v_ifb_eq (pc := 76) 90 g dX5_winter_76 rfl (fun c76 => ?_) (fun c76 => ?_)
    · refine v_iconst (pc := 90) (v := 0) g dX5_winter_90 (by decide) ?_
      refine v_stE [.int (bI (P ∧ tkT ta tm b = 0)), .ref 0] (by first | (rw [bI_1 ⟨c76, so_0.mp c83⟩]; first | done | rfl) | (rw [bI_0 (fun z => c76 z.1)]; first | done | rfl) | (rw [bI_0 (fun z => c83 (so_0.mpr z.2))]; first | done | rfl)) ?_
      refine v_put (pc := 91) _ g dX5_winter_91 fp_X5_220 rfl (Nat.le_of_ble_eq_true rfl) nbI ftI rfl rfl ?_
      refine v_aload_n (pc := 94) 0 g dX5_winter_94 rfl rfl ?_
      refine v_iconst (pc := 95) (v := 0) g dX5_winter_95 (by decide) ?_
      refine v_put (pc := 96) _ g dX5_winter_96 fp_X5_170 rfl (Nat.le_of_ble_eq_true rfl) rfl rfl rfl rfl ?_
      refine v_aload_n (pc := 99) 0 g dX5_winter_99 rfl rfl ?_
      refine v_get (pc := 100) g dX5_winter_100 fl_X5_220 rfl rfl ?_
      refine v_ifb_ne (pc := 103) 122 g dX5_winter_103 rfl (fun c103 => ?_) (fun c103 => ?_)
      · have hN := hA c103.1 c103.2
        refine v_iload_n (pc := 122) 1 g dX5_winter_122 rfl rfl ?_
        exact v_iret (pc := 123) g hret dX5_winter_123 (⟨_, _, _, _, _, _, _, so_i (by unfold r_24; rw [hN]), by unfold s_24; rw [hN]; rfl⟩)
      · have hN := hB c103
        refine v_aload_n (pc := 106) 0 g dX5_winter_106 rfl rfl ?_
        refine v_iconst (pc := 107) (v := 0) g dX5_winter_107 (by decide) ?_
        refine v_aload_n (pc := 108) 0 g dX5_winter_108 rfl rfl ?_
        refine v_get (pc := 109) g dX5_winter_109 fl_X5_41 rfl rfl ?_
        refine v_cVd (pc := 112) g dX5_winter_112 lk_X5_156 (c_mvB_bf (rowOf s1)) (Nat.le_of_ble_eq_true rfl) rfl rfl rfl rfl (Nat.le_of_ble_eq_true rfl) ?_
        refine v_iconst (pc := 115) (v := (-1)) g dX5_winter_115 (by decide) ?_
        refine v_aload_n (pc := 116) 0 g dX5_winter_116 rfl rfl ?_
        refine v_get (pc := 117) g dX5_winter_117 fl_X5_176 rfl rfl ?_
        refine v_isub (pc := 120) g dX5_winter_120 ?_
        exact v_iret (pc := 121) g hret dX5_winter_121 (⟨_, _, _, _, _, _, _, so_i (by unfold r_24; rw [hN]), by unfold s_24; rw [hN]; rfl⟩)
    · refine v_aload_n (pc := 79) 0 g dX5_winter_79 rfl rfl ?_
      refine v_get (pc := 80) g dX5_winter_80 fl_X5_188 rfl rfl ?_
      refine v_if_ne (pc := 83) 90 g dX5_winter_83 rfl (fun c83 => ?_) (fun c83 => ?_)
      · refine v_iconst (pc := 90) (v := 0) g dX5_winter_90 (by decide) ?_
        refine v_stE [.int (bI (P ∧ tkT ta tm b = 0)), .ref 0] (by first | (rw [bI_1 ⟨c76, so_0.mp c83⟩]; first | done | rfl) | (rw [bI_0 (fun z => c76 z.1)]; first | done | rfl) | (rw [bI_0 (fun z => c83 (so_0.mpr z.2))]; first | done | rfl)) ?_
        refine v_put (pc := 91) _ g dX5_winter_91 fp_X5_220 rfl (Nat.le_of_ble_eq_true rfl) nbI ftI rfl rfl ?_
        refine v_aload_n (pc := 94) 0 g dX5_winter_94 rfl rfl ?_
        refine v_iconst (pc := 95) (v := 0) g dX5_winter_95 (by decide) ?_
        refine v_put (pc := 96) _ g dX5_winter_96 fp_X5_170 rfl (Nat.le_of_ble_eq_true rfl) rfl rfl rfl rfl ?_
        refine v_aload_n (pc := 99) 0 g dX5_winter_99 rfl rfl ?_
        refine v_get (pc := 100) g dX5_winter_100 fl_X5_220 rfl rfl ?_
        refine v_ifb_ne (pc := 103) 122 g dX5_winter_103 rfl (fun c103 => ?_) (fun c103 => ?_)
        · have hN := hA c103.1 c103.2
          refine v_iload_n (pc := 122) 1 g dX5_winter_122 rfl rfl ?_
          exact v_iret (pc := 123) g hret dX5_winter_123 (⟨_, _, _, _, _, _, _, so_i (by unfold r_24; rw [hN]), by unfold s_24; rw [hN]; rfl⟩)
        · have hN := hB c103
          refine v_aload_n (pc := 106) 0 g dX5_winter_106 rfl rfl ?_
          refine v_iconst (pc := 107) (v := 0) g dX5_winter_107 (by decide) ?_
          refine v_aload_n (pc := 108) 0 g dX5_winter_108 rfl rfl ?_
          refine v_get (pc := 109) g dX5_winter_109 fl_X5_41 rfl rfl ?_
          refine v_cVd (pc := 112) g dX5_winter_112 lk_X5_156 (c_mvB_bf (rowOf s1)) (Nat.le_of_ble_eq_true rfl) rfl rfl rfl rfl (Nat.le_of_ble_eq_true rfl) ?_
          refine v_iconst (pc := 115) (v := (-1)) g dX5_winter_115 (by decide) ?_
          refine v_aload_n (pc := 116) 0 g dX5_winter_116 rfl rfl ?_
          refine v_get (pc := 117) g dX5_winter_117 fl_X5_176 rfl rfl ?_
          refine v_isub (pc := 120) g dX5_winter_120 ?_
          exact v_iret (pc := 121) g hret dX5_winter_121 (⟨_, _, _, _, _, _, _, so_i (by unfold r_24; rw [hN]), by unfold s_24; rw [hN]; rfl⟩)
      · refine v_iconst (pc := 86) (v := 1) g dX5_winter_86 (by decide) ?_
        refine v_goto (pc := 87) 91 g dX5_winter_87 rfl ?_
        refine v_stE [.int (bI (P ∧ tkT ta tm b = 0)), .ref 0] (by first | (rw [bI_1 ⟨c76, so_0.mp c83⟩]; first | done | rfl) | (rw [bI_0 (fun z => c76 z.1)]; first | done | rfl) | (rw [bI_0 (fun z => c83 (so_0.mpr z.2))]; first | done | rfl)) ?_
        refine v_put (pc := 91) _ g dX5_winter_91 fp_X5_220 rfl (Nat.le_of_ble_eq_true rfl) nbI ftI rfl rfl ?_
        refine v_aload_n (pc := 94) 0 g dX5_winter_94 rfl rfl ?_
        refine v_iconst (pc := 95) (v := 0) g dX5_winter_95 (by decide) ?_
        refine v_put (pc := 96) _ g dX5_winter_96 fp_X5_170 rfl (Nat.le_of_ble_eq_true rfl) rfl rfl rfl rfl ?_
        refine v_aload_n (pc := 99) 0 g dX5_winter_99 rfl rfl ?_
        refine v_get (pc := 100) g dX5_winter_100 fl_X5_220 rfl rfl ?_
        refine v_ifb_ne (pc := 103) 122 g dX5_winter_103 rfl (fun c103 => ?_) (fun c103 => ?_)
        · have hN := hA c103.1 c103.2
          refine v_iload_n (pc := 122) 1 g dX5_winter_122 rfl rfl ?_
          exact v_iret (pc := 123) g hret dX5_winter_123 (⟨_, _, _, _, _, _, _, so_i (by unfold r_24; rw [hN]), by unfold s_24; rw [hN]; rfl⟩)
        · have hN := hB c103
          refine v_aload_n (pc := 106) 0 g dX5_winter_106 rfl rfl ?_
          refine v_iconst (pc := 107) (v := 0) g dX5_winter_107 (by decide) ?_
          refine v_aload_n (pc := 108) 0 g dX5_winter_108 rfl rfl ?_
          refine v_get (pc := 109) g dX5_winter_109 fl_X5_41 rfl rfl ?_
          refine v_cVd (pc := 112) g dX5_winter_112 lk_X5_156 (c_mvB_bf (rowOf s1)) (Nat.le_of_ble_eq_true rfl) rfl rfl rfl rfl (Nat.le_of_ble_eq_true rfl) ?_
          refine v_iconst (pc := 115) (v := (-1)) g dX5_winter_115 (by decide) ?_
          refine v_aload_n (pc := 116) 0 g dX5_winter_116 rfl rfl ?_
          refine v_get (pc := 117) g dX5_winter_117 fl_X5_176 rfl rfl ?_
          refine v_isub (pc := 120) g dX5_winter_120 ?_
          exact v_iret (pc := 121) g hret dX5_winter_121 (⟨_, _, _, _, _, _, _, so_i (by unfold r_24; rw [hN]), by unfold s_24; rw [hN]; rfl⟩)
  have J66 : ∀ (P : Prop) [Decidable P] (s1 : St) (b n : Nat), (P → tkT ta tm b = 0 → a_24 S ta tm = (some s1, nI n)) → (¬ (P ∧ tkT ta tm b = 0) → a_24 S ta tm = (none, -1 - nI b)) → V X 66 [some (.ref 0), some (.int (nI n)), some (.int 1)] [] (mW (rowOf s1) fo of tr b1 ta tm (nI (soT ta tm b)) (nI b) (nI (enT ta tm b)) (woT ta tm b) (vaT ta tm b) (bI P) bi si sh le im (rowOf S) kp) := by
    intro P _ s1 b n hA hB
    refine v_iconst (pc := 66) (v := 0) g dX5_winter_66 (by decide) ?_
    refine v_istore_n (pc := 67) 2 _ g dX5_winter_67 rfl (Nat.le_of_ble_eq_true rfl) hnL.symm rfl ?_
    refine v_goto (pc := 68) 23 g dX5_winter_68 rfl ?_
    refine v_iload_n (pc := 23) 2 g dX5_winter_23 rfl rfl ?_
    refine v_if_eq (pc := 24) 71 g dX5_winter_24 rfl (fun _ => ?_) (fun c => absurd rfl c)
    exact J71 P s1 b n hA hB
  refine v_aload_n (pc := 0) 0 g dX5_winter_0 rfl rfl ?_
  refine v_iconst (pc := 1) (v := 1) g dX5_winter_1 (by decide) ?_
  refine v_aload_n (pc := 2) 0 g dX5_winter_2 rfl rfl ?_
  refine v_get (pc := 3) g dX5_winter_3 fl_X5_41 rfl rfl ?_
  refine v_cVd (pc := 6) g dX5_winter_6 lk_X5_156 (c_mvK_bf (rowOf S)) (Nat.le_of_ble_eq_true rfl) rfl rfl rfl rfl (Nat.le_of_ble_eq_true rfl) ?_
  refine v_aload_n (pc := 9) 0 g dX5_winter_9 rfl rfl ?_
  refine v_iconst (pc := 10) (v := 0) g dX5_winter_10 (by decide) ?_
  refine v_put (pc := 11) _ g dX5_winter_11 fp_X5_173 rfl (Nat.le_of_ble_eq_true rfl) rfl rfl rfl rfl ?_
  refine v_aload_n (pc := 14) 0 g dX5_winter_14 rfl rfl ?_
  refine v_iconst (pc := 15) (v := 1) g dX5_winter_15 (by decide) ?_
  refine v_put (pc := 16) _ g dX5_winter_16 fp_X5_220 rfl (Nat.le_of_ble_eq_true rfl) rfl rfl rfl rfl ?_
  refine v_w (mW (rowOf S) fo of tr b1 ta tm so be (nI 0) wo va 1 bi si sh le im (rowOf S) kp) rfl ?_
  refine v_iconst (pc := 19) (v := 0) g dX5_winter_19 (by decide) ?_
  refine v_istore_n (pc := 20) 1 _ g dX5_winter_20 rfl (Nat.le_of_ble_eq_true rfl) hnL.symm rfl ?_
  refine v_iconst (pc := 21) (v := 1) g dX5_winter_21 (by decide) ?_
  refine v_istore_n (pc := 22) 2 _ g dX5_winter_22 rfl (Nat.le_of_ble_eq_true rfl) hnL.symm rfl ?_
  have L23 : ∀ (fu : Nat) (s0 : St) (p n : Nat) (so be va : Int32) (wo : Int64), n ≤ p → p ≤ tm → sN s0 ≤ 8 → prs ta tm (121 - n) s0 (bgT ta tm p) n = a_24 S ta tm → tm - p < fu → V X 23 [some (.ref 0), some (.int (nI n)), some (.int 1)] [] (mW (rowOf s0) fo of tr b1 ta tm so be (nI p) wo va 1 bi si sh le im (rowOf S) kp) := by
    intro fu
    induction fu with
    | zero => intro s0 p n so be va wo hn hp h8 ha hm; exact absurd hm (Nat.not_lt_zero _)
    | succ fu ih =>
      intro s0 p n so be va wo hn hp h8 ha hm
      refine v_iload_n (pc := 23) 2 g dX5_winter_23 rfl rfl ?_
      refine v_if_eq (pc := 24) 71 g dX5_winter_24 rfl (fun c24 => ?_) (fun c24 => ?_)
      · exact absurd c24 (by decide)
      · refine v_aload_n (pc := 27) 0 g dX5_winter_27 rfl rfl ?_
        have hb := (bg_rng (tb := ta) hp).2
        obtain ⟨b, hbe⟩ : ∃ b, b = bgT ta tm p := ⟨_, rfl⟩
        rw [← hbe] at ha hb
        have hP : a_24 S ta tm = nx1 ta tm (prs ta tm (120 - n)) n (it1 ta tm s0 b) := by rw [← ha, show 121 - n = (120 - n) + 1 by omega, prs]
        have hx := it1_rg hR (S := s0) hb
        have hpb : p ≤ b := by rw [hbe]; exact (bg_rng (tb := ta) hp).1
        refine v_cVd (pc := 28) g dX5_winter_28 lk_X5_224 (c_X5_advance (rowOf s0) p b hl hp hbe.symm) (Nat.le_of_ble_eq_true rfl) rfl rfl rfl rfl (Nat.le_of_ble_eq_true rfl) ?_
        refine v_aload_n (pc := 31) 0 g dX5_winter_31 rfl rfl ?_
        refine v_cVd (pc := 32) g dX5_winter_32 lk_X5_260 (c_X5_wantItem s0 b hR hl hb h8) (Nat.le_of_ble_eq_true rfl) rfl rfl rfl rfl (Nat.le_of_ble_eq_true rfl) ?_
        refine v_iincN (pc := 35) g dX5_winter_35 rfl hnL.symm ?_
        have hA1 : (it1 ta tm s0 b).1.isSome = true → tkT ta tm (it1 ta tm s0 b).2 = 0 → a_24 S ta tm = (some ((it1 ta tm s0 b).1.getD s0), nI (n + 1)) := fun h1 h2 => by obtain ⟨S1, hS1⟩ := itm_some h1; rw [hP, nx1_some hS1]; unfold nx2; rw [if_pos h2, hS1]; rfl
        have hB0 : ¬ (it1 ta tm s0 b).1.isSome = true → a_24 S ta tm = (none, -1 - nI (it1 ta tm s0 b).2) := fun h1 => by rw [hP, nx1_none (itm_none h1)]
        have hB2 : (it1 ta tm s0 b).1.isSome = true → ¬ tkT ta tm (it1 ta tm s0 b).2 = 0 → ¬ tkT ta tm (it1 ta tm s0 b).2 = 3 → a_24 S ta tm = (none, -1 - nI (it1 ta tm s0 b).2) := fun h1 h2 h3 => by obtain ⟨S1, hS1⟩ := itm_some h1; rw [hP, nx1_some hS1]; unfold nx2; rw [if_neg h2, if_neg h3]
        refine v_aload_n (pc := 38) 0 g dX5_winter_38 rfl rfl ?_
        refine v_get (pc := 39) g dX5_winter_39 fl_X5_220 rfl rfl ?_
        refine v_ifb_eq (pc := 42) 66 g dX5_winter_42 rfl (fun c42 => ?_) (fun c42 => ?_)
        · have hB1 : ¬ ((it1 ta tm s0 b).1.isSome = true ∧ tkT ta tm (it1 ta tm s0 b).2 = 0) → a_24 S ta tm = (none, -1 - nI (it1 ta tm s0 b).2) := fun _ => hB0 c42
          exact J66 ((it1 ta tm s0 b).1.isSome = true) ((it1 ta tm s0 b).1.getD s0) ((it1 ta tm s0 b).2) (n + 1) hA1 hB1
        · refine v_aload_n (pc := 45) 0 g dX5_winter_45 rfl rfl ?_
          refine v_get (pc := 46) g dX5_winter_46 fl_X5_188 rfl rfl ?_
          refine v_iconst (pc := 49) (v := 3) g dX5_winter_49 (by decide) ?_
          refine v_icmp_ne (pc := 50) 66 g dX5_winter_50 rfl (fun c50 => ?_) (fun c50 => ?_)
          · have hB1 : ¬ ((it1 ta tm s0 b).1.isSome = true ∧ tkT ta tm (it1 ta tm s0 b).2 = 0) → a_24 S ta tm = (none, -1 - nI (it1 ta tm s0 b).2) := fun h => hB2 c42 (fun z => h ⟨c42, z⟩) (fun z => c50 (so_3.mpr z).1)
            exact J66 ((it1 ta tm s0 b).1.isSome = true) ((it1 ta tm s0 b).1.getD s0) ((it1 ta tm s0 b).2) (n + 1) hA1 hB1
          · refine v_aload_n (pc := 53) 0 g dX5_winter_53 rfl rfl ?_
            refine v_get (pc := 54) g dX5_winter_54 fl_X5_195 rfl rfl ?_
            refine v_bipush (pc := 57) (v := 59) g dX5_winter_57 (by decide) ?_
            refine v_icmp_ne (pc := 59) 66 g dX5_winter_59 rfl (fun c59 => ?_) (fun c59 => ?_)
            · have hB1 : ¬ ((it1 ta tm s0 b).1.isSome = true ∧ tkT ta tm (it1 ta tm s0 b).2 = 0) → a_24 S ta tm = (none, -1 - nI (it1 ta tm s0 b).2) := fun h => hB2 c42 (fun z => h ⟨c42, z⟩) (fun z => c59 (so_3.mpr z).2)
              exact J66 ((it1 ta tm s0 b).1.isSome = true) ((it1 ta tm s0 b).1.getD s0) ((it1 ta tm s0 b).2) (n + 1) hA1 hB1
            · have e3 : tkT ta tm (it1 ta tm s0 b).2 = 3 := so_3.mp ⟨c50, c59⟩
              obtain ⟨S1, hS1⟩ := itm_some c42
              have en3 := en_rng hR hx.2
              rw [bI_1 c42]
              refine v_iconst (pc := 62) (v := 1) g dX5_winter_62 (by decide) ?_
              refine v_goto (pc := 63) 67 g dX5_winter_63 rfl ?_
              refine v_istore_n (pc := 67) 2 _ g dX5_winter_67 rfl (Nat.le_of_ble_eq_true rfl) hnL.symm rfl ?_
              refine v_goto (pc := 68) 23 g dX5_winter_68 rfl ?_
              exact ih ((it1 ta tm s0 b).1.getD s0) (enT ta tm (it1 ta tm s0 b).2) (n + 1) _ _ _ _ (by have := en3.2.2 (by omega); have := hx.1; omega) en3.2.1 (by rw [hS1]; exact it1_n h8 (congrArg Prod.fst hS1)) (by rw [hP, nx1_some hS1]; unfold nx2; rw [if_neg (by omega), if_pos e3, hS1, show 121 - (n + 1) = 120 - n by omega]; rfl) (by have := en3.2.2 (by omega); have := hx.1; have := en3.2.1; omega)
  exact L23 (tm + 1) S 0 0 _ _ _ _ (Nat.zero_le _) (Nat.zero_le _) hI.n rfl (by omega)
