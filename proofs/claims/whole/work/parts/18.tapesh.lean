/-! ===== Tape, Sheets ===== -/
def tpW (tb : Nat → Int32) (tl : Nat) : PW := [.inr (2, [.ref 1, .int (nI tl)]), .inl (120, .inl tb)]
def shW (wi si : Nat → Int32) (nu : Nat → Int64) : PW := [.inr (0, [.ref 1, .ref 2, .ref 3]), .inl (4, .inl wi), .inl (4, .inl si), .inl (160, .inr (.inl nu))]
def byt (tb : Nat → Int32) (tl k : Nat) : Int32 := if k < tl then tb k else -1
def layK (nu : Nat → Int64) (s k : Nat) : Nat → Int64 := fun j => if 40 * s ≤ j ∧ j < 40 * s + k then 0 else nu j
def cutJ (v : Int64) (b : Int32) : Int64 := if b.toInt = 8 then v.toInt32.toInt8.toInt32.toInt64 else if b.toInt = 16 then v.toInt32.toInt16.toInt32.toInt64 else v
abbrev hrun (z f n : Int32) : Prop := 0 ≤ f.toInt ∧ 0 ≤ n.toInt ∧ n.toInt ≤ z.toInt ∧ f.toInt + n.toInt ≤ z.toInt
theorem ix_s (i k : Nat) : nI i * 40 + nI k = nI (40 * i + k) := by
  rw [show (40 : Int32) = nI 40 from rfl, pk_mul, nI_add, Nat.mul_comm]
theorem ix_s2 (i k : Nat) : 40 * nI i + nI k = nI (40 * i + k) := by
  rw [show (40 : Int32) = nI 40 from rfl, pk_mul, nI_add]
theorem lay_up (nu : Nat → Int64) (s k : Nat) : vp_updL (layK nu s k) (40 * s + k) 0 = layK nu s (k + 1) := by
  funext j
  unfold vp_updL
  by_cases e : j = 40 * s + k
  · rw [if_pos e, layK, if_pos (by omega)]
  · rw [if_neg e, layK, layK]
    by_cases h : 40 * s ≤ j ∧ j < 40 * s + k
    · rw [if_pos h, if_pos (by omega)]
    · rw [if_neg h, if_neg (by omega)]
theorem lay_0 (nu : Nat → Int64) (s : Nat) : layK nu s 0 = nu := by
  funext j
  rw [layK, if_neg (by omega)]
theorem subT {z n : Int32} (hz : inR z 0 40) (h0 : 0 ≤ n.toInt) (h1 : n.toInt ≤ z.toInt) : (z - n).toInt = z.toInt - n.toInt := by
  obtain ⟨a, ha, rfl⟩ := hz.nat (m := 40) (by omega)
  rw [nI_toInt (by omega)] at h1
  obtain ⟨b, hb, rfl⟩ := (show inR n 0 ((40 : Nat) : Int) from ⟨h0, by omega⟩).nat (by omega)
  rw [pk_sub_toInt (by omega) (by omega), nI_toInt (by omega), nI_toInt (by omega)]
set_option maxRecDepth 20000 in
set_option maxHeartbeats 2000000 in
theorem c_X2_addByte (tb : Nat → Int32) (tl : Nat) (b : Int32) (hl : tl < 120) : RunD 0 yX2_addByte cX2_addByte 2 none [.ref 0, .int b] (tpW tb tl) (none) (tpW (upd tb tl b) (tl + 1)) := by
  refine Runs.of (by decide) (Nat.le_of_ble_eq_true rfl) rfl ?_
  intro X g hret hnL
  refine v_aload_n (pc := 0) 0 g dX2_addByte_0 rfl rfl ?_
  refine v_get (pc := 1) g dX2_addByte_1 fl_X2_15 rfl rfl ?_
  refine v_bipush (pc := 4) (v := 120) g dX2_addByte_4 (by decide) ?_
  refine v_icmp_ge (pc := 6) 29 g dX2_addByte_6 rfl (fun c6 => ?_) (fun c6 => ?_)
  · exact absurd ((nI_leI (a := 120) (b := tl) (by omega) (by omega)).mp c6) (by omega)
  · refine v_aload_n (pc := 9) 0 g dX2_addByte_9 rfl rfl ?_
    refine v_get (pc := 10) g dX2_addByte_10 fl_X2_9 rfl rfl ?_
    refine v_aload_n (pc := 13) 0 g dX2_addByte_13 rfl rfl ?_
    refine v_get (pc := 14) g dX2_addByte_14 fl_X2_15 rfl rfl ?_
    refine v_iload_n (pc := 17) 1 g dX2_addByte_17 rfl rfl ?_
    refine v_iastN (pc := 18) _ _ g dX2_addByte_18 rfl rfl (by omega) (Nat.le_of_ble_eq_true rfl) rfl ?_
    refine v_aload_n (pc := 19) 0 g dX2_addByte_19 rfl rfl ?_
    refine v_dup (pc := 20) g dX2_addByte_20 rfl ?_
    refine v_get (pc := 21) g dX2_addByte_21 fl_X2_15 rfl rfl ?_
    refine v_iconst (pc := 24) (v := 1) g dX2_addByte_24 (by decide) ?_
    refine v_iadd (pc := 25) g dX2_addByte_25 ?_
    rw [nI_1]
    refine v_put (pc := 26) _ g dX2_addByte_26 fp_X2_15 rfl (Nat.le_of_ble_eq_true rfl) rfl rfl rfl rfl ?_
    exact v_vret (pc := 29) g hret dX2_addByte_29 (⟨rfl, rfl⟩)
set_option maxRecDepth 20000 in
set_option maxHeartbeats 2000000 in
theorem c_X2_byteAt (tb : Nat → Int32) (tl : Nat) (k : Nat) (hl : tl ≤ 120) (hk : k < 1000) : RunD 0 yX2_byteAt cX2_byteAt 2 (some .int) [.ref 0, .int (nI k)] (tpW tb tl) (some (.int (byt tb tl k))) (tpW tb tl) := by
  refine Runs.of (by decide) (Nat.le_of_ble_eq_true rfl) rfl ?_
  intro X g hret hnL
  refine v_iload_n (pc := 0) 1 g dX2_byteAt_0 rfl rfl ?_
  refine v_if_lt (pc := 1) 21 g dX2_byteAt_1 rfl (fun c1 => ?_) (fun c1 => ?_)
  · exact absurd c1 (nI_pos (by omega))
  · refine v_iload_n (pc := 4) 1 g dX2_byteAt_4 rfl rfl ?_
    refine v_aload_n (pc := 5) 0 g dX2_byteAt_5 rfl rfl ?_
    refine v_get (pc := 6) g dX2_byteAt_6 fl_X2_15 rfl rfl ?_
    refine v_icmp_ge (pc := 9) 21 g dX2_byteAt_9 rfl (fun c9 => ?_) (fun c9 => ?_)
    · have e9 := (nI_leI (a := tl) (b := k) (by omega) (by omega)).mp c9
      refine v_iconst (pc := 21) (v := (-1)) g dX2_byteAt_21 (by decide) ?_
      exact v_iret (pc := 22) g hret dX2_byteAt_22 (⟨so_i (by unfold byt; first | rw [if_pos e9] | rw [if_neg (by omega)]), rfl⟩)
    · have e9 : k < tl := Nat.not_le.mp (fun z => c9 ((nI_leI (a := tl) (b := k) (by omega) (by omega)).mpr z))
      refine v_aload_n (pc := 12) 0 g dX2_byteAt_12 rfl rfl ?_
      refine v_get (pc := 13) g dX2_byteAt_13 fl_X2_9 rfl rfl ?_
      refine v_iload_n (pc := 16) 1 g dX2_byteAt_16 rfl rfl ?_
      refine v_ialdN (pc := 17) _ g dX2_byteAt_17 rfl rfl (by omega) (Nat.le_of_ble_eq_true rfl) ?_
      refine v_goto (pc := 18) 22 g dX2_byteAt_18 rfl ?_
      exact v_iret (pc := 22) g hret dX2_byteAt_22 (⟨so_i (by unfold byt; first | rw [if_pos e9] | rw [if_neg (by omega)]), rfl⟩)
set_option maxRecDepth 20000 in
set_option maxHeartbeats 2000000 in
theorem c_X0_cut (v : Int64) (b : Int32) : RunD 0 yX0_cut cX0_cut 3 (some .long) [.long v, .int b] ([]) (some (.long (cutJ v b))) ([]) := by
  refine Runs.of (by decide) (Nat.le_of_ble_eq_true rfl) rfl ?_
  intro X g hret hnL
  refine v_iload_n (pc := 0) 2 g dX0_cut_0 rfl rfl ?_
  refine v_top (fun x1 e1 => ?_)
  by_cases t1_8 : x1.toInt = 8
  · refine v_lk (pc := 1) 28 g dX0_cut_1 rfl (by rw [t1_8]) rfl ?_
    rw [e1] at t1_8
    refine v_lload_n (pc := 28) 0 g dX0_cut_28 rfl rfl ?_
    refine v_l2i (pc := 29) g dX0_cut_29 ?_
    refine v_i2b (pc := 30) g dX0_cut_30 ?_
    refine v_i2l (pc := 31) g dX0_cut_31 ?_
    exact v_lret (pc := 32) g hret dX0_cut_32 (by unfold cutJ; simp [*])
  by_cases t1_16 : x1.toInt = 16
  · refine v_lk (pc := 1) 33 g dX0_cut_1 rfl (by rw [t1_16]) rfl ?_
    rw [e1] at t1_16
    refine v_lload_n (pc := 33) 0 g dX0_cut_33 rfl rfl ?_
    refine v_l2i (pc := 34) g dX0_cut_34 ?_
    refine v_i2s (pc := 35) g dX0_cut_35 ?_
    refine v_i2l (pc := 36) g dX0_cut_36 ?_
    exact v_lret (pc := 37) g hret dX0_cut_37 (by unfold cutJ; simp [*])
  refine v_lk (pc := 1) (off := 37) 38 g dX0_cut_1 rfl (by show Op.lookupswitch.offset [(8, 27), (16, 32)] 37 _ = 37; rw [Op.lookupswitch.offset_cons, if_neg (fun h => t1_8 h.symm), Op.lookupswitch.offset_cons, if_neg (fun h => t1_16 h.symm), Op.lookupswitch.offset_nil]) rfl ?_
  rw [e1] at t1_8
  rw [e1] at t1_16
  refine v_lload_n (pc := 38) 0 g dX0_cut_38 rfl rfl ?_
  exact v_lret (pc := 39) g hret dX0_cut_39 (by unfold cutJ; simp [*])
set_option maxRecDepth 20000 in
set_option maxHeartbeats 2000000 in
theorem c_X0_isMissing (wi si : Nat → Int32) (nu : Nat → Int64) (s : Nat) (hs : s < 4) : RunD 0 yX0_isMissing cX0_isMissing 2 (some .boolean) [.ref 0, .int (nI s)] (shW wi si nu) (some (.int (bI (wi s = 0)))) (shW wi si nu) := by
  refine Runs.of (by decide) (Nat.le_of_ble_eq_true rfl) rfl ?_
  intro X g hret hnL
  refine v_aload_n (pc := 0) 0 g dX0_isMissing_0 rfl rfl ?_
  refine v_get (pc := 1) g dX0_isMissing_1 fl_X0_9 rfl rfl ?_
  refine v_iload_n (pc := 4) 1 g dX0_isMissing_4 rfl rfl ?_
  refine v_ialdN (pc := 5) _ g dX0_isMissing_5 rfl rfl (by omega) (Nat.le_of_ble_eq_true rfl) ?_
  refine v_if_ne (pc := 6) 13 g dX0_isMissing_6 rfl (fun c6 => ?_) (fun c6 => ?_)
  · refine v_iconst (pc := 13) (v := 0) g dX0_isMissing_13 (by decide) ?_
    exact v_zret (pc := 14) g hret dX0_isMissing_14 (by first | exact nb1 | exact nb0 | exact nbI) (by first | exact ⟨so1 c6, rfl⟩ | exact ⟨so0 c6, rfl⟩)
  · refine v_iconst (pc := 9) (v := 1) g dX0_isMissing_9 (by decide) ?_
    refine v_goto (pc := 10) 14 g dX0_isMissing_10 rfl ?_
    exact v_zret (pc := 14) g hret dX0_isMissing_14 (by first | exact nb1 | exact nb0 | exact nbI) (by first | exact ⟨so1 c6, rfl⟩ | exact ⟨so0 c6, rfl⟩)
set_option maxRecDepth 20000 in
set_option maxHeartbeats 2000000 in
theorem c_X0_number (wi si : Nat → Int32) (nu : Nat → Int64) (s i : Nat) (hs : s < 4) (hi : i < 40) : RunD 0 yX0_number cX0_number 3 (some .long) [.ref 0, .int (nI s), .int (nI i)] (shW wi si nu) (some (.long (nu (40 * s + i)))) (shW wi si nu) := by
  refine Runs.of (by decide) (Nat.le_of_ble_eq_true rfl) rfl ?_
  intro X g hret hnL
  refine v_aload_n (pc := 0) 0 g dX0_number_0 rfl rfl ?_
  refine v_get (pc := 1) g dX0_number_1 fl_X0_18 rfl rfl ?_
  refine v_iload_n (pc := 4) 1 g dX0_number_4 rfl rfl ?_
  refine v_bipush (pc := 5) (v := 40) g dX0_number_5 (by decide) ?_
  refine v_imul (pc := 7) g dX0_number_7 ?_
  refine v_iload_n (pc := 8) 2 g dX0_number_8 rfl rfl ?_
  refine v_iadd (pc := 9) g dX0_number_9 ?_
  refine v_laldN (pc := 10) _ g dX0_number_10 rfl (ix_s s i) (by omega) (Nat.le_of_ble_eq_true rfl) ?_
  exact v_lret (pc := 11) g hret dX0_number_11 (⟨rfl, rfl⟩)
set_option maxRecDepth 20000 in
set_option maxHeartbeats 2000000 in
theorem c_X0_put (wi si : Nat → Int32) (nu : Nat → Int64) (s i : Nat) (v : Int64) (hs : s < 4) (hi : i < 40) : RunD 1 yX0_put cX0_put 5 none [.ref 0, .int (nI s), .int (nI i), .long v] (shW wi si nu) (none) (shW wi si (vp_updL nu (40 * s + i) (cutJ v (wi s)))) := by
  refine Runs.of (by decide) (Nat.le_of_ble_eq_true rfl) rfl ?_
  intro X g hret hnL
  refine v_aload_n (pc := 0) 0 g dX0_put_0 rfl rfl ?_
  refine v_get (pc := 1) g dX0_put_1 fl_X0_18 rfl rfl ?_
  refine v_iload_n (pc := 4) 1 g dX0_put_4 rfl rfl ?_
  refine v_bipush (pc := 5) (v := 40) g dX0_put_5 (by decide) ?_
  refine v_imul (pc := 7) g dX0_put_7 ?_
  refine v_iload_n (pc := 8) 2 g dX0_put_8 rfl rfl ?_
  refine v_iadd (pc := 9) g dX0_put_9 ?_
  refine v_lload_n (pc := 10) 3 g dX0_put_10 rfl rfl ?_
  refine v_aload_n (pc := 11) 0 g dX0_put_11 rfl rfl ?_
  refine v_get (pc := 12) g dX0_put_12 fl_X0_9 rfl rfl ?_
  refine v_iload_n (pc := 15) 1 g dX0_put_15 rfl rfl ?_
  refine v_ialdN (pc := 16) _ g dX0_put_16 rfl rfl (by omega) (Nat.le_of_ble_eq_true rfl) ?_
  refine v_cSd (pc := 17) g dX0_put_17 lk_X0_22 ((c_X0_cut _ _).any rfl rfl _) (Nat.le_of_ble_eq_true rfl) rfl rfl (Nat.le_of_ble_eq_true rfl) ?_
  refine v_lastN (pc := 20) _ _ g dX0_put_20 rfl (ix_s s i) (by omega) (Nat.le_of_ble_eq_true rfl) rfl ?_
  exact v_vret (pc := 21) g hret dX0_put_21 (⟨rfl, rfl⟩)
set_option maxRecDepth 20000 in
set_option maxHeartbeats 2000000 in
theorem c_X0_lay (wi si : Nat → Int32) (nu : Nat → Int64) (s : Nat) (b n : Int32) (hs : s < 4) : RunD 0 yX0_lay cX0_lay 5 none [.ref 0, .int (nI s), .int b, .int n] (shW wi si nu) (none) (shW (upd wi s b) (upd si s n) (layK nu s 40)) := by
  refine Runs.of (by decide) (Nat.le_of_ble_eq_true rfl) rfl ?_
  intro X g hret hnL
  refine v_aload_n (pc := 0) 0 g dX0_lay_0 rfl rfl ?_
  refine v_get (pc := 1) g dX0_lay_1 fl_X0_9 rfl rfl ?_
  refine v_iload_n (pc := 4) 1 g dX0_lay_4 rfl rfl ?_
  refine v_iload_n (pc := 5) 2 g dX0_lay_5 rfl rfl ?_
  refine v_iastN (pc := 6) _ _ g dX0_lay_6 rfl rfl (by omega) (Nat.le_of_ble_eq_true rfl) rfl ?_
  refine v_aload_n (pc := 7) 0 g dX0_lay_7 rfl rfl ?_
  refine v_get (pc := 8) g dX0_lay_8 fl_X0_15 rfl rfl ?_
  refine v_iload_n (pc := 11) 1 g dX0_lay_11 rfl rfl ?_
  refine v_iload_n (pc := 12) 3 g dX0_lay_12 rfl rfl ?_
  refine v_iastN (pc := 13) _ _ g dX0_lay_13 rfl rfl (by omega) (Nat.le_of_ble_eq_true rfl) rfl ?_
  refine v_iconst (pc := 14) (v := 0) g dX0_lay_14 (by decide) ?_
  refine v_istore (pc := 15) _ g dX0_lay_15 (Nat.le_of_ble_eq_true rfl) hnL.symm rfl ?_
  have L17 : ∀ (fu : Nat) (k : Nat), k ≤ 40 → 40 - k < fu → V X 17 [some (.ref 0), some (.int (nI s)), some (.int b), some (.int n), some (.int (nI k))] [] (shW (upd wi s b) (upd si s n) (layK nu s k)) := by
    intro fu
    induction fu with
    | zero => intro k hk hm; exact absurd hm (Nat.not_lt_zero _)
    | succ fu ih =>
      intro k hk hm
      refine v_iload (pc := 17) g dX0_lay_17 rfl ?_
      refine v_bipush (pc := 19) (v := 40) g dX0_lay_19 (by decide) ?_
      refine v_icmp_ge (pc := 21) 43 g dX0_lay_21 rfl (fun c21 => ?_) (fun c21 => ?_)
      · have e21 : k = 40 := ge_t (n := 40) rfl hk (by omega) c21
        subst e21
        exact v_vret (pc := 43) g hret dX0_lay_43 (⟨rfl, rfl⟩)
      · have e21 : k < 40 := ge_f (n := 40) rfl hk (by omega) c21
        refine v_aload_n (pc := 24) 0 g dX0_lay_24 rfl rfl ?_
        refine v_get (pc := 25) g dX0_lay_25 fl_X0_18 rfl rfl ?_
        refine v_iload_n (pc := 28) 1 g dX0_lay_28 rfl rfl ?_
        refine v_bipush (pc := 29) (v := 40) g dX0_lay_29 (by decide) ?_
        refine v_imul (pc := 31) g dX0_lay_31 ?_
        refine v_iload (pc := 32) g dX0_lay_32 rfl ?_
        refine v_iadd (pc := 34) g dX0_lay_34 ?_
        refine v_lconst (pc := 35) (v := 0) g dX0_lay_35 (by decide) ?_
        refine v_lastN (pc := 36) _ _ g dX0_lay_36 rfl (ix_s s k) (by omega) (Nat.le_of_ble_eq_true rfl) rfl ?_
        refine v_iincN (pc := 37) g dX0_lay_37 rfl hnL.symm ?_
        refine v_goto (pc := 40) 17 g dX0_lay_40 rfl ?_
        refine v_w (shW (upd wi s b) (upd si s n) (layK nu s (k + 1))) (by rw [← lay_up]; rfl) ?_
        exact ih (k + 1) (by omega) (by omega)
  refine v_w (shW (upd wi s b) (upd si s n) (layK nu s 0)) (by rw [lay_0]; rfl) ?_
  exact L17 41 0 (Nat.zero_le _) (by omega)
set_option maxRecDepth 20000 in
set_option maxHeartbeats 2000000 in
theorem c_X0_hasRun (wi si : Nat → Int32) (nu : Nat → Int64) (s : Nat) (f n : Int32) (hs : s < 4) (hz : inR (si s) 0 40) : RunD 0 yX0_hasRun cX0_hasRun 4 (some .boolean) [.ref 0, .int (nI s), .int f, .int n] (shW wi si nu) (some (.int (bI (hrun (si s) f n)))) (shW wi si nu) := by
  refine Runs.of (by decide) (Nat.le_of_ble_eq_true rfl) rfl ?_
  intro X g hret hnL
  have hq : 0 ≤ n.toInt → n.toInt ≤ (si s).toInt → (si s - n).toInt = (si s).toInt - n.toInt := subT hz
  refine v_iload_n (pc := 0) 2 g dX0_hasRun_0 rfl rfl ?_
  refine v_if_lt (pc := 1) 34 g dX0_hasRun_1 rfl (fun c1 => ?_) (fun c1 => ?_)
  · refine v_iconst (pc := 34) (v := 0) g dX0_hasRun_34 (by decide) ?_
    exact v_zret (pc := 35) g hret dX0_hasRun_35 (by first | exact nb1 | exact nb0 | exact nbI) (by first | (refine ⟨so1 ?_, rfl⟩; simp only [i_lt, i_le, i_eq, Int32.reduceToInt] at *; omega) | (refine ⟨so0 ?_, rfl⟩; simp only [i_lt, i_le, i_eq, Int32.reduceToInt] at *; omega))
  · refine v_iload_n (pc := 4) 3 g dX0_hasRun_4 rfl rfl ?_
    refine v_if_lt (pc := 5) 34 g dX0_hasRun_5 rfl (fun c5 => ?_) (fun c5 => ?_)
    · refine v_iconst (pc := 34) (v := 0) g dX0_hasRun_34 (by decide) ?_
      exact v_zret (pc := 35) g hret dX0_hasRun_35 (by first | exact nb1 | exact nb0 | exact nbI) (by first | (refine ⟨so1 ?_, rfl⟩; simp only [i_lt, i_le, i_eq, Int32.reduceToInt] at *; omega) | (refine ⟨so0 ?_, rfl⟩; simp only [i_lt, i_le, i_eq, Int32.reduceToInt] at *; omega))
    · refine v_iload_n (pc := 8) 3 g dX0_hasRun_8 rfl rfl ?_
      refine v_aload_n (pc := 9) 0 g dX0_hasRun_9 rfl rfl ?_
      refine v_get (pc := 10) g dX0_hasRun_10 fl_X0_15 rfl rfl ?_
      refine v_iload_n (pc := 13) 1 g dX0_hasRun_13 rfl rfl ?_
      refine v_ialdN (pc := 14) _ g dX0_hasRun_14 rfl rfl (by omega) (Nat.le_of_ble_eq_true rfl) ?_
      refine v_icmp_gt (pc := 15) 34 g dX0_hasRun_15 rfl (fun c15 => ?_) (fun c15 => ?_)
      · refine v_iconst (pc := 34) (v := 0) g dX0_hasRun_34 (by decide) ?_
        exact v_zret (pc := 35) g hret dX0_hasRun_35 (by first | exact nb1 | exact nb0 | exact nbI) (by first | (refine ⟨so1 ?_, rfl⟩; simp only [i_lt, i_le, i_eq, Int32.reduceToInt] at *; omega) | (refine ⟨so0 ?_, rfl⟩; simp only [i_lt, i_le, i_eq, Int32.reduceToInt] at *; omega))
      · refine v_iload_n (pc := 18) 2 g dX0_hasRun_18 rfl rfl ?_
        refine v_aload_n (pc := 19) 0 g dX0_hasRun_19 rfl rfl ?_
        refine v_get (pc := 20) g dX0_hasRun_20 fl_X0_15 rfl rfl ?_
        refine v_iload_n (pc := 23) 1 g dX0_hasRun_23 rfl rfl ?_
        refine v_ialdN (pc := 24) _ g dX0_hasRun_24 rfl rfl (by omega) (Nat.le_of_ble_eq_true rfl) ?_
        refine v_iload_n (pc := 25) 3 g dX0_hasRun_25 rfl rfl ?_
        refine v_isub (pc := 26) g dX0_hasRun_26 ?_
        refine v_icmp_gt (pc := 27) 34 g dX0_hasRun_27 rfl (fun c27 => ?_) (fun c27 => ?_)
        · refine v_iconst (pc := 34) (v := 0) g dX0_hasRun_34 (by decide) ?_
          exact v_zret (pc := 35) g hret dX0_hasRun_35 (by first | exact nb1 | exact nb0 | exact nbI) (by first | (refine ⟨so1 ?_, rfl⟩; simp only [i_lt, i_le, i_eq, Int32.reduceToInt] at *; omega) | (refine ⟨so0 ?_, rfl⟩; simp only [i_lt, i_le, i_eq, Int32.reduceToInt] at *; omega))
        · refine v_iconst (pc := 30) (v := 1) g dX0_hasRun_30 (by decide) ?_
          refine v_goto (pc := 31) 35 g dX0_hasRun_31 rfl ?_
          exact v_zret (pc := 35) g hret dX0_hasRun_35 (by first | exact nb1 | exact nb0 | exact nbI) (by first | (refine ⟨so1 ?_, rfl⟩; simp only [i_lt, i_le, i_eq, Int32.reduceToInt] at *; omega) | (refine ⟨so0 ?_, rfl⟩; simp only [i_lt, i_le, i_eq, Int32.reduceToInt] at *; omega))
set_option maxRecDepth 20000 in
set_option maxHeartbeats 2000000 in
theorem c_X0_move (wi si : Nat → Int32) (nu : Nat → Int64) (s i t j m : Nat) (hs : s < 4) (ht : t < 4) (hi : i + m ≤ 40) (hj : j + m ≤ 40) : RunD 1 yX0_move cX0_move 6 none [.ref 0, .int (nI s), .int (nI i), .int (nI t), .int (nI j), .int (nI m)] (shW wi si nu) (none) (shW wi si (va_cpy nu nu (40 * s + i) (40 * t + j) m)) := by
  refine Runs.of (by decide) (Nat.le_of_ble_eq_true rfl) rfl ?_
  intro X g hret hnL
  refine v_aload_n (pc := 0) 0 g dX0_move_0 rfl rfl ?_
  refine v_get (pc := 1) g dX0_move_1 fl_X0_18 rfl rfl ?_
  refine v_iload_n (pc := 4) 1 g dX0_move_4 rfl rfl ?_
  refine v_bipush (pc := 5) (v := 40) g dX0_move_5 (by decide) ?_
  refine v_imul (pc := 7) g dX0_move_7 ?_
  refine v_iload_n (pc := 8) 2 g dX0_move_8 rfl rfl ?_
  refine v_iadd (pc := 9) g dX0_move_9 ?_
  rw [ix_s]
  refine v_aload_n (pc := 10) 0 g dX0_move_10 rfl rfl ?_
  refine v_get (pc := 11) g dX0_move_11 fl_X0_18 rfl rfl ?_
  refine v_iload_n (pc := 14) 3 g dX0_move_14 rfl rfl ?_
  refine v_bipush (pc := 15) (v := 40) g dX0_move_15 (by decide) ?_
  refine v_imul (pc := 17) g dX0_move_17 ?_
  refine v_iload (pc := 18) g dX0_move_18 rfl ?_
  refine v_iadd (pc := 20) g dX0_move_20 ?_
  rw [ix_s]
  refine v_iload (pc := 21) g dX0_move_21 rfl ?_
  refine v_acJ (pc := 23) _ g dX0_move_23 lk_X0_26 (Nat.le_of_ble_eq_true rfl) rfl rfl (nI_pos (by omega)) (nI_pos (by omega)) (nI_pos (by omega)) (by rw [nI_clamp (by omega), nI_clamp (by omega)]; omega) (by rw [nI_clamp (by omega), nI_clamp (by omega)]; omega) (Nat.le_of_ble_eq_true rfl) rfl ?_
  exact v_vret (pc := 26) g hret dX0_move_26 (⟨rfl, by rw [nI_clamp (by omega), nI_clamp (by omega), nI_clamp (by omega)]; rfl⟩)
