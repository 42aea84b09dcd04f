/-! ===== the class: what its calls share ===== -/
set_option maxRecDepth 20000 in
set_option maxHeartbeats 2000000 in
theorem c_X4_isThere {S : St} {u0 : Int32} {T : St} {u1 : Int32} {K : St} {u2 : Int32} {tb : Nat → Int32} {tl : Nat} {ni : Int32} {ns : Int32} {ne : Int32} {nk : Int32} {nv : Int32} {wi : Nat → Int32} {si : Nat → Int32} {nu : Nat → Int64} {fn : Nat → Int32} {kp : Int32} (v : Int32) (hn : sN S ≤ 8) : RunD 1 yX4_isThere cX4_isThere 2 (some .boolean) [.ref 0, .int v] (xW S u0 T u1 K u2 tb tl ni ns ne nk nv wi si nu fn kp) (some (.int (bI (inR v 0 (sN S - 1))))) (xW S u0 T u1 K u2 tb tl ni ns ne nk nv wi si nu fn kp) := by
  refine Runs.of (by decide) (Nat.le_of_ble_eq_true rfl) rfl ?_
  intro X g hret hnL
  refine v_iload_n (pc := 0) 1 g dX4_isThere_0 rfl rfl ?_
  refine v_iconst (pc := 1) (v := 0) g dX4_isThere_1 (by decide) ?_
  refine v_aload_n (pc := 2) 0 g dX4_isThere_2 rfl rfl ?_
  refine v_get (pc := 3) g dX4_isThere_3 fl_X4_10 rfl rfl ?_
  refine v_get (pc := 6) g dX4_isThere_6 fl_X4_100 rfl rfl ?_
  refine v_iconst (pc := 9) (v := 1) g dX4_isThere_9 (by decide) ?_
  refine v_isub (pc := 10) g dX4_isThere_10 ?_
  refine v_cSd (pc := 11) g dX4_isThere_11 lk_X4_55 ((c_X4_within _ _ _ 0 (sN S - 1) rfl (by show (nI (sN S) - nI 1).toInt = _; rw [pk_sub_toInt (by omega) (by omega)]; rfl)).any rfl rfl _) (Nat.le_of_ble_eq_true rfl) rfl rfl (Nat.le_of_ble_eq_true rfl) ?_
  exact v_zret (pc := 14) g hret dX4_isThere_14 (by first | exact nb1 | exact nb0 | exact nbI) (⟨rfl, rfl⟩)
set_option maxRecDepth 20000 in
set_option maxHeartbeats 2000000 in
theorem c_X4_startTrial {S : St} {u0 : Int32} {T : St} {u1 : Int32} {K : St} {u2 : Int32} {tb : Nat → Int32} {tl : Nat} {ni : Int32} {ns : Int32} {ne : Int32} {nk : Int32} {nv : Int32} {wi : Nat → Int32} {si : Nat → Int32} {nu : Nat → Int64} {fn : Nat → Int32} {kp : Int32} : RunD 2 yX4_startTrial cX4_startTrial 1 none [.ref 0] (xW S u0 T u1 K u2 tb tl ni ns ne nk nv wi si nu fn kp) (none) (xW S u0 S u1 K u2 tb tl ni ns ne nk nv wi si nu fn kp) := by
  refine Runs.of (by decide) (Nat.le_of_ble_eq_true rfl) rfl ?_
  intro X g hret hnL
  refine v_aload_n (pc := 0) 0 g dX4_startTrial_0 rfl rfl ?_
  refine v_get (pc := 1) g dX4_startTrial_1 fl_X4_16 rfl rfl ?_
  refine v_aload_n (pc := 4) 0 g dX4_startTrial_4 rfl rfl ?_
  refine v_get (pc := 5) g dX4_startTrial_5 fl_X4_10 rfl rfl ?_
  refine v_cVd (pc := 8) g dX4_startTrial_8 lk_X4_200 (xb_TS) (Nat.le_of_ble_eq_true rfl) rfl rfl rfl rfl (Nat.le_of_ble_eq_true rfl) ?_
  exact v_vret (pc := 11) g hret dX4_startTrial_11 (⟨rfl, rfl⟩)
set_option maxRecDepth 20000 in
set_option maxHeartbeats 2000000 in
theorem c_X4_tell {S : St} {u0 : Int32} {T : St} {u1 : Int32} {K : St} {u2 : Int32} {tb : Nat → Int32} {tl : Nat} {ni : Int32} {ns : Int32} {ne : Int32} {nk : Int32} {nv : Int32} {wi : Nat → Int32} {si : Nat → Int32} {nu : Nat → Int64} {fn : Nat → Int32} {kp : Int32} (k : Nat) (v : Int32) (hk : k < 7) (hv : v = Int32.ofInt (-1000000001 - k)) : RunD 1 yX4_tell cX4_tell 3 (some .int) [.ref 0, .int v] (xW S u0 T u1 K u2 tb tl ni ns ne nk nv wi si nu fn kp) (some (.int v)) (xW S u0 T u1 K u2 tb tl ni ns ne nk nv wi si nu (fdn fn k) kp) := by
  refine Runs.of (by decide) (Nat.le_of_ble_eq_true rfl) rfl ?_
  intro X g hret hnL
  refine v_ldc (pc := 0) g dX4_tell_0 co_X4_63 ?_
  refine v_iload_n (pc := 2) 1 g dX4_tell_2 rfl rfl ?_
  refine v_isub (pc := 3) g dX4_tell_3 ?_
  rw [show (-1000000001 : Int32) - v = nI k by rw [hv]; exact fd_ix hk]
  refine v_istore_n (pc := 4) 2 _ g dX4_tell_4 rfl (Nat.le_of_ble_eq_true rfl) hnL.symm rfl ?_
  refine v_iload_n (pc := 5) 2 g dX4_tell_5 rfl rfl ?_
  refine v_iconst (pc := 6) (v := 0) g dX4_tell_6 (by decide) ?_
  refine v_bipush (pc := 7) (v := 6) g dX4_tell_7 (by decide) ?_
  refine v_cSd (pc := 9) g dX4_tell_9 lk_X4_55 ((c_X4_within _ _ _ 0 6 rfl rfl).any rfl rfl _) (Nat.le_of_ble_eq_true rfl) rfl rfl (Nat.le_of_ble_eq_true rfl) ?_
  refine v_ifb_eq (pc := 12) 25 g dX4_tell_12 rfl (fun c12 => ?_) (fun c12 => ?_)
  · exact absurd (inR_nI (m := 6) (by omega) (by omega)) c12
  · refine v_aload_n (pc := 15) 0 g dX4_tell_15 rfl rfl ?_
    refine v_get (pc := 16) g dX4_tell_16 fl_X4_43 rfl rfl ?_
    refine v_iload_n (pc := 19) 2 g dX4_tell_19 rfl rfl ?_
    refine v_dup2 (pc := 20) g dX4_tell_20 rfl rfl ?_
    refine v_ialdN (pc := 21) _ g dX4_tell_21 rfl rfl hk (Nat.le_of_ble_eq_true rfl) ?_
    refine v_iconst (pc := 22) (v := 1) g dX4_tell_22 (by decide) ?_
    refine v_iadd (pc := 23) g dX4_tell_23 ?_
    refine v_iastN (pc := 24) _ _ g dX4_tell_24 rfl rfl hk (Nat.le_of_ble_eq_true rfl) rfl ?_
    refine v_iload_n (pc := 25) 1 g dX4_tell_25 rfl rfl ?_
    exact v_iret (pc := 26) g hret dX4_tell_26 (⟨rfl, rfl⟩)
