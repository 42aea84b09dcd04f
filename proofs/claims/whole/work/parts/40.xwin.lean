/-! ===== the class: winter ===== -/
theorem o_some {o : Option St} (h : o.isSome = true) : ∃ S, o = some S := by
  cases o with
  | none => cases h
  | some S => exact ⟨S, rfl⟩
theorem o_none {o : Option St} (h : ¬ o.isSome = true) : o = none := by
  cases o with
  | none => rfl
  | some S => exact absurd rfl h
set_option maxRecDepth 20000 in
set_option maxHeartbeats 2000000 in
theorem xt_tellAll {S : St} {u0 : Int32} {T : St} {u1 : Int32} {K : St} {u2 : Int32} {tb : Nat → Int32} {tl : Nat} {ni : Int32} {ns : Int32} {ne : Int32} {nk : Int32} {nv : Int32} {wi : Nat → Int32} {si : Nat → Int32} {nu : Nat → Int64} {fn : Nat → Int32} {kp : Int32} (hR : tpR tb) (hl : tl ≤ 120) (h8 : sN T ≤ 8) : Runs 8 yX3_tellAll cX3_tellAll 4 (some .boolean) [.ref 33, .ref 31, .ref 11] (xW S u0 T u1 K u2 tb tl ni ns ne nk nv wi si nu fn kp) (fun r0 w0 => ∃ i1 n1 e1 k1 v1 s1, r0 = some (.int (bI ((a_24 T tb tl).1.isSome = true))) ∧ (∀ S1, (a_24 T tb tl).1 = some S1 → s1 = S1 ∧ (a_24 T tb tl).2 = i1) ∧ ((a_24 T tb tl).1 = none → (a_24 T tb tl).2 = -1 - n1) ∧ w0 = xW S u0 s1 u1 K u2 tb tl i1 n1 e1 k1 v1 wi si nu fn kp) := by
  refine (Runs.lift (w := xW S u0 T u1 K u2 tb tl ni ns ne nk nv wi si nu fn kp) [33, 31, 32, 11, 12, 13, 14, 15, 16, 17, 18, 19, 20] (c_X3_tellAll (ni := ni) (ns := ns) (ne := ne) (nk := nk) (nv := nv) (s := T) (we := u1) hR hl h8) rfl (by decide +kernel) (by decide) rfl).post ?_
  rintro r0 w0 ⟨r1, w1, ⟨i1, n1, e1, k1, v1, s1, rfl, h2, h3, rfl⟩, -, rfl, rfl⟩
  exact ⟨i1, n1, e1, k1, v1, s1, rfl, h2, h3, rfl⟩
set_option maxRecDepth 20000 in
set_option maxHeartbeats 2000000 in
theorem c_X4_winter {S : St} {u0 : Int32} {T : St} {u1 : Int32} {K : St} {u2 : Int32} {tb : Nat → Int32} {tl : Nat} {ni : Int32} {ns : Int32} {ne : Int32} {nk : Int32} {nv : Int32} {wi : Nat → Int32} {si : Nat → Int32} {nu : Nat → Int64} {fn : Nat → Int32} {kp : Int32} (hI : Inv S) (hR : tpR tb) (hl : tl ≤ 120) : Runs 9 yX4_winter cX4_winter 2 (some .int) [.ref 0] (xW S u0 T u1 K u2 tb tl ni ns ne nk nv wi si nu fn kp) (fun r0 w0 => ∃ T1 i1 n1 e1 k1 v1, r0 = some (.int (r_24 S tb tl)) ∧ w0 = xW (s_24 S tb tl) u0 T1 u1 K u2 tb 0 i1 n1 e1 k1 v1 wi si nu fn kp) := by
  refine Runs.of (by decide) (Nat.le_of_ble_eq_true rfl) rfl ?_
  intro X g hret hnL
  refine v_aload_n (pc := 0) 0 g dX4_winter_0 rfl rfl ?_
  refine v_cVd (pc := 1) g dX4_winter_1 lk_X4_158 (c_X4_startTrial) (Nat.le_of_ble_eq_true rfl) rfl rfl rfl rfl (Nat.le_of_ble_eq_true rfl) ?_
  refine v_aload_n (pc := 4) 0 g dX4_winter_4 rfl rfl ?_
  refine v_get (pc := 5) g dX4_winter_5 fl_X4_32 rfl rfl ?_
  refine v_aload_n (pc := 8) 0 g dX4_winter_8 rfl rfl ?_
  refine v_get (pc := 9) g dX4_winter_9 fl_X4_25 rfl rfl ?_
  refine v_aload_n (pc := 12) 0 g dX4_winter_12 rfl rfl ?_
  refine v_get (pc := 13) g dX4_winter_13 fl_X4_16 rfl rfl ?_
  refine v_cV (pc := 16) g dX4_winter_16 lk_X4_193 (Nat.le_of_ble_eq_true rfl) (xt_tellAll hR hl hI.n) rfl rfl rfl rfl (Nat.le_of_ble_eq_true rfl) (fun r1 w1 hq => ?_)
  obtain ⟨i1, n1, e1, k1, v1, s1, rfl, h2, h3, rfl⟩ := hq
  refine v_istore_n (pc := 19) 1 _ g dX4_winter_19 rfl (Nat.le_of_ble_eq_true rfl) hnL.symm rfl ?_
  refine v_aload_n (pc := 20) 0 g dX4_winter_20 rfl rfl ?_
  refine v_get (pc := 21) g dX4_winter_21 fl_X4_25 rfl rfl ?_
  refine v_iconst (pc := 24) (v := 0) g dX4_winter_24 (by decide) ?_
  refine v_put (pc := 25) _ g dX4_winter_25 fp_X4_187 rfl (Nat.le_of_ble_eq_true rfl) rfl rfl rfl rfl ?_
  refine v_w (xW S u0 s1 u1 K u2 tb 0 i1 n1 e1 k1 v1 wi si nu fn kp) rfl ?_
  refine v_iload_n (pc := 28) 1 g dX4_winter_28 rfl rfl ?_
  refine v_ifb_ne (pc := 29) 42 g dX4_winter_29 rfl (fun c29 => ?_) (fun c29 => ?_)
  · obtain ⟨S1, hS1⟩ := o_some c29
    obtain ⟨rfl, e2⟩ := h2 S1 hS1
    refine v_aload_n (pc := 42) 0 g dX4_winter_42 rfl rfl ?_
    refine v_get (pc := 43) g dX4_winter_43 fl_X4_10 rfl rfl ?_
    refine v_aload_n (pc := 46) 0 g dX4_winter_46 rfl rfl ?_
    refine v_get (pc := 47) g dX4_winter_47 fl_X4_16 rfl rfl ?_
    refine v_cVd (pc := 50) g dX4_winter_50 lk_X4_200 (xb_ST) (Nat.le_of_ble_eq_true rfl) rfl rfl rfl rfl (Nat.le_of_ble_eq_true rfl) ?_
    refine v_aload_n (pc := 53) 0 g dX4_winter_53 rfl rfl ?_
    refine v_get (pc := 54) g dX4_winter_54 fl_X4_32 rfl rfl ?_
    refine v_get (pc := 57) g dX4_winter_57 fl_X4_204 rfl rfl ?_
    exact v_iret (pc := 60) g hret dX4_winter_60 (⟨_, _, _, _, _, _, so_i (by unfold r_24; rw [e2]), by unfold s_24; rw [hS1]; rfl⟩)
  · have hN := o_none c29
    refine v_iconst (pc := 32) (v := (-1)) g dX4_winter_32 (by decide) ?_
    refine v_aload_n (pc := 33) 0 g dX4_winter_33 rfl rfl ?_
    refine v_get (pc := 34) g dX4_winter_34 fl_X4_32 rfl rfl ?_
    refine v_get (pc := 37) g dX4_winter_37 fl_X4_197 rfl rfl ?_
    refine v_isub (pc := 40) g dX4_winter_40 ?_
    exact v_iret (pc := 41) g hret dX4_winter_41 (⟨_, _, _, _, _, _, so_i (by unfold r_24; rw [h3 hN]), by unfold s_24; rw [hN]; rfl⟩)
