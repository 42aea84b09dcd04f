/-! ===== what each call answers, III: AHEAD ===== -/
def fst (P : Nat → Bool) : Nat → Nat → Option Nat
  | 0, _ => none
  | k + 1, n => if P n = true then some n else fst P k (n + 1)
theorem fst_t {P : Nat → Bool} {m k : Nat} (hk : k < m) (h : P k = true) : fst P (m - k) k = some k := by
  rw [show m - k = (m - k - 1) + 1 by omega, fst, if_pos h]
theorem fst_f {P : Nat → Bool} {m k : Nat} (hk : k < m) (h : P k = false) : fst P (m - k) k = fst P (m - (k + 1)) (k + 1) := by
  rw [show m - k = (m - (k + 1)) + 1 by omega, fst, if_neg (by rw [h]; exact Bool.false_ne_true)]
theorem fst_e {P : Nat → Bool} {m k : Nat} (hk : m ≤ k) : fst P (m - k) k = none := by
  rw [show m - k = 0 by omega]; rfl
def oI (o : Option Nat) : Int32 := match o with
  | some n => nI n
  | none => -1000000004
def oF (o : Option Nat) (fn : Nat → Int32) : Nat → Int32 := match o with
  | some _ => fn
  | none => fdn fn 3
def o1 (o : Option Nat) : Option Nat := o.map (fun n => n + 1)
abbrev C12 (h v : Int32) : Prop := inR h 0 11 ∧ inR v 0 1
def lP (S : St) (v : Int32) (h n : Nat) : Bool := decide (bI (0 < sLa (minN S n) h) = bI (v = 1))
def a_12 (S : St) (h v : Int32) : Option Nat := fst (lP S v h.toNatClampNeg) 201 0
def r_12 (S : St) (h v : Int32) : Int32 := if C12 h v then oI (a_12 S h v) else -1000000001
def f_12 (S : St) (fn : Nat → Int32) (h v : Int32) : Nat → Int32 := if C12 h v then oF (a_12 S h v) fn else fdn fn 0
def gP (S : St) (p n : Nat) : Bool := decide (bitK (mdue (minN S n)) (nI p))
def a_13 (S : St) (p : Int32) : Option Nat := o1 (fst (gP S p.toNatClampNeg) 200 0)
def r_13 (S : St) (p : Int32) : Int32 := if isP S p then oI (a_13 S p) else -1000000001
def f_13 (S : St) (fn : Nat → Int32) (p : Int32) : Nat → Int32 := if isP S p then oF (a_13 S p) fn else fdn fn 0
def wP (S : St) (n : Nat) : Bool := decide (coldAll (minN S n) = 0)
def a_14 (S : St) : Option Nat := fst (wP S) 201 0
/-! ===== the class: AHEAD ===== -/
set_option maxRecDepth 20000 in
set_option maxHeartbeats 2000000 in
theorem c_X4_on {S : St} {u0 : Int32} {T : St} {u1 : Int32} {K : St} {u2 : Int32} {tb : Nat → Int32} {tl : Nat} {ni : Int32} {ns : Int32} {ne : Int32} {nk : Int32} {nv : Int32} {wi : Nat → Int32} {si : Nat → Int32} {nu : Nat → Int64} {fn : Nat → Int32} {kp : Int32} (p n w : Int32) (hI : Inv S) : Runs 5 yX4_on cX4_on 4 (some .int) [.ref 0, .int p, .int n, .int w] (xW S u0 T u1 K u2 tb tl ni ns ne nk nv wi si nu fn kp) (fun r0 w0 => ∃ T1 v1, r0 = some (.int (r_10 S p n w)) ∧ w0 = xW S u0 T1 v1 K u2 tb tl ni ns ne nk nv wi si nu (fdI (C10 S p n w) fn 0) kp) := by
  refine Runs.of (by decide) (Nat.le_of_ble_eq_true rfl) rfl ?_
  intro X g hret hnL
  refine v_aload_n (pc := 0) 0 g dX4_on_0 rfl rfl ?_
  refine v_iload_n (pc := 1) 1 g dX4_on_1 rfl rfl ?_
  refine v_cVd (pc := 2) g dX4_on_2 lk_X4_108 (c_X4_isThere _ hI.n) (Nat.le_of_ble_eq_true rfl) rfl rfl rfl rfl (Nat.le_of_ble_eq_true rfl) ?_
  refine v_ifb_eq (pc := 5) 28 g dX4_on_5 rfl (fun c5 => ?_) (fun c5 => ?_)
  · refine v_aload_n (pc := 28) 0 g dX4_on_28 rfl rfl ?_
    refine v_ldc (pc := 29) g dX4_on_29 co_X4_63 ?_
    refine v_cVd (pc := 31) g dX4_on_31 lk_X4_64 (c_X4_tell 0 (-1000000001) (by decide) (by decide)) (Nat.le_of_ble_eq_true rfl) rfl rfl rfl rfl (Nat.le_of_ble_eq_true rfl) ?_
    exact v_iret (pc := 34) g hret dX4_on_34 (⟨_, _, so_i (by unfold r_10; rw [if_neg (by omega)]), by unfold fdI; rw [if_neg (by omega)]⟩)
  · refine v_iload_n (pc := 8) 2 g dX4_on_8 rfl rfl ?_
    refine v_iconst (pc := 9) (v := 0) g dX4_on_9 (by decide) ?_
    refine v_sipush (pc := 10) (v := 200) g dX4_on_10 (by decide) ?_
    refine v_cSd (pc := 13) g dX4_on_13 lk_X4_55 ((c_X4_within _ _ _ 0 200 rfl rfl).any rfl rfl _) (Nat.le_of_ble_eq_true rfl) rfl rfl (Nat.le_of_ble_eq_true rfl) ?_
    refine v_ifb_eq (pc := 16) 28 g dX4_on_16 rfl (fun c16 => ?_) (fun c16 => ?_)
    · refine v_aload_n (pc := 28) 0 g dX4_on_28 rfl rfl ?_
      refine v_ldc (pc := 29) g dX4_on_29 co_X4_63 ?_
      refine v_cVd (pc := 31) g dX4_on_31 lk_X4_64 (c_X4_tell 0 (-1000000001) (by decide) (by decide)) (Nat.le_of_ble_eq_true rfl) rfl rfl rfl rfl (Nat.le_of_ble_eq_true rfl) ?_
      exact v_iret (pc := 34) g hret dX4_on_34 (⟨_, _, so_i (by unfold r_10; rw [if_neg (by omega)]), by unfold fdI; rw [if_neg (by omega)]⟩)
    · refine v_iload_n (pc := 19) 3 g dX4_on_19 rfl rfl ?_
      refine v_iconst (pc := 20) (v := 0) g dX4_on_20 (by decide) ?_
      refine v_iconst (pc := 21) (v := 2) g dX4_on_21 (by decide) ?_
      refine v_cSd (pc := 22) g dX4_on_22 lk_X4_55 ((c_X4_within _ _ _ 0 2 rfl rfl).any rfl rfl _) (Nat.le_of_ble_eq_true rfl) rfl rfl (Nat.le_of_ble_eq_true rfl) ?_
      refine v_ifb_ne (pc := 25) 35 g dX4_on_25 rfl (fun c25 => ?_) (fun c25 => ?_)
      · have hC : C10 S p n w := ⟨c5, c16, c25⟩
        obtain ⟨i, hi, rfl⟩ := (show isP S p from c5).nat hI.n
        have ei : (nI i).toNatClampNeg = i := nI_clamp (by have := hI.n; omega)
        obtain ⟨m, hm, rfl⟩ := c16.nat (m := 200) (by omega)
        have em : (nI m).toNatClampNeg = m := nI_clamp (by omega)
        refine v_aload_n (pc := 35) 0 g dX4_on_35 rfl rfl ?_
        refine v_cVd (pc := 36) g dX4_on_36 lk_X4_158 (c_X4_startTrial) (Nat.le_of_ble_eq_true rfl) rfl rfl rfl rfl (Nat.le_of_ble_eq_true rfl) ?_
        refine v_aload_n (pc := 39) 0 g dX4_on_39 rfl rfl ?_
        refine v_get (pc := 40) g dX4_on_40 fl_X4_16 rfl rfl ?_
        refine v_iload_n (pc := 43) 2 g dX4_on_43 rfl rfl ?_
        refine v_cVd (pc := 44) g dX4_on_44 lk_X4_154 (xt_goMinutes m hI (by omega)) (Nat.le_of_ble_eq_true rfl) rfl rfl rfl rfl (Nat.le_of_ble_eq_true rfl) ?_
        rcases (show w.toInt = 0 ∨ w.toInt = 1 ∨ w.toInt = 2 by omega) with hw | hw | hw
        · refine v_aload_n (pc := 47) 0 g dX4_on_47 rfl rfl ?_
          refine v_get (pc := 48) g dX4_on_48 fl_X4_16 rfl rfl ?_
          refine v_iload_n (pc := 51) 3 g dX4_on_51 rfl rfl ?_
          refine v_iconst (pc := 52) (v := 3) g dX4_on_52 (by decide) ?_
          refine v_iadd (pc := 53) g dX4_on_53 ?_
          refine v_cVd (pc := 54) g dX4_on_54 lk_X4_144 (xt_sneezerRow3 _ (by obtain ⟨a, ha, rfl⟩ := c25.nat (m := 2) (by omega); rw [show nI a + 3 = nI (a + 3) from nI_add a 3, nI_toInt (by omega)]; rw [nI_toInt (by omega)] at hw; omega)) (Nat.le_of_ble_eq_true rfl) rfl rfl rfl rfl (Nat.le_of_ble_eq_true rfl) ?_
          refine v_iload_n (pc := 57) 1 g dX4_on_57 rfl rfl ?_
          refine v_ialdN (pc := 58) _ g dX4_on_58 rfl rfl (by have := hI.n; omega) (Nat.le_of_ble_eq_true rfl) ?_
          exact v_iret (pc := 59) g hret dX4_on_59 (⟨_, _, so_i (by unfold r_10; rw [if_pos hC, ei, em]; simp only [hw, reduceIte, Int.reduceEq]; try rfl), by unfold fdI; rw [if_pos hC]; try rfl⟩)
        · refine v_aload_n (pc := 47) 0 g dX4_on_47 rfl rfl ?_
          refine v_get (pc := 48) g dX4_on_48 fl_X4_16 rfl rfl ?_
          refine v_iload_n (pc := 51) 3 g dX4_on_51 rfl rfl ?_
          refine v_iconst (pc := 52) (v := 3) g dX4_on_52 (by decide) ?_
          refine v_iadd (pc := 53) g dX4_on_53 ?_
          refine v_cVd (pc := 54) g dX4_on_54 lk_X4_144 (xt_sneezerRow4 _ (by obtain ⟨a, ha, rfl⟩ := c25.nat (m := 2) (by omega); rw [show nI a + 3 = nI (a + 3) from nI_add a 3, nI_toInt (by omega)]; rw [nI_toInt (by omega)] at hw; omega)) (Nat.le_of_ble_eq_true rfl) rfl rfl rfl rfl (Nat.le_of_ble_eq_true rfl) ?_
          refine v_iload_n (pc := 57) 1 g dX4_on_57 rfl rfl ?_
          refine v_ialdN (pc := 58) _ g dX4_on_58 rfl rfl (by have := hI.n; omega) (Nat.le_of_ble_eq_true rfl) ?_
          exact v_iret (pc := 59) g hret dX4_on_59 (⟨_, _, so_i (by unfold r_10; rw [if_pos hC, ei, em]; simp only [hw, reduceIte, Int.reduceEq]; try rfl), by unfold fdI; rw [if_pos hC]; try rfl⟩)
        · refine v_aload_n (pc := 47) 0 g dX4_on_47 rfl rfl ?_
          refine v_get (pc := 48) g dX4_on_48 fl_X4_16 rfl rfl ?_
          refine v_iload_n (pc := 51) 3 g dX4_on_51 rfl rfl ?_
          refine v_iconst (pc := 52) (v := 3) g dX4_on_52 (by decide) ?_
          refine v_iadd (pc := 53) g dX4_on_53 ?_
          refine v_cVd (pc := 54) g dX4_on_54 lk_X4_144 (xt_sneezerRow5 _ (by obtain ⟨a, ha, rfl⟩ := c25.nat (m := 2) (by omega); rw [show nI a + 3 = nI (a + 3) from nI_add a 3, nI_toInt (by omega)]; rw [nI_toInt (by omega)] at hw; omega)) (Nat.le_of_ble_eq_true rfl) rfl rfl rfl rfl (Nat.le_of_ble_eq_true rfl) ?_
          refine v_iload_n (pc := 57) 1 g dX4_on_57 rfl rfl ?_
          refine v_ialdN (pc := 58) _ g dX4_on_58 rfl rfl (by have := hI.n; omega) (Nat.le_of_ble_eq_true rfl) ?_
          exact v_iret (pc := 59) g hret dX4_on_59 (⟨_, _, so_i (by unfold r_10; rw [if_pos hC, ei, em]; simp only [hw, reduceIte, Int.reduceEq]; try rfl), by unfold fdI; rw [if_pos hC]; try rfl⟩)
      · refine v_aload_n (pc := 28) 0 g dX4_on_28 rfl rfl ?_
        refine v_ldc (pc := 29) g dX4_on_29 co_X4_63 ?_
        refine v_cVd (pc := 31) g dX4_on_31 lk_X4_64 (c_X4_tell 0 (-1000000001) (by decide) (by decide)) (Nat.le_of_ble_eq_true rfl) rfl rfl rfl rfl (Nat.le_of_ble_eq_true rfl) ?_
        exact v_iret (pc := 34) g hret dX4_on_34 (⟨_, _, so_i (by unfold r_10; rw [if_neg (by omega)]), by unfold fdI; rw [if_neg (by omega)]⟩)
set_option maxRecDepth 20000 in
set_option maxHeartbeats 2000000 in
theorem c_X4_then {S : St} {u0 : Int32} {T : St} {u1 : Int32} {K : St} {u2 : Int32} {tb : Nat → Int32} {tl : Nat} {ni : Int32} {ns : Int32} {ne : Int32} {nk : Int32} {nv : Int32} {wi : Nat → Int32} {si : Nat → Int32} {nu : Nat → Int64} {fn : Nat → Int32} {kp : Int32} (h n w : Int32) (hI : Inv S) : Runs 5 yX4_then cX4_then 4 (some .int) [.ref 0, .int h, .int n, .int w] (xW S u0 T u1 K u2 tb tl ni ns ne nk nv wi si nu fn kp) (fun r0 w0 => ∃ T1 v1, r0 = some (.int (r_11 S h n w)) ∧ w0 = xW S u0 T1 v1 K u2 tb tl ni ns ne nk nv wi si nu (fdI (C11 h n w) fn 0) kp) := by
  refine Runs.of (by decide) (Nat.le_of_ble_eq_true rfl) rfl ?_
  intro X g hret hnL
  refine v_iload_n (pc := 0) 1 g dX4_then_0 rfl rfl ?_
  refine v_cSd (pc := 1) g dX4_then_1 lk_X4_51 ((c_X4_isHouse _).any rfl rfl _) (Nat.le_of_ble_eq_true rfl) rfl rfl (Nat.le_of_ble_eq_true rfl) ?_
  refine v_ifb_eq (pc := 4) 27 g dX4_then_4 rfl (fun c4 => ?_) (fun c4 => ?_)
  · refine v_aload_n (pc := 27) 0 g dX4_then_27 rfl rfl ?_
    refine v_ldc (pc := 28) g dX4_then_28 co_X4_63 ?_
    refine v_cVd (pc := 30) g dX4_then_30 lk_X4_64 (c_X4_tell 0 (-1000000001) (by decide) (by decide)) (Nat.le_of_ble_eq_true rfl) rfl rfl rfl rfl (Nat.le_of_ble_eq_true rfl) ?_
    exact v_iret (pc := 33) g hret dX4_then_33 (⟨_, _, so_i (by unfold r_11; rw [if_neg (by omega)]), by unfold fdI; rw [if_neg (by omega)]⟩)
  · refine v_iload_n (pc := 7) 2 g dX4_then_7 rfl rfl ?_
    refine v_iconst (pc := 8) (v := 0) g dX4_then_8 (by decide) ?_
    refine v_sipush (pc := 9) (v := 200) g dX4_then_9 (by decide) ?_
    refine v_cSd (pc := 12) g dX4_then_12 lk_X4_55 ((c_X4_within _ _ _ 0 200 rfl rfl).any rfl rfl _) (Nat.le_of_ble_eq_true rfl) rfl rfl (Nat.le_of_ble_eq_true rfl) ?_
    refine v_ifb_eq (pc := 15) 27 g dX4_then_15 rfl (fun c15 => ?_) (fun c15 => ?_)
    · refine v_aload_n (pc := 27) 0 g dX4_then_27 rfl rfl ?_
      refine v_ldc (pc := 28) g dX4_then_28 co_X4_63 ?_
      refine v_cVd (pc := 30) g dX4_then_30 lk_X4_64 (c_X4_tell 0 (-1000000001) (by decide) (by decide)) (Nat.le_of_ble_eq_true rfl) rfl rfl rfl rfl (Nat.le_of_ble_eq_true rfl) ?_
      exact v_iret (pc := 33) g hret dX4_then_33 (⟨_, _, so_i (by unfold r_11; rw [if_neg (by omega)]), by unfold fdI; rw [if_neg (by omega)]⟩)
    · refine v_iload_n (pc := 18) 3 g dX4_then_18 rfl rfl ?_
      refine v_iconst (pc := 19) (v := 0) g dX4_then_19 (by decide) ?_
      refine v_iconst (pc := 20) (v := 1) g dX4_then_20 (by decide) ?_
      refine v_cSd (pc := 21) g dX4_then_21 lk_X4_55 ((c_X4_within _ _ _ 0 1 rfl rfl).any rfl rfl _) (Nat.le_of_ble_eq_true rfl) rfl rfl (Nat.le_of_ble_eq_true rfl) ?_
      refine v_ifb_ne (pc := 24) 34 g dX4_then_24 rfl (fun c24 => ?_) (fun c24 => ?_)
      · have hC : C11 h n w := ⟨c4, c15, c24⟩
        obtain ⟨i, hi, rfl⟩ := c4.nat (m := 11) (by omega)
        have ei : (nI i).toNatClampNeg = i := nI_clamp (by omega)
        obtain ⟨m, hm, rfl⟩ := c15.nat (m := 200) (by omega)
        have em : (nI m).toNatClampNeg = m := nI_clamp (by omega)
        refine v_aload_n (pc := 34) 0 g dX4_then_34 rfl rfl ?_
        refine v_cVd (pc := 35) g dX4_then_35 lk_X4_158 (c_X4_startTrial) (Nat.le_of_ble_eq_true rfl) rfl rfl rfl rfl (Nat.le_of_ble_eq_true rfl) ?_
        refine v_aload_n (pc := 38) 0 g dX4_then_38 rfl rfl ?_
        refine v_get (pc := 39) g dX4_then_39 fl_X4_16 rfl rfl ?_
        refine v_iload_n (pc := 42) 2 g dX4_then_42 rfl rfl ?_
        refine v_cVd (pc := 43) g dX4_then_43 lk_X4_154 (xt_goMinutes m hI (by omega)) (Nat.le_of_ble_eq_true rfl) rfl rfl rfl rfl (Nat.le_of_ble_eq_true rfl) ?_
        refine v_iload_n (pc := 46) 3 g dX4_then_46 rfl rfl ?_
        refine v_if_ne (pc := 47) 62 g dX4_then_47 rfl (fun c47 => ?_) (fun c47 => ?_)
        · have hw : ¬ w.toInt = 0 := fun z => c47 (by rw [i_eq]; exact z)
          refine v_aload_n (pc := 62) 0 g dX4_then_62 rfl rfl ?_
          refine v_get (pc := 63) g dX4_then_63 fl_X4_16 rfl rfl ?_
          refine v_get (pc := 66) g dX4_then_66 fl_X4_164 rfl rfl ?_
          refine v_iload_n (pc := 69) 1 g dX4_then_69 rfl rfl ?_
          refine v_ialdN (pc := 70) _ g dX4_then_70 rfl rfl (by omega) (Nat.le_of_ble_eq_true rfl) ?_
          exact v_iret (pc := 71) g hret dX4_then_71 (⟨_, _, so_i (by unfold r_11; rw [if_pos hC, ei, em]; first | rw [if_pos hw] | rw [if_neg hw]), by unfold fdI; rw [if_pos hC]; try rfl⟩)
        · have hw : w.toInt = 0 := by rw [c47]; rfl
          refine v_aload_n (pc := 50) 0 g dX4_then_50 rfl rfl ?_
          refine v_get (pc := 51) g dX4_then_51 fl_X4_16 rfl rfl ?_
          refine v_get (pc := 54) g dX4_then_54 fl_X4_161 rfl rfl ?_
          refine v_iload_n (pc := 57) 1 g dX4_then_57 rfl rfl ?_
          refine v_ialdN (pc := 58) _ g dX4_then_58 rfl rfl (by omega) (Nat.le_of_ble_eq_true rfl) ?_
          refine v_goto (pc := 59) 71 g dX4_then_59 rfl ?_
          exact v_iret (pc := 71) g hret dX4_then_71 (⟨_, _, so_i (by unfold r_11; rw [if_pos hC, ei, em]; first | rw [if_pos hw] | rw [if_neg hw]), by unfold fdI; rw [if_pos hC]; try rfl⟩)
      · refine v_aload_n (pc := 27) 0 g dX4_then_27 rfl rfl ?_
        refine v_ldc (pc := 28) g dX4_then_28 co_X4_63 ?_
        refine v_cVd (pc := 30) g dX4_then_30 lk_X4_64 (c_X4_tell 0 (-1000000001) (by decide) (by decide)) (Nat.le_of_ble_eq_true rfl) rfl rfl rfl rfl (Nat.le_of_ble_eq_true rfl) ?_
        exact v_iret (pc := 33) g hret dX4_then_33 (⟨_, _, so_i (by unfold r_11; rw [if_neg (by omega)]), by unfold fdI; rw [if_neg (by omega)]⟩)
set_option maxRecDepth 20000 in
set_option maxHeartbeats 2000000 in
theorem c_X4_lit {S : St} {u0 : Int32} {T : St} {u1 : Int32} {K : St} {u2 : Int32} {tb : Nat → Int32} {tl : Nat} {ni : Int32} {ns : Int32} {ne : Int32} {nk : Int32} {nv : Int32} {wi : Nat → Int32} {si : Nat → Int32} {nu : Nat → Int64} {fn : Nat → Int32} {kp : Int32} (h v : Int32) (hI : Inv S) : Runs 4 yX4_lit cX4_lit 4 (some .int) [.ref 0, .int h, .int v] (xW S u0 T u1 K u2 tb tl ni ns ne nk nv wi si nu fn kp) (fun r0 w0 => ∃ T1 v1, r0 = some (.int (r_12 S h v)) ∧ w0 = xW S u0 T1 v1 K u2 tb tl ni ns ne nk nv wi si nu (f_12 S fn h v) kp) := by
  refine Runs.of (by decide) (Nat.le_of_ble_eq_true rfl) rfl ?_
  intro X g hret hnL
  refine v_iload_n (pc := 0) 1 g dX4_lit_0 rfl rfl ?_
  refine v_cSd (pc := 1) g dX4_lit_1 lk_X4_51 ((c_X4_isHouse _).any rfl rfl _) (Nat.le_of_ble_eq_true rfl) rfl rfl (Nat.le_of_ble_eq_true rfl) ?_
  refine v_ifb_eq (pc := 4) 16 g dX4_lit_4 rfl (fun c4 => ?_) (fun c4 => ?_)
  · refine v_aload_n (pc := 16) 0 g dX4_lit_16 rfl rfl ?_
    refine v_ldc (pc := 17) g dX4_lit_17 co_X4_63 ?_
    refine v_cVd (pc := 19) g dX4_lit_19 lk_X4_64 (c_X4_tell 0 (-1000000001) (by decide) (by decide)) (Nat.le_of_ble_eq_true rfl) rfl rfl rfl rfl (Nat.le_of_ble_eq_true rfl) ?_
    exact v_iret (pc := 22) g hret dX4_lit_22 (⟨_, _, so_i (by unfold r_12; rw [if_neg (by omega)]), by unfold f_12; rw [if_neg (by omega)]⟩)
  · refine v_iload_n (pc := 7) 2 g dX4_lit_7 rfl rfl ?_
    refine v_iconst (pc := 8) (v := 0) g dX4_lit_8 (by decide) ?_
    refine v_iconst (pc := 9) (v := 1) g dX4_lit_9 (by decide) ?_
    refine v_cSd (pc := 10) g dX4_lit_10 lk_X4_55 ((c_X4_within _ _ _ 0 1 rfl rfl).any rfl rfl _) (Nat.le_of_ble_eq_true rfl) rfl rfl (Nat.le_of_ble_eq_true rfl) ?_
    refine v_ifb_ne (pc := 13) 23 g dX4_lit_13 rfl (fun c13 => ?_) (fun c13 => ?_)
    · have hC : C12 h v := ⟨c4, c13⟩
      obtain ⟨i, hi, rfl⟩ := c4.nat (m := 11) (by omega)
      have ei : (nI i).toNatClampNeg = i := nI_clamp (by omega)
      refine v_aload_n (pc := 23) 0 g dX4_lit_23 rfl rfl ?_
      refine v_cVd (pc := 24) g dX4_lit_24 lk_X4_158 (c_X4_startTrial) (Nat.le_of_ble_eq_true rfl) rfl rfl rfl rfl (Nat.le_of_ble_eq_true rfl) ?_
      refine v_iconst (pc := 27) (v := 0) g dX4_lit_27 (by decide) ?_
      refine v_istore_n (pc := 28) 3 _ g dX4_lit_28 rfl (Nat.le_of_ble_eq_true rfl) hnL.symm rfl ?_
      have L29 : ∀ (fu : Nat) (k : Nat), k ≤ 201 → fst (lP S v i) 201 0 = fst (lP S v i) (201 - k) k → 201 - k < fu → V X 29 [some (.ref 0), some (.int (nI i)), some (.int v), some (.int (nI k))] [] (xW S u0 (minN S k) (weN S u1 k) K u2 tb tl ni ns ne nk nv wi si nu fn kp) := by
        intro fu
        induction fu with
        | zero => intro k hk hf hm; exact absurd hm (Nat.not_lt_zero _)
        | succ fu ih =>
          intro k hk hf hm
          refine v_iload_n (pc := 29) 3 g dX4_lit_29 rfl rfl ?_
          refine v_sipush (pc := 30) (v := 200) g dX4_lit_30 (by decide) ?_
          refine v_icmp_gt (pc := 33) 72 g dX4_lit_33 rfl (fun c33 => ?_) (fun c33 => ?_)
          · have e33 : 200 < k := (nI_ltI (a := 200) (b := k) (by omega) (by omega)).mp c33
            rw [fst_e (by omega)] at hf
            refine v_aload_n (pc := 72) 0 g dX4_lit_72 rfl rfl ?_
            refine v_ldc (pc := 73) g dX4_lit_73 co_X4_173 ?_
            refine v_cVd (pc := 75) g dX4_lit_75 lk_X4_64 (c_X4_tell 3 (-1000000004) (by decide) (by decide)) (Nat.le_of_ble_eq_true rfl) rfl rfl rfl rfl (Nat.le_of_ble_eq_true rfl) ?_
            exact v_iret (pc := 78) g hret dX4_lit_78 (⟨_, _, so_i (by unfold r_12 a_12; rw [if_pos hC, ei, hf]; rfl), by unfold f_12 a_12; rw [if_pos hC, ei, hf]; rfl⟩)
          · have e33 : k ≤ 200 := Nat.not_lt.mp (fun z => c33 ((nI_ltI (a := 200) (b := k) (by omega) (by omega)).mpr z))
            refine v_aload_n (pc := 36) 0 g dX4_lit_36 rfl rfl ?_
            refine v_get (pc := 37) g dX4_lit_37 fl_X4_16 rfl rfl ?_
            refine v_iload_n (pc := 40) 1 g dX4_lit_40 rfl rfl ?_
            refine v_cVd (pc := 41) g dX4_lit_41 lk_X4_167 (xt_burns i (by omega)) (Nat.le_of_ble_eq_true rfl) rfl rfl rfl rfl (Nat.le_of_ble_eq_true rfl) ?_
            refine v_iload_n (pc := 44) 2 g dX4_lit_44 rfl rfl ?_
            refine v_iconst (pc := 45) (v := 1) g dX4_lit_45 (by decide) ?_
            refine v_icmp_ne (pc := 46) 53 g dX4_lit_46 rfl (fun c46 => ?_) (fun c46 => ?_)
            · refine v_iconst (pc := 53) (v := 0) g dX4_lit_53 (by decide) ?_
              refine v_icmp_ne (pc := 54) 59 g dX4_lit_54 rfl (fun c54 => ?_) (fun c54 => ?_)
              · have e54 : lP S v i k = false := decide_eq_false (by first | (rw [bI_1 c46]; exact c54) | (rw [bI_0 c46]; exact c54))
                rw [fst_f (by omega) e54] at hf
                refine v_aload_n (pc := 59) 0 g dX4_lit_59 rfl rfl ?_
                refine v_get (pc := 60) g dX4_lit_60 fl_X4_16 rfl rfl ?_
                refine v_cVd (pc := 63) g dX4_lit_63 lk_X4_170 (xt_goMinute (hI.minN k)) (Nat.le_of_ble_eq_true rfl) rfl rfl rfl rfl (Nat.le_of_ble_eq_true rfl) ?_
                refine v_iincN (pc := 66) g dX4_lit_66 rfl hnL.symm ?_
                refine v_goto (pc := 69) 29 g dX4_lit_69 rfl ?_
                exact ih (k + 1) (by omega) hf (by omega)
              · have e54 : lP S v i k = true := decide_eq_true (by first | (rw [bI_1 c46]; exact c54) | (rw [bI_0 c46]; exact c54))
                rw [fst_t (by omega) e54] at hf
                refine v_iload_n (pc := 57) 3 g dX4_lit_57 rfl rfl ?_
                exact v_iret (pc := 58) g hret dX4_lit_58 (⟨_, _, so_i (by unfold r_12 a_12; rw [if_pos hC, ei, hf]; rfl), by unfold f_12 a_12; rw [if_pos hC, ei, hf]; rfl⟩)
            · refine v_iconst (pc := 49) (v := 1) g dX4_lit_49 (by decide) ?_
              refine v_goto (pc := 50) 54 g dX4_lit_50 rfl ?_
              refine v_icmp_ne (pc := 54) 59 g dX4_lit_54 rfl (fun c54 => ?_) (fun c54 => ?_)
              · have e54 : lP S v i k = false := decide_eq_false (by first | (rw [bI_1 c46]; exact c54) | (rw [bI_0 c46]; exact c54))
                rw [fst_f (by omega) e54] at hf
                refine v_aload_n (pc := 59) 0 g dX4_lit_59 rfl rfl ?_
                refine v_get (pc := 60) g dX4_lit_60 fl_X4_16 rfl rfl ?_
                refine v_cVd (pc := 63) g dX4_lit_63 lk_X4_170 (xt_goMinute (hI.minN k)) (Nat.le_of_ble_eq_true rfl) rfl rfl rfl rfl (Nat.le_of_ble_eq_true rfl) ?_
                refine v_iincN (pc := 66) g dX4_lit_66 rfl hnL.symm ?_
                refine v_goto (pc := 69) 29 g dX4_lit_69 rfl ?_
                exact ih (k + 1) (by omega) hf (by omega)
              · have e54 : lP S v i k = true := decide_eq_true (by first | (rw [bI_1 c46]; exact c54) | (rw [bI_0 c46]; exact c54))
                rw [fst_t (by omega) e54] at hf
                refine v_iload_n (pc := 57) 3 g dX4_lit_57 rfl rfl ?_
                exact v_iret (pc := 58) g hret dX4_lit_58 (⟨_, _, so_i (by unfold r_12 a_12; rw [if_pos hC, ei, hf]; rfl), by unfold f_12 a_12; rw [if_pos hC, ei, hf]; rfl⟩)
      exact L29 202 0 (Nat.zero_le _) rfl (by omega)
    · refine v_aload_n (pc := 16) 0 g dX4_lit_16 rfl rfl ?_
      refine v_ldc (pc := 17) g dX4_lit_17 co_X4_63 ?_
      refine v_cVd (pc := 19) g dX4_lit_19 lk_X4_64 (c_X4_tell 0 (-1000000001) (by decide) (by decide)) (Nat.le_of_ble_eq_true rfl) rfl rfl rfl rfl (Nat.le_of_ble_eq_true rfl) ?_
      exact v_iret (pc := 22) g hret dX4_lit_22 (⟨_, _, so_i (by unfold r_12; rw [if_neg (by omega)]), by unfold f_12; rw [if_neg (by omega)]⟩)
set_option maxRecDepth 20000 in
set_option maxHeartbeats 2000000 in
theorem c_X4_goes {S : St} {u0 : Int32} {T : St} {u1 : Int32} {K : St} {u2 : Int32} {tb : Nat → Int32} {tl : Nat} {ni : Int32} {ns : Int32} {ne : Int32} {nk : Int32} {nv : Int32} {wi : Nat → Int32} {si : Nat → Int32} {nu : Nat → Int64} {fn : Nat → Int32} {kp : Int32} (p : Int32) (hI : Inv S) : Runs 4 yX4_goes cX4_goes 3 (some .int) [.ref 0, .int p] (xW S u0 T u1 K u2 tb tl ni ns ne nk nv wi si nu fn kp) (fun r0 w0 => ∃ T1 v1, r0 = some (.int (r_13 S p)) ∧ w0 = xW S u0 T1 v1 K u2 tb tl ni ns ne nk nv wi si nu (f_13 S fn p) kp) := by
  refine Runs.of (by decide) (Nat.le_of_ble_eq_true rfl) rfl ?_
  intro X g hret hnL
  refine v_aload_n (pc := 0) 0 g dX4_goes_0 rfl rfl ?_
  refine v_iload_n (pc := 1) 1 g dX4_goes_1 rfl rfl ?_
  refine v_cVd (pc := 2) g dX4_goes_2 lk_X4_108 (c_X4_isThere _ hI.n) (Nat.le_of_ble_eq_true rfl) rfl rfl rfl rfl (Nat.le_of_ble_eq_true rfl) ?_
  refine v_ifb_ne (pc := 5) 15 g dX4_goes_5 rfl (fun c5 => ?_) (fun c5 => ?_)
  · have hC : isP S p := c5
    obtain ⟨i, hi, rfl⟩ := hC.nat hI.n
    have ei : (nI i).toNatClampNeg = i := nI_clamp (by have := hI.n; omega)
    refine v_aload_n (pc := 15) 0 g dX4_goes_15 rfl rfl ?_
    refine v_cVd (pc := 16) g dX4_goes_16 lk_X4_158 (c_X4_startTrial) (Nat.le_of_ble_eq_true rfl) rfl rfl rfl rfl (Nat.le_of_ble_eq_true rfl) ?_
    refine v_iconst (pc := 19) (v := 1) g dX4_goes_19 (by decide) ?_
    refine v_istore_n (pc := 20) 2 _ g dX4_goes_20 rfl (Nat.le_of_ble_eq_true rfl) hnL.symm rfl ?_
    have L21 : ∀ (fu : Nat) (k : Nat), k ≤ 200 → fst (gP S i) 200 0 = fst (gP S i) (200 - k) k → 200 - k < fu → V X 21 [some (.ref 0), some (.int (nI i)), some (.int (nI (k + 1)))] [] (xW S u0 (minN S k) (weN S u1 k) K u2 tb tl ni ns ne nk nv wi si nu fn kp) := by
      intro fu
      induction fu with
      | zero => intro k hk hf hm; exact absurd hm (Nat.not_lt_zero _)
      | succ fu ih =>
        intro k hk hf hm
        refine v_iload_n (pc := 21) 2 g dX4_goes_21 rfl rfl ?_
        refine v_sipush (pc := 22) (v := 200) g dX4_goes_22 (by decide) ?_
        refine v_icmp_gt (pc := 25) 57 g dX4_goes_25 rfl (fun c25 => ?_) (fun c25 => ?_)
        · have e25 : 200 < k + 1 := (nI_ltI (a := 200) (b := k + 1) (by omega) (by omega)).mp c25
          rw [fst_e (by omega)] at hf
          refine v_aload_n (pc := 57) 0 g dX4_goes_57 rfl rfl ?_
          refine v_ldc (pc := 58) g dX4_goes_58 co_X4_173 ?_
          refine v_cVd (pc := 60) g dX4_goes_60 lk_X4_64 (c_X4_tell 3 (-1000000004) (by decide) (by decide)) (Nat.le_of_ble_eq_true rfl) rfl rfl rfl rfl (Nat.le_of_ble_eq_true rfl) ?_
          exact v_iret (pc := 63) g hret dX4_goes_63 (⟨_, _, so_i (by unfold r_13 a_13; rw [if_pos hC, ei, hf]; rfl), by unfold f_13 a_13; rw [if_pos hC, ei, hf]; rfl⟩)
        · have e25 : k < 200 := by have := Nat.not_lt.mp (fun z => c25 ((nI_ltI (a := 200) (b := k + 1) (by omega) (by omega)).mpr z)); omega
          refine v_aload_n (pc := 28) 0 g dX4_goes_28 rfl rfl ?_
          refine v_get (pc := 29) g dX4_goes_29 fl_X4_16 rfl rfl ?_
          refine v_cVd (pc := 32) g dX4_goes_32 lk_X4_170 (xt_goMinute (hI.minN k)) (Nat.le_of_ble_eq_true rfl) rfl rfl rfl rfl (Nat.le_of_ble_eq_true rfl) ?_
          refine v_aload_n (pc := 35) 0 g dX4_goes_35 rfl rfl ?_
          refine v_get (pc := 36) g dX4_goes_36 fl_X4_16 rfl rfl ?_
          refine v_get (pc := 39) g dX4_goes_39 fl_X4_174 rfl rfl ?_
          refine v_iload_n (pc := 42) 1 g dX4_goes_42 rfl rfl ?_
          refine v_cSd (pc := 43) g dX4_goes_43 lk_X4_177 ((c_X4_isIn _ _).any rfl rfl _) (Nat.le_of_ble_eq_true rfl) rfl rfl (Nat.le_of_ble_eq_true rfl) ?_
          refine v_ifb_eq (pc := 46) 51 g dX4_goes_46 rfl (fun c46 => ?_) (fun c46 => ?_)
          · rw [fst_f (by omega) (show gP S i k = false from decide_eq_false c46)] at hf
            refine v_iincN (pc := 51) g dX4_goes_51 rfl hnL.symm ?_
            refine v_goto (pc := 54) 21 g dX4_goes_54 rfl ?_
            exact ih (k + 1) (by omega) hf (by omega)
          · rw [fst_t (by omega) (show gP S i k = true from decide_eq_true c46)] at hf
            refine v_iload_n (pc := 49) 2 g dX4_goes_49 rfl rfl ?_
            exact v_iret (pc := 50) g hret dX4_goes_50 (⟨_, _, so_i (by unfold r_13 a_13; rw [if_pos hC, ei, hf]; rfl), by unfold f_13 a_13; rw [if_pos hC, ei, hf]; rfl⟩)
    exact L21 201 0 (Nat.zero_le _) rfl (by omega)
  · refine v_aload_n (pc := 8) 0 g dX4_goes_8 rfl rfl ?_
    refine v_ldc (pc := 9) g dX4_goes_9 co_X4_63 ?_
    refine v_cVd (pc := 11) g dX4_goes_11 lk_X4_64 (c_X4_tell 0 (-1000000001) (by decide) (by decide)) (Nat.le_of_ble_eq_true rfl) rfl rfl rfl rfl (Nat.le_of_ble_eq_true rfl) ?_
    exact v_iret (pc := 14) g hret dX4_goes_14 (⟨_, _, so_i (by unfold r_13; rw [if_neg c5]), by unfold f_13; rw [if_neg c5]⟩)
set_option maxRecDepth 20000 in
set_option maxHeartbeats 2000000 in
theorem c_X4_well {S : St} {u0 : Int32} {T : St} {u1 : Int32} {K : St} {u2 : Int32} {tb : Nat → Int32} {tl : Nat} {ni : Int32} {ns : Int32} {ne : Int32} {nk : Int32} {nv : Int32} {wi : Nat → Int32} {si : Nat → Int32} {nu : Nat → Int64} {fn : Nat → Int32} {kp : Int32} (hI : Inv S) : Runs 4 yX4_well cX4_well 2 (some .int) [.ref 0] (xW S u0 T u1 K u2 tb tl ni ns ne nk nv wi si nu fn kp) (fun r0 w0 => ∃ T1 v1, r0 = some (.int (oI (a_14 S))) ∧ w0 = xW S u0 T1 v1 K u2 tb tl ni ns ne nk nv wi si nu (oF (a_14 S) fn) kp) := by
  refine Runs.of (by decide) (Nat.le_of_ble_eq_true rfl) rfl ?_
  intro X g hret hnL
  refine v_aload_n (pc := 0) 0 g dX4_well_0 rfl rfl ?_
  refine v_cVd (pc := 1) g dX4_well_1 lk_X4_158 (c_X4_startTrial) (Nat.le_of_ble_eq_true rfl) rfl rfl rfl rfl (Nat.le_of_ble_eq_true rfl) ?_
  refine v_iconst (pc := 4) (v := 0) g dX4_well_4 (by decide) ?_
  refine v_istore_n (pc := 5) 1 _ g dX4_well_5 rfl (Nat.le_of_ble_eq_true rfl) hnL.symm rfl ?_
  have L6 : ∀ (fu : Nat) (k : Nat), k ≤ 201 → fst (wP S) 201 0 = fst (wP S) (201 - k) k → 201 - k < fu → V X 6 [some (.ref 0), some (.int (nI k))] [] (xW S u0 (minN S k) (weN S u1 k) K u2 tb tl ni ns ne nk nv wi si nu fn kp) := by
    intro fu
    induction fu with
    | zero => intro k hk hf hm; exact absurd hm (Nat.not_lt_zero _)
    | succ fu ih =>
      intro k hk hf hm
      refine v_iload_n (pc := 6) 1 g dX4_well_6 rfl rfl ?_
      refine v_sipush (pc := 7) (v := 200) g dX4_well_7 (by decide) ?_
      refine v_icmp_gt (pc := 10) 38 g dX4_well_10 rfl (fun c10 => ?_) (fun c10 => ?_)
      · have e10 : 200 < k := (nI_ltI (a := 200) (b := k) (by omega) (by omega)).mp c10
        rw [fst_e (by omega)] at hf
        refine v_aload_n (pc := 38) 0 g dX4_well_38 rfl rfl ?_
        refine v_ldc (pc := 39) g dX4_well_39 co_X4_173 ?_
        refine v_cVd (pc := 41) g dX4_well_41 lk_X4_64 (c_X4_tell 3 (-1000000004) (by decide) (by decide)) (Nat.le_of_ble_eq_true rfl) rfl rfl rfl rfl (Nat.le_of_ble_eq_true rfl) ?_
        exact v_iret (pc := 44) g hret dX4_well_44 (⟨_, _, so_i (by unfold a_14; rw [hf]; rfl), by unfold a_14; rw [hf]; rfl⟩)
      · have e10 : k ≤ 200 := Nat.not_lt.mp (fun z => c10 ((nI_ltI (a := 200) (b := k) (by omega) (by omega)).mpr z))
        refine v_aload_n (pc := 13) 0 g dX4_well_13 rfl rfl ?_
        refine v_get (pc := 14) g dX4_well_14 fl_X4_16 rfl rfl ?_
        refine v_cVd (pc := 17) g dX4_well_17 lk_X4_91 (xt_coldOfAll (hI.minN k)) (Nat.le_of_ble_eq_true rfl) rfl rfl rfl rfl (Nat.le_of_ble_eq_true rfl) ?_
        refine v_if_ne (pc := 20) 25 g dX4_well_20 rfl (fun c20 => ?_) (fun c20 => ?_)
        · rw [fst_f (by omega) (show wP S k = false from decide_eq_false c20)] at hf
          refine v_aload_n (pc := 25) 0 g dX4_well_25 rfl rfl ?_
          refine v_get (pc := 26) g dX4_well_26 fl_X4_16 rfl rfl ?_
          refine v_cVd (pc := 29) g dX4_well_29 lk_X4_170 (xt_goMinute (hI.minN k)) (Nat.le_of_ble_eq_true rfl) rfl rfl rfl rfl (Nat.le_of_ble_eq_true rfl) ?_
          refine v_iincN (pc := 32) g dX4_well_32 rfl hnL.symm ?_
          refine v_goto (pc := 35) 6 g dX4_well_35 rfl ?_
          exact ih (k + 1) (by omega) hf (by omega)
        · rw [fst_t (by omega) (show wP S k = true from decide_eq_true c20)] at hf
          refine v_iload_n (pc := 23) 1 g dX4_well_23 rfl rfl ?_
          exact v_iret (pc := 24) g hret dX4_well_24 (⟨_, _, so_i (by unfold a_14; rw [hf]; rfl), by unfold a_14; rw [hf]; rfl⟩)
  exact L6 202 0 (Nat.zero_le _) rfl (by omega)
