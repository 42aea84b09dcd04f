/-! ===== what each call answers, IV: what is best ===== -/
def ch0 (S : St) (c : Nat) : St := pTi S (upd (sTi S) c 99)
def ch1 (S : St) (p c : Nat) : St := pFa (pAt S (upd (sAt S) p (nI (c / 2)))) (upd (sFa S) p (nI (c % 2)))
def ch2 (S : St) (p c : Nat) : St := pKi S (upd (sKi S) p (nI c))
def ch3 (S : St) (c : Nat) : St := pBo S (upd (sBo S) c (1 - sBo S c))
theorem Inv.ch0 {S : St} (h : Inv S) (c : Nat) : Inv (ch0 S c) := h.pTi (updR h.ti (by show inR 99 0 99; decide))
theorem Inv.ch1 {S : St} (h : Inv S) (p : Nat) {c : Nat} (hc : c < 24) : Inv (ch1 S p c) := Inv.pFa (h.pAt (updR h.at (inR_nI (m := 11) (by omega) (by omega)))) (updR h.fa (inR_nI (m := 1) (by omega) (by omega)))
theorem Inv.ch2 {S : St} (h : Inv S) (p : Nat) {c : Nat} (hc : c < 6) : Inv (ch2 S p c) := h.pKi (updR h.ki (inR_nI (m := 5) (by omega) (by omega)))
theorem Inv.ch3 {S : St} (h : Inv S) (c : Nat) : Inv (ch3 S c) := h.pBo (updR h.bo (by
  obtain ⟨b, hb, eb⟩ := (h.bo c).nat (m := 1) (by omega)
  rw [eb]
  rcases (show b = 0 ∨ b = 1 by omega) with rfl | rfl <;> decide))
def bst (f : Nat → Int32) : Nat → Int32 × Int32
  | 0 => (0, -1)
  | k + 1 => if (bst f k).2 < f k then (nI k, f k) else bst f k
def lst (f : Nat → Int32) : Nat → Int32 × Int32
  | 0 => (0, 2147483647)
  | k + 1 => if f k < (lst f k).2 then (nI k, f k) else lst f k
def rd (n : Nat) (S : St) : Int32 := readAll (minN S n)
def r15k (S : St) (n : Nat) : Int32 := if sN S = 0 then -1000000004 else (bst (fun c => rd n (ch0 S c)) (sN S)).1
def f15k (S : St) (fn : Nat → Int32) : Nat → Int32 := if sN S = 0 then fdn fn 3 else fn
def r_15 (S : St) (n : Int32) : Int32 := if inR n 1 60 then r15k S n.toNatClampNeg else -1000000001
def f_15 (S : St) (fn : Nat → Int32) (n : Int32) : Nat → Int32 := if inR n 1 60 then f15k S fn else fdn fn 0
abbrev C16 (S : St) (p n : Int32) : Prop := isP S p ∧ inR n 1 60
def r_16 (S : St) (p n : Int32) : Int32 := if C16 S p n then (bst (fun c => rd n.toNatClampNeg (ch1 S p.toNatClampNeg c)) 24).1 else -1000000001
def r_17 (S : St) (p n : Int32) : Int32 := if C16 S p n then (bst (fun c => rd n.toNatClampNeg (ch2 S p.toNatClampNeg c)) 6).1 else -1000000001
def r_21 (S : St) (n : Int32) : Int32 := if inR n 1 60 then (bst (fun c => rd n.toNatClampNeg (ch3 S c)) 12).1 else -1000000001
def dwn (P : Nat → Bool) : Nat → Option Nat
  | 0 => none
  | k + 1 => if P k = true then some k else dwn P k
abbrev C18 (n v : Int32) : Prop := inR n 1 60 ∧ inR v 0 99999
def dP (S : St) (v : Int32) (n k : Nat) : Bool := decide (v ≤ rd n (pDr S (nI k)))
def a_18 (S : St) (n v : Int32) : Option Nat := dwn (dP S v n.toNatClampNeg) 10
def r_18 (S : St) (n v : Int32) : Int32 := if C18 n v then oI (a_18 S n v) else -1000000001
def f_18 (S : St) (fn : Nat → Int32) (n v : Int32) : Nat → Int32 := if C18 n v then oF (a_18 S n v) fn else fdn fn 0
abbrev C19 (S : St) (p h n : Int32) : Prop := isP S p ∧ inR h 0 11 ∧ inR n 0 60
def nP (S : St) (p h n c : Nat) : Bool := decide (0 < sLa (minN (pCo S (upd (sCo S) p (nI c))) n) h)
def a_19 (S : St) (p h n : Int32) : Option Nat := fst (nP S p.toNatClampNeg h.toNatClampNeg n.toNatClampNeg) 100 0
def r_19 (S : St) (p h n : Int32) : Int32 := if C19 S p h n then oI (a_19 S p h n) else -1000000001
def f_19 (S : St) (fn : Nat → Int32) (p h n : Int32) : Nat → Int32 := if C19 S p h n then oF (a_19 S p h n) fn else fdn fn 0
def co0 (S : St) (c : Nat) : St := pCo S (upd (sCo S) c 0)
def r20k (S : St) (n : Nat) : Int32 := if sN S = 0 then -1000000004 else (lst (fun c => rd n (co0 S c)) (sN S)).1
def r_20 (S : St) (n : Int32) : Int32 := if inR n 1 60 then r20k S n.toNatClampNeg else -1000000001
theorem Inv.co0 {S : St} (h : Inv S) (c : Nat) : Inv (co0 S c) := h.pCo (updR h.co (by show inR 0 0 99; decide))
theorem Inv.coc {S : St} (h : Inv S) (p : Nat) {c : Nat} (hc : c ≤ 99) : Inv (Jvm.Pilot.@@N@@.pCo S (upd (sCo S) p (nI c))) := h.pCo (updR h.co (inR_nI (m := 99) hc (by omega)))
theorem Inv.drc {S : St} (h : Inv S) {c : Nat} (hc : c ≤ 9) : Inv (Jvm.Pilot.@@N@@.pDr S (nI c)) := h.pDr (inR_nI (m := 9) hc (by omega))
/-! ===== the class: what is best ===== -/
set_option maxRecDepth 20000 in
set_option maxHeartbeats 2000000 in
theorem c_ch_0 {S : St} {u0 : Int32} {T : St} {u1 : Int32} {K : St} {u2 : Int32} {tb : Nat → Int32} {tl : Nat} {ni : Int32} {ns : Int32} {ne : Int32} {nk : Int32} {nv : Int32} {wi : Nat → Int32} {si : Nat → Int32} {nu : Nat → Int64} {fn : Nat → Int32} {kp : Int32} (c p : Nat) (hc : c < 8) : RunD 0 yX4_choose cX4_choose 4 none [.ref 0, .int 0, .int (nI c), .int (nI p)] (xW S u0 T u1 K u2 tb tl ni ns ne nk nv wi si nu fn kp) (none) (xW S u0 (ch0 T c) u1 K u2 tb tl ni ns ne nk nv wi si nu fn kp) := by
  refine Runs.of (by decide) (Nat.le_of_ble_eq_true rfl) rfl ?_
  intro X g hret hnL
  refine v_iload_n (pc := 0) 1 g dX4_choose_0 rfl rfl ?_
  refine v_top (fun x1 e1 => ?_)
  by_cases t1_0 : x1.toInt = 0
  · refine v_tin (pc := 1) 0 28 g dX4_choose_1 t1_0 (by decide) (by decide) rfl rfl ?_
    rw [e1] at t1_0
    refine v_aload_n (pc := 28) 0 g dX4_choose_28 rfl rfl ?_
    refine v_get (pc := 29) g dX4_choose_29 fl_X4_16 rfl rfl ?_
    refine v_get (pc := 32) g dX4_choose_32 fl_X4_123 rfl rfl ?_
    refine v_iload_n (pc := 35) 2 g dX4_choose_35 rfl rfl ?_
    refine v_bipush (pc := 36) (v := 99) g dX4_choose_36 (by decide) ?_
    refine v_iastN (pc := 38) _ _ g dX4_choose_38 rfl rfl (by omega) (Nat.le_of_ble_eq_true rfl) rfl ?_
    refine v_goto (pc := 39) 102 g dX4_choose_39 rfl ?_
    exact v_vret (pc := 102) g hret dX4_choose_102 (⟨rfl, rfl⟩)
  by_cases t1_1 : x1.toInt = 1
  · refine v_tin (pc := 1) 1 42 g dX4_choose_1 t1_1 (by decide) (by decide) rfl rfl ?_
    rw [e1] at t1_1
    exact absurd t1_1 (by decide)
  by_cases t1_2 : x1.toInt = 2
  · refine v_tin (pc := 1) 2 69 g dX4_choose_1 t1_2 (by decide) (by decide) rfl rfl ?_
    rw [e1] at t1_2
    exact absurd t1_2 (by decide)
  refine v_tout (pc := 1) 82 g dX4_choose_1 (by omega) rfl ?_
  rw [e1] at t1_0
  rw [e1] at t1_1
  rw [e1] at t1_2
  exact absurd rfl t1_0
set_option maxRecDepth 20000 in
set_option maxHeartbeats 2000000 in
theorem c_ch_1 {S : St} {u0 : Int32} {T : St} {u1 : Int32} {K : St} {u2 : Int32} {tb : Nat → Int32} {tl : Nat} {ni : Int32} {ns : Int32} {ne : Int32} {nk : Int32} {nv : Int32} {wi : Nat → Int32} {si : Nat → Int32} {nu : Nat → Int64} {fn : Nat → Int32} {kp : Int32} (c p : Nat) (hc : c < 24) (hp : p < 8) : RunD 0 yX4_choose cX4_choose 4 none [.ref 0, .int 1, .int (nI c), .int (nI p)] (xW S u0 T u1 K u2 tb tl ni ns ne nk nv wi si nu fn kp) (none) (xW S u0 (ch1 T p c) u1 K u2 tb tl ni ns ne nk nv wi si nu fn kp) := by
  refine Runs.of (by decide) (Nat.le_of_ble_eq_true rfl) rfl ?_
  intro X g hret hnL
  refine v_iload_n (pc := 0) 1 g dX4_choose_0 rfl rfl ?_
  refine v_top (fun x1 e1 => ?_)
  by_cases t1_0 : x1.toInt = 0
  · refine v_tin (pc := 1) 0 28 g dX4_choose_1 t1_0 (by decide) (by decide) rfl rfl ?_
    rw [e1] at t1_0
    exact absurd t1_0 (by decide)
  by_cases t1_1 : x1.toInt = 1
  · refine v_tin (pc := 1) 1 42 g dX4_choose_1 t1_1 (by decide) (by decide) rfl rfl ?_
    rw [e1] at t1_1
    refine v_aload_n (pc := 42) 0 g dX4_choose_42 rfl rfl ?_
    refine v_get (pc := 43) g dX4_choose_43 fl_X4_16 rfl rfl ?_
    refine v_get (pc := 46) g dX4_choose_46 fl_X4_114 rfl rfl ?_
    refine v_iload_n (pc := 49) 3 g dX4_choose_49 rfl rfl ?_
    refine v_iload_n (pc := 50) 2 g dX4_choose_50 rfl rfl ?_
    refine v_iconst (pc := 51) (v := 2) g dX4_choose_51 (by decide) ?_
    refine v_idiv (pc := 52) g dX4_choose_52 (by decide) ?_
    rw [show nI c / 2 = nI (c / 2) from pk_div (d := 2) (by omega) (by omega) (by omega)]
    refine v_iastN (pc := 53) _ _ g dX4_choose_53 rfl rfl (by omega) (Nat.le_of_ble_eq_true rfl) rfl ?_
    refine v_aload_n (pc := 54) 0 g dX4_choose_54 rfl rfl ?_
    refine v_get (pc := 55) g dX4_choose_55 fl_X4_16 rfl rfl ?_
    refine v_get (pc := 58) g dX4_choose_58 fl_X4_117 rfl rfl ?_
    refine v_iload_n (pc := 61) 3 g dX4_choose_61 rfl rfl ?_
    refine v_iload_n (pc := 62) 2 g dX4_choose_62 rfl rfl ?_
    refine v_iconst (pc := 63) (v := 2) g dX4_choose_63 (by decide) ?_
    refine v_irem (pc := 64) g dX4_choose_64 (by decide) ?_
    rw [show nI c - nI c / 2 * 2 = nI (c % 2) from pk_rem (d := 2) (by omega) (by omega) (by omega)]
    refine v_iastN (pc := 65) _ _ g dX4_choose_65 rfl rfl (by omega) (Nat.le_of_ble_eq_true rfl) rfl ?_
    refine v_goto (pc := 66) 102 g dX4_choose_66 rfl ?_
    exact v_vret (pc := 102) g hret dX4_choose_102 (⟨rfl, rfl⟩)
  by_cases t1_2 : x1.toInt = 2
  · refine v_tin (pc := 1) 2 69 g dX4_choose_1 t1_2 (by decide) (by decide) rfl rfl ?_
    rw [e1] at t1_2
    exact absurd t1_2 (by decide)
  refine v_tout (pc := 1) 82 g dX4_choose_1 (by omega) rfl ?_
  rw [e1] at t1_0
  rw [e1] at t1_1
  rw [e1] at t1_2
  exact absurd rfl t1_1
set_option maxRecDepth 20000 in
set_option maxHeartbeats 2000000 in
theorem c_ch_2 {S : St} {u0 : Int32} {T : St} {u1 : Int32} {K : St} {u2 : Int32} {tb : Nat → Int32} {tl : Nat} {ni : Int32} {ns : Int32} {ne : Int32} {nk : Int32} {nv : Int32} {wi : Nat → Int32} {si : Nat → Int32} {nu : Nat → Int64} {fn : Nat → Int32} {kp : Int32} (c p : Nat) (hp : p < 8) : RunD 0 yX4_choose cX4_choose 4 none [.ref 0, .int 2, .int (nI c), .int (nI p)] (xW S u0 T u1 K u2 tb tl ni ns ne nk nv wi si nu fn kp) (none) (xW S u0 (ch2 T p c) u1 K u2 tb tl ni ns ne nk nv wi si nu fn kp) := by
  refine Runs.of (by decide) (Nat.le_of_ble_eq_true rfl) rfl ?_
  intro X g hret hnL
  refine v_iload_n (pc := 0) 1 g dX4_choose_0 rfl rfl ?_
  refine v_top (fun x1 e1 => ?_)
  by_cases t1_0 : x1.toInt = 0
  · refine v_tin (pc := 1) 0 28 g dX4_choose_1 t1_0 (by decide) (by decide) rfl rfl ?_
    rw [e1] at t1_0
    exact absurd t1_0 (by decide)
  by_cases t1_1 : x1.toInt = 1
  · refine v_tin (pc := 1) 1 42 g dX4_choose_1 t1_1 (by decide) (by decide) rfl rfl ?_
    rw [e1] at t1_1
    exact absurd t1_1 (by decide)
  by_cases t1_2 : x1.toInt = 2
  · refine v_tin (pc := 1) 2 69 g dX4_choose_1 t1_2 (by decide) (by decide) rfl rfl ?_
    rw [e1] at t1_2
    refine v_aload_n (pc := 69) 0 g dX4_choose_69 rfl rfl ?_
    refine v_get (pc := 70) g dX4_choose_70 fl_X4_16 rfl rfl ?_
    refine v_get (pc := 73) g dX4_choose_73 fl_X4_111 rfl rfl ?_
    refine v_iload_n (pc := 76) 3 g dX4_choose_76 rfl rfl ?_
    refine v_iload_n (pc := 77) 2 g dX4_choose_77 rfl rfl ?_
    refine v_iastN (pc := 78) _ _ g dX4_choose_78 rfl rfl (by omega) (Nat.le_of_ble_eq_true rfl) rfl ?_
    refine v_goto (pc := 79) 102 g dX4_choose_79 rfl ?_
    exact v_vret (pc := 102) g hret dX4_choose_102 (⟨rfl, rfl⟩)
  refine v_tout (pc := 1) 82 g dX4_choose_1 (by omega) rfl ?_
  rw [e1] at t1_0
  rw [e1] at t1_1
  rw [e1] at t1_2
  exact absurd rfl t1_2
set_option maxRecDepth 20000 in
set_option maxHeartbeats 2000000 in
theorem c_ch_3 {S : St} {u0 : Int32} {T : St} {u1 : Int32} {K : St} {u2 : Int32} {tb : Nat → Int32} {tl : Nat} {ni : Int32} {ns : Int32} {ne : Int32} {nk : Int32} {nv : Int32} {wi : Nat → Int32} {si : Nat → Int32} {nu : Nat → Int64} {fn : Nat → Int32} {kp : Int32} (c p : Nat) (hc : c < 12) : RunD 0 yX4_choose cX4_choose 4 none [.ref 0, .int 3, .int (nI c), .int (nI p)] (xW S u0 T u1 K u2 tb tl ni ns ne nk nv wi si nu fn kp) (none) (xW S u0 (ch3 T c) u1 K u2 tb tl ni ns ne nk nv wi si nu fn kp) := by
  refine Runs.of (by decide) (Nat.le_of_ble_eq_true rfl) rfl ?_
  intro X g hret hnL
  refine v_iload_n (pc := 0) 1 g dX4_choose_0 rfl rfl ?_
  refine v_top (fun x1 e1 => ?_)
  by_cases t1_0 : x1.toInt = 0
  · refine v_tin (pc := 1) 0 28 g dX4_choose_1 t1_0 (by decide) (by decide) rfl rfl ?_
    rw [e1] at t1_0
    exact absurd t1_0 (by decide)
  by_cases t1_1 : x1.toInt = 1
  · refine v_tin (pc := 1) 1 42 g dX4_choose_1 t1_1 (by decide) (by decide) rfl rfl ?_
    rw [e1] at t1_1
    exact absurd t1_1 (by decide)
  by_cases t1_2 : x1.toInt = 2
  · refine v_tin (pc := 1) 2 69 g dX4_choose_1 t1_2 (by decide) (by decide) rfl rfl ?_
    rw [e1] at t1_2
    exact absurd t1_2 (by decide)
  refine v_tout (pc := 1) 82 g dX4_choose_1 (by omega) rfl ?_
  rw [e1] at t1_0
  rw [e1] at t1_1
  rw [e1] at t1_2
  refine v_aload_n (pc := 82) 0 g dX4_choose_82 rfl rfl ?_
  refine v_get (pc := 83) g dX4_choose_83 fl_X4_16 rfl rfl ?_
  refine v_get (pc := 86) g dX4_choose_86 fl_X4_263 rfl rfl ?_
  refine v_iload_n (pc := 89) 2 g dX4_choose_89 rfl rfl ?_
  refine v_iconst (pc := 90) (v := 1) g dX4_choose_90 (by decide) ?_
  refine v_aload_n (pc := 91) 0 g dX4_choose_91 rfl rfl ?_
  refine v_get (pc := 92) g dX4_choose_92 fl_X4_16 rfl rfl ?_
  refine v_get (pc := 95) g dX4_choose_95 fl_X4_263 rfl rfl ?_
  refine v_iload_n (pc := 98) 2 g dX4_choose_98 rfl rfl ?_
  refine v_ialdN (pc := 99) _ g dX4_choose_99 rfl rfl (by omega) (Nat.le_of_ble_eq_true rfl) ?_
  refine v_isub (pc := 100) g dX4_choose_100 ?_
  refine v_iastN (pc := 101) _ _ g dX4_choose_101 rfl rfl (by omega) (Nat.le_of_ble_eq_true rfl) rfl ?_
  exact v_vret (pc := 102) g hret dX4_choose_102 (⟨rfl, rfl⟩)
set_option maxRecDepth 20000 in
set_option maxHeartbeats 2000000 in
theorem c_X4_brightest {S : St} {u0 : Int32} {T : St} {u1 : Int32} {K : St} {u2 : Int32} {tb : Nat → Int32} {tl : Nat} {ni : Int32} {ns : Int32} {ne : Int32} {nk : Int32} {nv : Int32} {wi : Nat → Int32} {si : Nat → Int32} {nu : Nat → Int64} {fn : Nat → Int32} {kp : Int32} (way : Int32) (m p n : Nat) (ch : Nat → St) (hm : m < 1000) (hn : n < 1000) (hCI : ∀ c, c < m → Inv (ch c)) (hc : ∀ (c : Nat) (v1 : Int32), c < m → RunD 0 yX4_choose cX4_choose 4 none [.ref 0, .int way, .int (nI c), .int (nI p)] (xW S u0 S v1 K u2 tb tl ni ns ne nk nv wi si nu fn kp) none (xW S u0 (ch c) v1 K u2 tb tl ni ns ne nk nv wi si nu fn kp)) : Runs 5 yX4_brightest cX4_brightest 9 (some .int) [.ref 0, .int way, .int (nI m), .int (nI p), .int (nI n)] (xW S u0 T u1 K u2 tb tl ni ns ne nk nv wi si nu fn kp) (fun r0 w0 => ∃ T1 v1, r0 = some (.int ((bst (fun c => rd n (ch c)) m).1)) ∧ w0 = xW S u0 T1 v1 K u2 tb tl ni ns ne nk nv wi si nu fn kp) := by
  refine Runs.of (by decide) (Nat.le_of_ble_eq_true rfl) rfl ?_
  intro X g hret hnL
  refine v_iconst (pc := 0) (v := 0) g dX4_brightest_0 (by decide) ?_
  refine v_istore (pc := 1) _ g dX4_brightest_1 (Nat.le_of_ble_eq_true rfl) hnL.symm rfl ?_
  refine v_iconst (pc := 3) (v := (-1)) g dX4_brightest_3 (by decide) ?_
  refine v_istore (pc := 4) _ g dX4_brightest_4 (Nat.le_of_ble_eq_true rfl) hnL.symm rfl ?_
  refine v_iconst (pc := 6) (v := 0) g dX4_brightest_6 (by decide) ?_
  refine v_istore (pc := 7) _ g dX4_brightest_7 (Nat.le_of_ble_eq_true rfl) hnL.symm rfl ?_
  refine v_fg [true, true, true, true, true, true, true, true, false] ?_
  have L9 : ∀ (fu : Nat) (T : St) (u1 : Int32) (k : Nat), k ≤ m → m - k < fu → V X 9 [some (.ref 0), some (.int way), some (.int (nI m)), some (.int (nI p)), some (.int (nI n)), some (.int (bst (fun c => rd n (ch c)) k).1), some (.int (bst (fun c => rd n (ch c)) k).2), some (.int (nI k)), none] [] (xW S u0 T u1 K u2 tb tl ni ns ne nk nv wi si nu fn kp) := by
    intro fu
    induction fu with
    | zero => intro T u1 k hk hm; exact absurd hm (Nat.not_lt_zero _)
    | succ fu ih =>
      intro T u1 k hk hm
      refine v_iload (pc := 9) g dX4_brightest_9 rfl ?_
      refine v_iload_n (pc := 11) 2 g dX4_brightest_11 rfl rfl ?_
      refine v_icmp_ge (pc := 12) 66 g dX4_brightest_12 rfl (fun c12 => ?_) (fun c12 => ?_)
      · have e12 : k = m := ge_t (n := m) rfl hk (by omega) c12
        subst e12
        refine v_iload (pc := 66) g dX4_brightest_66 rfl ?_
        exact v_iret (pc := 68) g hret dX4_brightest_68 (⟨_, _, rfl, rfl⟩)
      · have e12 : k < m := ge_f (n := m) rfl hk (by omega) c12
        refine v_aload_n (pc := 15) 0 g dX4_brightest_15 rfl rfl ?_
        refine v_cVd (pc := 16) g dX4_brightest_16 lk_X4_158 (c_X4_startTrial) (Nat.le_of_ble_eq_true rfl) rfl rfl rfl rfl (Nat.le_of_ble_eq_true rfl) ?_
        refine v_aload_n (pc := 19) 0 g dX4_brightest_19 rfl rfl ?_
        refine v_iload_n (pc := 20) 1 g dX4_brightest_20 rfl rfl ?_
        refine v_iload (pc := 21) g dX4_brightest_21 rfl ?_
        refine v_iload_n (pc := 23) 3 g dX4_brightest_23 rfl rfl ?_
        refine v_cVd (pc := 24) g dX4_brightest_24 lk_X4_260 (hc k _ (by omega)) (Nat.le_of_ble_eq_true rfl) rfl rfl rfl rfl (Nat.le_of_ble_eq_true rfl) ?_
        refine v_aload_n (pc := 27) 0 g dX4_brightest_27 rfl rfl ?_
        refine v_get (pc := 28) g dX4_brightest_28 fl_X4_16 rfl rfl ?_
        refine v_iload (pc := 31) g dX4_brightest_31 rfl ?_
        refine v_cVd (pc := 33) g dX4_brightest_33 lk_X4_154 (xt_goMinutes n (hCI k (by omega)) hn) (Nat.le_of_ble_eq_true rfl) rfl rfl rfl rfl (Nat.le_of_ble_eq_true rfl) ?_
        refine v_aload_n (pc := 36) 0 g dX4_brightest_36 rfl rfl ?_
        refine v_get (pc := 37) g dX4_brightest_37 fl_X4_16 rfl rfl ?_
        refine v_cVd (pc := 40) g dX4_brightest_40 lk_X4_94 (xt_readOfAll) (Nat.le_of_ble_eq_true rfl) rfl rfl rfl rfl (Nat.le_of_ble_eq_true rfl) ?_
        refine v_istore (pc := 43) _ g dX4_brightest_43 (Nat.le_of_ble_eq_true rfl) hnL.symm rfl ?_
        refine v_iload (pc := 45) g dX4_brightest_45 rfl ?_
        refine v_iload (pc := 47) g dX4_brightest_47 rfl ?_
        refine v_icmp_le (pc := 49) 60 g dX4_brightest_49 rfl (fun c49 => ?_) (fun c49 => ?_)
        · have eb : bst (fun c => rd n (ch c)) (k + 1) = bst (fun c => rd n (ch c)) k := if_neg (Int32.not_lt.mpr c49)
          refine v_iincN (pc := 60) g dX4_brightest_60 rfl hnL.symm ?_
          refine v_goto (pc := 63) 9 g dX4_brightest_63 rfl ?_
          refine v_fg [true, true, true, true, true, true, true, true, false] ?_
          refine v_loE [some (.ref 0), some (.int way), some (.int (nI m)), some (.int (nI p)), some (.int (nI n)), some (.int (bst (fun c => rd n (ch c)) (k + 1)).1), some (.int (bst (fun c => rd n (ch c)) (k + 1)).2), some (.int (nI (k + 1))), none] (by rw [eb]; rfl) ?_
          exact ih _ _ (k + 1) (by omega) (by omega)
        · have eb : bst (fun c => rd n (ch c)) (k + 1) = (nI k, rd n (ch k)) := if_pos (Int32.not_le.mp c49)
          refine v_iload (pc := 52) g dX4_brightest_52 rfl ?_
          refine v_istore (pc := 54) _ g dX4_brightest_54 (Nat.le_of_ble_eq_true rfl) hnL.symm rfl ?_
          refine v_iload (pc := 56) g dX4_brightest_56 rfl ?_
          refine v_istore (pc := 58) _ g dX4_brightest_58 (Nat.le_of_ble_eq_true rfl) hnL.symm rfl ?_
          refine v_iincN (pc := 60) g dX4_brightest_60 rfl hnL.symm ?_
          refine v_goto (pc := 63) 9 g dX4_brightest_63 rfl ?_
          refine v_fg [true, true, true, true, true, true, true, true, false] ?_
          refine v_loE [some (.ref 0), some (.int way), some (.int (nI m)), some (.int (nI p)), some (.int (nI n)), some (.int (bst (fun c => rd n (ch c)) (k + 1)).1), some (.int (bst (fun c => rd n (ch c)) (k + 1)).2), some (.int (nI (k + 1))), none] (by rw [eb]; rfl) ?_
          exact ih _ _ (k + 1) (by omega) (by omega)
  exact L9 (m + 1) _ _ 0 (Nat.zero_le _) (by omega)
set_option maxRecDepth 20000 in
set_option maxHeartbeats 2000000 in
theorem c_X4_feather {S : St} {u0 : Int32} {T : St} {u1 : Int32} {K : St} {u2 : Int32} {tb : Nat → Int32} {tl : Nat} {ni : Int32} {ns : Int32} {ne : Int32} {nk : Int32} {nv : Int32} {wi : Nat → Int32} {si : Nat → Int32} {nu : Nat → Int64} {fn : Nat → Int32} {kp : Int32} (n : Int32) (hI : Inv S) : Runs 6 yX4_feather cX4_feather 2 (some .int) [.ref 0, .int n] (xW S u0 T u1 K u2 tb tl ni ns ne nk nv wi si nu fn kp) (fun r0 w0 => ∃ T1 v1, r0 = some (.int (r_15 S n)) ∧ w0 = xW S u0 T1 v1 K u2 tb tl ni ns ne nk nv wi si nu (f_15 S fn n) kp) := by
  refine Runs.of (by decide) (Nat.le_of_ble_eq_true rfl) rfl ?_
  intro X g hret hnL
  refine v_iload_n (pc := 0) 1 g dX4_feather_0 rfl rfl ?_
  refine v_iconst (pc := 1) (v := 1) g dX4_feather_1 (by decide) ?_
  refine v_bipush (pc := 2) (v := 60) g dX4_feather_2 (by decide) ?_
  refine v_cSd (pc := 4) g dX4_feather_4 lk_X4_55 ((c_X4_within _ _ _ 1 60 rfl rfl).any rfl rfl _) (Nat.le_of_ble_eq_true rfl) rfl rfl (Nat.le_of_ble_eq_true rfl) ?_
  refine v_ifb_ne (pc := 7) 17 g dX4_feather_7 rfl (fun c7 => ?_) (fun c7 => ?_)
  · obtain ⟨m, hm, rfl⟩ := (show inR n 0 ((60 : Nat) : Int) from ⟨by have := c7.1; omega, c7.2⟩).nat (by omega)
    have em : (nI m).toNatClampNeg = m := nI_clamp (by omega)
    refine v_aload_n (pc := 17) 0 g dX4_feather_17 rfl rfl ?_
    refine v_get (pc := 18) g dX4_feather_18 fl_X4_10 rfl rfl ?_
    refine v_get (pc := 21) g dX4_feather_21 fl_X4_100 rfl rfl ?_
    refine v_if_ne (pc := 24) 34 g dX4_feather_24 rfl (fun c24 => ?_) (fun c24 => ?_)
    · have e24 : ¬ sN S = 0 := fun z => c24 (by rw [z]; rfl)
      refine v_aload_n (pc := 34) 0 g dX4_feather_34 rfl rfl ?_
      refine v_iconst (pc := 35) (v := 0) g dX4_feather_35 (by decide) ?_
      refine v_aload_n (pc := 36) 0 g dX4_feather_36 rfl rfl ?_
      refine v_get (pc := 37) g dX4_feather_37 fl_X4_10 rfl rfl ?_
      refine v_get (pc := 40) g dX4_feather_40 fl_X4_100 rfl rfl ?_
      refine v_iconst (pc := 43) (v := 0) g dX4_feather_43 (by decide) ?_
      refine v_iload_n (pc := 44) 1 g dX4_feather_44 rfl rfl ?_
      refine v_cV (pc := 45) g dX4_feather_45 lk_X4_180 (Nat.le_of_ble_eq_true rfl) (c_X4_brightest 0 (sN S) 0 m (ch0 S) (by have := hI.n; omega) (by omega) (fun c _ => hI.ch0 c) (fun c v1 hc => c_ch_0 c 0 (by have := hI.n; omega))) rfl rfl rfl rfl (Nat.le_of_ble_eq_true rfl) (fun r1 w1 hq => ?_)
      obtain ⟨T1, v1, rfl, rfl⟩ := hq
      exact v_iret (pc := 48) g hret dX4_feather_48 (⟨_, _, so_i (by unfold r_15 r15k; rw [if_pos c7, if_neg e24, em]), by unfold f_15 f15k; rw [if_pos c7, if_neg e24]⟩)
    · have e24 : sN S = 0 := (nI_eq (b := 0) (by have := hI.n; omega) (by omega)).mp c24
      refine v_aload_n (pc := 27) 0 g dX4_feather_27 rfl rfl ?_
      refine v_ldc (pc := 28) g dX4_feather_28 co_X4_173 ?_
      refine v_cVd (pc := 30) g dX4_feather_30 lk_X4_64 (c_X4_tell 3 (-1000000004) (by decide) (by decide)) (Nat.le_of_ble_eq_true rfl) rfl rfl rfl rfl (Nat.le_of_ble_eq_true rfl) ?_
      exact v_iret (pc := 33) g hret dX4_feather_33 (⟨_, _, so_i (by unfold r_15 r15k; rw [if_pos c7, if_pos e24]), by unfold f_15 f15k; rw [if_pos c7, if_pos e24]⟩)
  · refine v_aload_n (pc := 10) 0 g dX4_feather_10 rfl rfl ?_
    refine v_ldc (pc := 11) g dX4_feather_11 co_X4_63 ?_
    refine v_cVd (pc := 13) g dX4_feather_13 lk_X4_64 (c_X4_tell 0 (-1000000001) (by decide) (by decide)) (Nat.le_of_ble_eq_true rfl) rfl rfl rfl rfl (Nat.le_of_ble_eq_true rfl) ?_
    exact v_iret (pc := 16) g hret dX4_feather_16 (⟨_, _, so_i (by unfold r_15; rw [if_neg c7]), by unfold f_15; rw [if_neg c7]⟩)
set_option maxRecDepth 20000 in
set_option maxHeartbeats 2000000 in
theorem c_X4_seat {S : St} {u0 : Int32} {T : St} {u1 : Int32} {K : St} {u2 : Int32} {tb : Nat → Int32} {tl : Nat} {ni : Int32} {ns : Int32} {ne : Int32} {nk : Int32} {nv : Int32} {wi : Nat → Int32} {si : Nat → Int32} {nu : Nat → Int64} {fn : Nat → Int32} {kp : Int32} (p n : Int32) (hI : Inv S) : Runs 6 yX4_seat cX4_seat 3 (some .int) [.ref 0, .int p, .int n] (xW S u0 T u1 K u2 tb tl ni ns ne nk nv wi si nu fn kp) (fun r0 w0 => ∃ T1 v1, r0 = some (.int (r_16 S p n)) ∧ w0 = xW S u0 T1 v1 K u2 tb tl ni ns ne nk nv wi si nu (fdI (C16 S p n) fn 0) kp) := by
  refine Runs.of (by decide) (Nat.le_of_ble_eq_true rfl) rfl ?_
  intro X g hret hnL
  refine v_aload_n (pc := 0) 0 g dX4_seat_0 rfl rfl ?_
  refine v_iload_n (pc := 1) 1 g dX4_seat_1 rfl rfl ?_
  refine v_cVd (pc := 2) g dX4_seat_2 lk_X4_108 (c_X4_isThere _ hI.n) (Nat.le_of_ble_eq_true rfl) rfl rfl rfl rfl (Nat.le_of_ble_eq_true rfl) ?_
  refine v_ifb_eq (pc := 5) 18 g dX4_seat_5 rfl (fun c5 => ?_) (fun c5 => ?_)
  · refine v_aload_n (pc := 18) 0 g dX4_seat_18 rfl rfl ?_
    refine v_ldc (pc := 19) g dX4_seat_19 co_X4_63 ?_
    refine v_cVd (pc := 21) g dX4_seat_21 lk_X4_64 (c_X4_tell 0 (-1000000001) (by decide) (by decide)) (Nat.le_of_ble_eq_true rfl) rfl rfl rfl rfl (Nat.le_of_ble_eq_true rfl) ?_
    exact v_iret (pc := 24) g hret dX4_seat_24 (⟨_, _, so_i (by unfold r_16; rw [if_neg (by omega)]), by unfold fdI; rw [if_neg (by omega)]⟩)
  · refine v_iload_n (pc := 8) 2 g dX4_seat_8 rfl rfl ?_
    refine v_iconst (pc := 9) (v := 1) g dX4_seat_9 (by decide) ?_
    refine v_bipush (pc := 10) (v := 60) g dX4_seat_10 (by decide) ?_
    refine v_cSd (pc := 12) g dX4_seat_12 lk_X4_55 ((c_X4_within _ _ _ 1 60 rfl rfl).any rfl rfl _) (Nat.le_of_ble_eq_true rfl) rfl rfl (Nat.le_of_ble_eq_true rfl) ?_
    refine v_ifb_ne (pc := 15) 25 g dX4_seat_15 rfl (fun c15 => ?_) (fun c15 => ?_)
    · have hC : C16 S p n := ⟨c5, c15⟩
      obtain ⟨i, hi, rfl⟩ := (show isP S p from c5).nat hI.n
      have ei : (nI i).toNatClampNeg = i := nI_clamp (by have := hI.n; omega)
      obtain ⟨m, hm, rfl⟩ := (show inR n 0 ((60 : Nat) : Int) from ⟨by have := c15.1; omega, c15.2⟩).nat (by omega)
      have em : (nI m).toNatClampNeg = m := nI_clamp (by omega)
      refine v_aload_n (pc := 25) 0 g dX4_seat_25 rfl rfl ?_
      refine v_iconst (pc := 26) (v := 1) g dX4_seat_26 (by decide) ?_
      refine v_bipush (pc := 27) (v := 24) g dX4_seat_27 (by decide) ?_
      refine v_iload_n (pc := 29) 1 g dX4_seat_29 rfl rfl ?_
      refine v_iload_n (pc := 30) 2 g dX4_seat_30 rfl rfl ?_
      refine v_cV (pc := 31) g dX4_seat_31 lk_X4_180 (Nat.le_of_ble_eq_true rfl) (c_X4_brightest 1 24 i m (ch1 S i) (by omega) (by omega) (fun c hc => hI.ch1 i hc) (fun c v1 hc => c_ch_1 c i hc (by have := hI.n; omega))) rfl rfl rfl rfl (Nat.le_of_ble_eq_true rfl) (fun r1 w1 hq => ?_)
      obtain ⟨T1, v1, rfl, rfl⟩ := hq
      exact v_iret (pc := 34) g hret dX4_seat_34 (⟨_, _, so_i (by unfold r_16; rw [if_pos hC, ei, em]), by unfold fdI; rw [if_pos hC]⟩)
    · refine v_aload_n (pc := 18) 0 g dX4_seat_18 rfl rfl ?_
      refine v_ldc (pc := 19) g dX4_seat_19 co_X4_63 ?_
      refine v_cVd (pc := 21) g dX4_seat_21 lk_X4_64 (c_X4_tell 0 (-1000000001) (by decide) (by decide)) (Nat.le_of_ble_eq_true rfl) rfl rfl rfl rfl (Nat.le_of_ble_eq_true rfl) ?_
      exact v_iret (pc := 24) g hret dX4_seat_24 (⟨_, _, so_i (by unfold r_16; rw [if_neg (by omega)]), by unfold fdI; rw [if_neg (by omega)]⟩)
set_option maxRecDepth 20000 in
set_option maxHeartbeats 2000000 in
theorem c_X4_kind {S : St} {u0 : Int32} {T : St} {u1 : Int32} {K : St} {u2 : Int32} {tb : Nat → Int32} {tl : Nat} {ni : Int32} {ns : Int32} {ne : Int32} {nk : Int32} {nv : Int32} {wi : Nat → Int32} {si : Nat → Int32} {nu : Nat → Int64} {fn : Nat → Int32} {kp : Int32} (p n : Int32) (hI : Inv S) : Runs 6 yX4_kind cX4_kind 3 (some .int) [.ref 0, .int p, .int n] (xW S u0 T u1 K u2 tb tl ni ns ne nk nv wi si nu fn kp) (fun r0 w0 => ∃ T1 v1, r0 = some (.int (r_17 S p n)) ∧ w0 = xW S u0 T1 v1 K u2 tb tl ni ns ne nk nv wi si nu (fdI (C16 S p n) fn 0) kp) := by
  refine Runs.of (by decide) (Nat.le_of_ble_eq_true rfl) rfl ?_
  intro X g hret hnL
  refine v_aload_n (pc := 0) 0 g dX4_kind_0 rfl rfl ?_
  refine v_iload_n (pc := 1) 1 g dX4_kind_1 rfl rfl ?_
  refine v_cVd (pc := 2) g dX4_kind_2 lk_X4_108 (c_X4_isThere _ hI.n) (Nat.le_of_ble_eq_true rfl) rfl rfl rfl rfl (Nat.le_of_ble_eq_true rfl) ?_
  refine v_ifb_eq (pc := 5) 18 g dX4_kind_5 rfl (fun c5 => ?_) (fun c5 => ?_)
  · refine v_aload_n (pc := 18) 0 g dX4_kind_18 rfl rfl ?_
    refine v_ldc (pc := 19) g dX4_kind_19 co_X4_63 ?_
    refine v_cVd (pc := 21) g dX4_kind_21 lk_X4_64 (c_X4_tell 0 (-1000000001) (by decide) (by decide)) (Nat.le_of_ble_eq_true rfl) rfl rfl rfl rfl (Nat.le_of_ble_eq_true rfl) ?_
    exact v_iret (pc := 24) g hret dX4_kind_24 (⟨_, _, so_i (by unfold r_17; rw [if_neg (by omega)]), by unfold fdI; rw [if_neg (by omega)]⟩)
  · refine v_iload_n (pc := 8) 2 g dX4_kind_8 rfl rfl ?_
    refine v_iconst (pc := 9) (v := 1) g dX4_kind_9 (by decide) ?_
    refine v_bipush (pc := 10) (v := 60) g dX4_kind_10 (by decide) ?_
    refine v_cSd (pc := 12) g dX4_kind_12 lk_X4_55 ((c_X4_within _ _ _ 1 60 rfl rfl).any rfl rfl _) (Nat.le_of_ble_eq_true rfl) rfl rfl (Nat.le_of_ble_eq_true rfl) ?_
    refine v_ifb_ne (pc := 15) 25 g dX4_kind_15 rfl (fun c15 => ?_) (fun c15 => ?_)
    · have hC : C16 S p n := ⟨c5, c15⟩
      obtain ⟨i, hi, rfl⟩ := (show isP S p from c5).nat hI.n
      have ei : (nI i).toNatClampNeg = i := nI_clamp (by have := hI.n; omega)
      obtain ⟨m, hm, rfl⟩ := (show inR n 0 ((60 : Nat) : Int) from ⟨by have := c15.1; omega, c15.2⟩).nat (by omega)
      have em : (nI m).toNatClampNeg = m := nI_clamp (by omega)
      refine v_aload_n (pc := 25) 0 g dX4_kind_25 rfl rfl ?_
      refine v_iconst (pc := 26) (v := 2) g dX4_kind_26 (by decide) ?_
      refine v_bipush (pc := 27) (v := 6) g dX4_kind_27 (by decide) ?_
      refine v_iload_n (pc := 29) 1 g dX4_kind_29 rfl rfl ?_
      refine v_iload_n (pc := 30) 2 g dX4_kind_30 rfl rfl ?_
      refine v_cV (pc := 31) g dX4_kind_31 lk_X4_180 (Nat.le_of_ble_eq_true rfl) (c_X4_brightest 2 6 i m (ch2 S i) (by omega) (by omega) (fun c hc => hI.ch2 i hc) (fun c v1 hc => c_ch_2 c i (by have := hI.n; omega))) rfl rfl rfl rfl (Nat.le_of_ble_eq_true rfl) (fun r1 w1 hq => ?_)
      obtain ⟨T1, v1, rfl, rfl⟩ := hq
      exact v_iret (pc := 34) g hret dX4_kind_34 (⟨_, _, so_i (by unfold r_17; rw [if_pos hC, ei, em]), by unfold fdI; rw [if_pos hC]⟩)
    · refine v_aload_n (pc := 18) 0 g dX4_kind_18 rfl rfl ?_
      refine v_ldc (pc := 19) g dX4_kind_19 co_X4_63 ?_
      refine v_cVd (pc := 21) g dX4_kind_21 lk_X4_64 (c_X4_tell 0 (-1000000001) (by decide) (by decide)) (Nat.le_of_ble_eq_true rfl) rfl rfl rfl rfl (Nat.le_of_ble_eq_true rfl) ?_
      exact v_iret (pc := 24) g hret dX4_kind_24 (⟨_, _, so_i (by unfold r_17; rw [if_neg (by omega)]), by unfold fdI; rw [if_neg (by omega)]⟩)
set_option maxRecDepth 20000 in
set_option maxHeartbeats 2000000 in
theorem c_X4_open {S : St} {u0 : Int32} {T : St} {u1 : Int32} {K : St} {u2 : Int32} {tb : Nat → Int32} {tl : Nat} {ni : Int32} {ns : Int32} {ne : Int32} {nk : Int32} {nv : Int32} {wi : Nat → Int32} {si : Nat → Int32} {nu : Nat → Int64} {fn : Nat → Int32} {kp : Int32} (n : Int32) (hI : Inv S) : Runs 6 yX4_open cX4_open 2 (some .int) [.ref 0, .int n] (xW S u0 T u1 K u2 tb tl ni ns ne nk nv wi si nu fn kp) (fun r0 w0 => ∃ T1 v1, r0 = some (.int (r_21 S n)) ∧ w0 = xW S u0 T1 v1 K u2 tb tl ni ns ne nk nv wi si nu (fdI (inR n 1 60) fn 0) kp) := by
  refine Runs.of (by decide) (Nat.le_of_ble_eq_true rfl) rfl ?_
  intro X g hret hnL
  refine v_iload_n (pc := 0) 1 g dX4_open_0 rfl rfl ?_
  refine v_iconst (pc := 1) (v := 1) g dX4_open_1 (by decide) ?_
  refine v_bipush (pc := 2) (v := 60) g dX4_open_2 (by decide) ?_
  refine v_cSd (pc := 4) g dX4_open_4 lk_X4_55 ((c_X4_within _ _ _ 1 60 rfl rfl).any rfl rfl _) (Nat.le_of_ble_eq_true rfl) rfl rfl (Nat.le_of_ble_eq_true rfl) ?_
  refine v_ifb_ne (pc := 7) 17 g dX4_open_7 rfl (fun c7 => ?_) (fun c7 => ?_)
  · obtain ⟨m, hm, rfl⟩ := (show inR n 0 ((60 : Nat) : Int) from ⟨by have := c7.1; omega, c7.2⟩).nat (by omega)
    have em : (nI m).toNatClampNeg = m := nI_clamp (by omega)
    refine v_aload_n (pc := 17) 0 g dX4_open_17 rfl rfl ?_
    refine v_iconst (pc := 18) (v := 3) g dX4_open_18 (by decide) ?_
    refine v_bipush (pc := 19) (v := 12) g dX4_open_19 (by decide) ?_
    refine v_iconst (pc := 21) (v := 0) g dX4_open_21 (by decide) ?_
    refine v_iload_n (pc := 22) 1 g dX4_open_22 rfl rfl ?_
    refine v_cV (pc := 23) g dX4_open_23 lk_X4_180 (Nat.le_of_ble_eq_true rfl) (c_X4_brightest 3 12 0 m (ch3 S) (by omega) (by omega) (fun c _ => hI.ch3 c) (fun c v1 hc => c_ch_3 c 0 hc)) rfl rfl rfl rfl (Nat.le_of_ble_eq_true rfl) (fun r1 w1 hq => ?_)
    obtain ⟨T1, v1, rfl, rfl⟩ := hq
    exact v_iret (pc := 26) g hret dX4_open_26 (⟨_, _, so_i (by unfold r_21; rw [if_pos c7, em]), by unfold fdI; rw [if_pos c7]⟩)
  · refine v_aload_n (pc := 10) 0 g dX4_open_10 rfl rfl ?_
    refine v_ldc (pc := 11) g dX4_open_11 co_X4_63 ?_
    refine v_cVd (pc := 13) g dX4_open_13 lk_X4_64 (c_X4_tell 0 (-1000000001) (by decide) (by decide)) (Nat.le_of_ble_eq_true rfl) rfl rfl rfl rfl (Nat.le_of_ble_eq_true rfl) ?_
    exact v_iret (pc := 16) g hret dX4_open_16 (⟨_, _, so_i (by unfold r_21; rw [if_neg c7]), by unfold fdI; rw [if_neg c7]⟩)
set_option maxRecDepth 20000 in
set_option maxHeartbeats 2000000 in
theorem c_X4_driest {S : St} {u0 : Int32} {T : St} {u1 : Int32} {K : St} {u2 : Int32} {tb : Nat → Int32} {tl : Nat} {ni : Int32} {ns : Int32} {ne : Int32} {nk : Int32} {nv : Int32} {wi : Nat → Int32} {si : Nat → Int32} {nu : Nat → Int64} {fn : Nat → Int32} {kp : Int32} (n v : Int32) (hI : Inv S) : Runs 5 yX4_driest cX4_driest 4 (some .int) [.ref 0, .int n, .int v] (xW S u0 T u1 K u2 tb tl ni ns ne nk nv wi si nu fn kp) (fun r0 w0 => ∃ T1 v1, r0 = some (.int (r_18 S n v)) ∧ w0 = xW S u0 T1 v1 K u2 tb tl ni ns ne nk nv wi si nu (f_18 S fn n v) kp) := by
  refine Runs.of (by decide) (Nat.le_of_ble_eq_true rfl) rfl ?_
  intro X g hret hnL
  refine v_iload_n (pc := 0) 1 g dX4_driest_0 rfl rfl ?_
  refine v_iconst (pc := 1) (v := 1) g dX4_driest_1 (by decide) ?_
  refine v_bipush (pc := 2) (v := 60) g dX4_driest_2 (by decide) ?_
  refine v_cSd (pc := 4) g dX4_driest_4 lk_X4_55 ((c_X4_within _ _ _ 1 60 rfl rfl).any rfl rfl _) (Nat.le_of_ble_eq_true rfl) rfl rfl (Nat.le_of_ble_eq_true rfl) ?_
  refine v_ifb_eq (pc := 7) 20 g dX4_driest_7 rfl (fun c7 => ?_) (fun c7 => ?_)
  · refine v_aload_n (pc := 20) 0 g dX4_driest_20 rfl rfl ?_
    refine v_ldc (pc := 21) g dX4_driest_21 co_X4_63 ?_
    refine v_cVd (pc := 23) g dX4_driest_23 lk_X4_64 (c_X4_tell 0 (-1000000001) (by decide) (by decide)) (Nat.le_of_ble_eq_true rfl) rfl rfl rfl rfl (Nat.le_of_ble_eq_true rfl) ?_
    exact v_iret (pc := 26) g hret dX4_driest_26 (⟨_, _, so_i (by unfold r_18; rw [if_neg (by omega)]), by unfold f_18; rw [if_neg (by omega)]⟩)
  · refine v_iload_n (pc := 10) 2 g dX4_driest_10 rfl rfl ?_
    refine v_iconst (pc := 11) (v := 0) g dX4_driest_11 (by decide) ?_
    refine v_ldc (pc := 12) g dX4_driest_12 co_X4_152 ?_
    refine v_cSd (pc := 14) g dX4_driest_14 lk_X4_55 ((c_X4_within _ _ _ 0 99999 rfl rfl).any rfl rfl _) (Nat.le_of_ble_eq_true rfl) rfl rfl (Nat.le_of_ble_eq_true rfl) ?_
    refine v_ifb_ne (pc := 17) 27 g dX4_driest_17 rfl (fun c17 => ?_) (fun c17 => ?_)
    · have hC : C18 n v := ⟨c7, c17⟩
      obtain ⟨m, hm, rfl⟩ := (show inR n 0 ((60 : Nat) : Int) from ⟨by have := c7.1; omega, c7.2⟩).nat (by omega)
      have em : (nI m).toNatClampNeg = m := nI_clamp (by omega)
      refine v_bipush (pc := 27) (v := 9) g dX4_driest_27 (by decide) ?_
      refine v_istore_n (pc := 29) 3 _ g dX4_driest_29 rfl (Nat.le_of_ble_eq_true rfl) hnL.symm rfl ?_
      have L30 : ∀ (fu : Nat) (T : St) (u1 : Int32) (j : Nat), j ≤ 10 → dwn (dP S v m) 10 = dwn (dP S v m) j → j < fu → V X 30 [some (.ref 0), some (.int (nI m)), some (.int v), some (.int (nI j - 1))] [] (xW S u0 T u1 K u2 tb tl ni ns ne nk nv wi si nu fn kp) := by
        intro fu
        induction fu with
        | zero => intro T u1 j hj hf hm; exact absurd hm (Nat.not_lt_zero _)
        | succ fu ih =>
          intro T u1 j hj hf hm
          refine v_iload_n (pc := 30) 3 g dX4_driest_30 rfl rfl ?_
          refine v_if_lt (pc := 31) 73 g dX4_driest_31 rfl (fun c31 => ?_) (fun c31 => ?_)
          · have e31 : j = 0 := by rcases Nat.eq_zero_or_pos j with z | z; exact z; exact absurd c31 (by rw [show nI j - 1 = nI (j - 1) from pk_sub (b := 1) z]; exact nI_pos (by omega))
            subst e31
            refine v_aload_n (pc := 73) 0 g dX4_driest_73 rfl rfl ?_
            refine v_ldc (pc := 74) g dX4_driest_74 co_X4_173 ?_
            refine v_cVd (pc := 76) g dX4_driest_76 lk_X4_64 (c_X4_tell 3 (-1000000004) (by decide) (by decide)) (Nat.le_of_ble_eq_true rfl) rfl rfl rfl rfl (Nat.le_of_ble_eq_true rfl) ?_
            exact v_iret (pc := 79) g hret dX4_driest_79 (⟨_, _, so_i (by unfold r_18 a_18; rw [if_pos hC, em, hf]; rfl), by unfold f_18 a_18; rw [if_pos hC, em, hf]; rfl⟩)
          · have e31 : 0 < j := by rcases Nat.eq_zero_or_pos j with z | z; exact absurd (by subst z; decide) c31; exact z
            obtain ⟨j, rfl⟩ : ∃ z, j = z + 1 := ⟨j - 1, by omega⟩
            rw [nI_pred]
            refine v_aload_n (pc := 34) 0 g dX4_driest_34 rfl rfl ?_
            refine v_cVd (pc := 35) g dX4_driest_35 lk_X4_158 (c_X4_startTrial) (Nat.le_of_ble_eq_true rfl) rfl rfl rfl rfl (Nat.le_of_ble_eq_true rfl) ?_
            refine v_aload_n (pc := 38) 0 g dX4_driest_38 rfl rfl ?_
            refine v_get (pc := 39) g dX4_driest_39 fl_X4_16 rfl rfl ?_
            refine v_iload_n (pc := 42) 3 g dX4_driest_42 rfl rfl ?_
            refine v_put (pc := 43) _ g dX4_driest_43 fp_X4_74 rfl (Nat.le_of_ble_eq_true rfl) rfl rfl rfl rfl ?_
            refine v_w (xW S u0 (pDr S (nI j)) u1 K u2 tb tl ni ns ne nk nv wi si nu fn kp) rfl ?_
            refine v_aload_n (pc := 46) 0 g dX4_driest_46 rfl rfl ?_
            refine v_get (pc := 47) g dX4_driest_47 fl_X4_16 rfl rfl ?_
            refine v_iload_n (pc := 50) 1 g dX4_driest_50 rfl rfl ?_
            refine v_cVd (pc := 51) g dX4_driest_51 lk_X4_154 (xt_goMinutes m (hI.drc (by omega)) (by omega)) (Nat.le_of_ble_eq_true rfl) rfl rfl rfl rfl (Nat.le_of_ble_eq_true rfl) ?_
            refine v_aload_n (pc := 54) 0 g dX4_driest_54 rfl rfl ?_
            refine v_get (pc := 55) g dX4_driest_55 fl_X4_16 rfl rfl ?_
            refine v_cVd (pc := 58) g dX4_driest_58 lk_X4_94 (xt_readOfAll) (Nat.le_of_ble_eq_true rfl) rfl rfl rfl rfl (Nat.le_of_ble_eq_true rfl) ?_
            refine v_iload_n (pc := 61) 2 g dX4_driest_61 rfl rfl ?_
            refine v_icmp_lt (pc := 62) 67 g dX4_driest_62 rfl (fun c62 => ?_) (fun c62 => ?_)
            · have e62 : dwn (dP S v m) (j + 1) = dwn (dP S v m) j := if_neg (by rw [show dP S v m j = false from decide_eq_false (Int32.not_le.mpr c62)]; exact Bool.false_ne_true)
              refine v_iinc (pc := 67) _ _ g dX4_driest_67 rfl rfl hnL.symm rfl ?_
              rw [dec1]
              refine v_goto (pc := 70) 30 g dX4_driest_70 rfl ?_
              exact ih _ _ j (by omega) (hf.trans e62) (by omega)
            · have e62 : dwn (dP S v m) (j + 1) = some j := if_pos (decide_eq_true (Int32.not_lt.mp c62))
              refine v_iload_n (pc := 65) 3 g dX4_driest_65 rfl rfl ?_
              exact v_iret (pc := 66) g hret dX4_driest_66 (⟨_, _, so_i (by unfold r_18 a_18; rw [if_pos hC, em, hf, e62]; rfl), by unfold f_18 a_18; rw [if_pos hC, em, hf, e62]; rfl⟩)
      exact L30 11 _ _ 10 (by omega) rfl (by omega)
    · refine v_aload_n (pc := 20) 0 g dX4_driest_20 rfl rfl ?_
      refine v_ldc (pc := 21) g dX4_driest_21 co_X4_63 ?_
      refine v_cVd (pc := 23) g dX4_driest_23 lk_X4_64 (c_X4_tell 0 (-1000000001) (by decide) (by decide)) (Nat.le_of_ble_eq_true rfl) rfl rfl rfl rfl (Nat.le_of_ble_eq_true rfl) ?_
      exact v_iret (pc := 26) g hret dX4_driest_26 (⟨_, _, so_i (by unfold r_18; rw [if_neg (by omega)]), by unfold f_18; rw [if_neg (by omega)]⟩)
set_option maxRecDepth 20000 in
set_option maxHeartbeats 2000000 in
theorem c_X4_needs {S : St} {u0 : Int32} {T : St} {u1 : Int32} {K : St} {u2 : Int32} {tb : Nat → Int32} {tl : Nat} {ni : Int32} {ns : Int32} {ne : Int32} {nk : Int32} {nv : Int32} {wi : Nat → Int32} {si : Nat → Int32} {nu : Nat → Int64} {fn : Nat → Int32} {kp : Int32} (p h n : Int32) (hI : Inv S) : Runs 5 yX4_needs cX4_needs 5 (some .int) [.ref 0, .int p, .int h, .int n] (xW S u0 T u1 K u2 tb tl ni ns ne nk nv wi si nu fn kp) (fun r0 w0 => ∃ T1 v1, r0 = some (.int (r_19 S p h n)) ∧ w0 = xW S u0 T1 v1 K u2 tb tl ni ns ne nk nv wi si nu (f_19 S fn p h n) kp) := by
  refine Runs.of (by decide) (Nat.le_of_ble_eq_true rfl) rfl ?_
  intro X g hret hnL
  refine v_aload_n (pc := 0) 0 g dX4_needs_0 rfl rfl ?_
  refine v_iload_n (pc := 1) 1 g dX4_needs_1 rfl rfl ?_
  refine v_cVd (pc := 2) g dX4_needs_2 lk_X4_108 (c_X4_isThere _ hI.n) (Nat.le_of_ble_eq_true rfl) rfl rfl rfl rfl (Nat.le_of_ble_eq_true rfl) ?_
  refine v_ifb_eq (pc := 5) 25 g dX4_needs_5 rfl (fun c5 => ?_) (fun c5 => ?_)
  · refine v_aload_n (pc := 25) 0 g dX4_needs_25 rfl rfl ?_
    refine v_ldc (pc := 26) g dX4_needs_26 co_X4_63 ?_
    refine v_cVd (pc := 28) g dX4_needs_28 lk_X4_64 (c_X4_tell 0 (-1000000001) (by decide) (by decide)) (Nat.le_of_ble_eq_true rfl) rfl rfl rfl rfl (Nat.le_of_ble_eq_true rfl) ?_
    exact v_iret (pc := 31) g hret dX4_needs_31 (⟨_, _, so_i (by unfold r_19; rw [if_neg (by omega)]), by unfold f_19; rw [if_neg (by omega)]⟩)
  · refine v_iload_n (pc := 8) 2 g dX4_needs_8 rfl rfl ?_
    refine v_cSd (pc := 9) g dX4_needs_9 lk_X4_51 ((c_X4_isHouse _).any rfl rfl _) (Nat.le_of_ble_eq_true rfl) rfl rfl (Nat.le_of_ble_eq_true rfl) ?_
    refine v_ifb_eq (pc := 12) 25 g dX4_needs_12 rfl (fun c12 => ?_) (fun c12 => ?_)
    · refine v_aload_n (pc := 25) 0 g dX4_needs_25 rfl rfl ?_
      refine v_ldc (pc := 26) g dX4_needs_26 co_X4_63 ?_
      refine v_cVd (pc := 28) g dX4_needs_28 lk_X4_64 (c_X4_tell 0 (-1000000001) (by decide) (by decide)) (Nat.le_of_ble_eq_true rfl) rfl rfl rfl rfl (Nat.le_of_ble_eq_true rfl) ?_
      exact v_iret (pc := 31) g hret dX4_needs_31 (⟨_, _, so_i (by unfold r_19; rw [if_neg (by omega)]), by unfold f_19; rw [if_neg (by omega)]⟩)
    · refine v_iload_n (pc := 15) 3 g dX4_needs_15 rfl rfl ?_
      refine v_iconst (pc := 16) (v := 0) g dX4_needs_16 (by decide) ?_
      refine v_bipush (pc := 17) (v := 60) g dX4_needs_17 (by decide) ?_
      refine v_cSd (pc := 19) g dX4_needs_19 lk_X4_55 ((c_X4_within _ _ _ 0 60 rfl rfl).any rfl rfl _) (Nat.le_of_ble_eq_true rfl) rfl rfl (Nat.le_of_ble_eq_true rfl) ?_
      refine v_ifb_ne (pc := 22) 32 g dX4_needs_22 rfl (fun c22 => ?_) (fun c22 => ?_)
      · have hC : C19 S p h n := ⟨c5, c12, c22⟩
        obtain ⟨i, hi, rfl⟩ := (show isP S p from c5).nat hI.n
        have ei : (nI i).toNatClampNeg = i := nI_clamp (by have := hI.n; omega)
        obtain ⟨z, hz, rfl⟩ := c12.nat (m := 11) (by omega)
        have ez : (nI z).toNatClampNeg = z := nI_clamp (by omega)
        obtain ⟨m, hm, rfl⟩ := c22.nat (m := 60) (by omega)
        have em : (nI m).toNatClampNeg = m := nI_clamp (by omega)
        refine v_iconst (pc := 32) (v := 0) g dX4_needs_32 (by decide) ?_
        refine v_istore (pc := 33) _ g dX4_needs_33 (Nat.le_of_ble_eq_true rfl) hnL.symm rfl ?_
        have L35 : ∀ (fu : Nat) (T : St) (u1 : Int32) (k : Nat), k ≤ 100 → fst (nP S i z m) 100 0 = fst (nP S i z m) (100 - k) k → 100 - k < fu → V X 35 [some (.ref 0), some (.int (nI i)), some (.int (nI z)), some (.int (nI m)), some (.int (nI k))] [] (xW S u0 T u1 K u2 tb tl ni ns ne nk nv wi si nu fn kp) := by
          intro fu
          induction fu with
          | zero => intro T u1 k hk hf hm; exact absurd hm (Nat.not_lt_zero _)
          | succ fu ih =>
            intro T u1 k hk hf hm
            refine v_iload (pc := 35) g dX4_needs_35 rfl ?_
            refine v_bipush (pc := 37) (v := 99) g dX4_needs_37 (by decide) ?_
            refine v_icmp_gt (pc := 39) 85 g dX4_needs_39 rfl (fun c39 => ?_) (fun c39 => ?_)
            · have e39 : 99 < k := (nI_ltI (a := 99) (b := k) (by omega) (by omega)).mp c39
              rw [fst_e (by omega)] at hf
              refine v_aload_n (pc := 85) 0 g dX4_needs_85 rfl rfl ?_
              refine v_ldc (pc := 86) g dX4_needs_86 co_X4_173 ?_
              refine v_cVd (pc := 88) g dX4_needs_88 lk_X4_64 (c_X4_tell 3 (-1000000004) (by decide) (by decide)) (Nat.le_of_ble_eq_true rfl) rfl rfl rfl rfl (Nat.le_of_ble_eq_true rfl) ?_
              exact v_iret (pc := 91) g hret dX4_needs_91 (⟨_, _, so_i (by unfold r_19 a_19; rw [if_pos hC, ei, ez, em, hf]; rfl), by unfold f_19 a_19; rw [if_pos hC, ei, ez, em, hf]; rfl⟩)
            · have e39 : k ≤ 99 := Nat.not_lt.mp (fun z => c39 ((nI_ltI (a := 99) (b := k) (by omega) (by omega)).mpr z))
              refine v_aload_n (pc := 42) 0 g dX4_needs_42 rfl rfl ?_
              refine v_cVd (pc := 43) g dX4_needs_43 lk_X4_158 (c_X4_startTrial) (Nat.le_of_ble_eq_true rfl) rfl rfl rfl rfl (Nat.le_of_ble_eq_true rfl) ?_
              refine v_aload_n (pc := 46) 0 g dX4_needs_46 rfl rfl ?_
              refine v_get (pc := 47) g dX4_needs_47 fl_X4_16 rfl rfl ?_
              refine v_get (pc := 50) g dX4_needs_50 fl_X4_120 rfl rfl ?_
              refine v_iload_n (pc := 53) 1 g dX4_needs_53 rfl rfl ?_
              refine v_iload (pc := 54) g dX4_needs_54 rfl ?_
              refine v_iastN (pc := 56) _ _ g dX4_needs_56 rfl rfl (by have := hI.n; omega) (Nat.le_of_ble_eq_true rfl) rfl ?_
              refine v_w (xW S u0 (pCo S (upd (sCo S) i (nI k))) u1 K u2 tb tl ni ns ne nk nv wi si nu fn kp) rfl ?_
              refine v_aload_n (pc := 57) 0 g dX4_needs_57 rfl rfl ?_
              refine v_get (pc := 58) g dX4_needs_58 fl_X4_16 rfl rfl ?_
              refine v_iload_n (pc := 61) 3 g dX4_needs_61 rfl rfl ?_
              refine v_cVd (pc := 62) g dX4_needs_62 lk_X4_154 (xt_goMinutes m (hI.coc i e39) (by omega)) (Nat.le_of_ble_eq_true rfl) rfl rfl rfl rfl (Nat.le_of_ble_eq_true rfl) ?_
              refine v_aload_n (pc := 65) 0 g dX4_needs_65 rfl rfl ?_
              refine v_get (pc := 66) g dX4_needs_66 fl_X4_16 rfl rfl ?_
              refine v_iload_n (pc := 69) 2 g dX4_needs_69 rfl rfl ?_
              refine v_cVd (pc := 70) g dX4_needs_70 lk_X4_167 (xt_burns z (by omega)) (Nat.le_of_ble_eq_true rfl) rfl rfl rfl rfl (Nat.le_of_ble_eq_true rfl) ?_
              refine v_ifb_eq (pc := 73) 79 g dX4_needs_73 rfl (fun c73 => ?_) (fun c73 => ?_)
              · rw [fst_f (by omega) (show nP S i z m k = false from decide_eq_false c73)] at hf
                refine v_iincN (pc := 79) g dX4_needs_79 rfl hnL.symm ?_
                refine v_goto (pc := 82) 35 g dX4_needs_82 rfl ?_
                exact ih _ _ (k + 1) (by omega) hf (by omega)
              · rw [fst_t (by omega) (show nP S i z m k = true from decide_eq_true c73)] at hf
                refine v_iload (pc := 76) g dX4_needs_76 rfl ?_
                exact v_iret (pc := 78) g hret dX4_needs_78 (⟨_, _, so_i (by unfold r_19 a_19; rw [if_pos hC, ei, ez, em, hf]; rfl), by unfold f_19 a_19; rw [if_pos hC, ei, ez, em, hf]; rfl⟩)
        exact L35 101 _ _ 0 (Nat.zero_le _) rfl (by omega)
      · refine v_aload_n (pc := 25) 0 g dX4_needs_25 rfl rfl ?_
        refine v_ldc (pc := 26) g dX4_needs_26 co_X4_63 ?_
        refine v_cVd (pc := 28) g dX4_needs_28 lk_X4_64 (c_X4_tell 0 (-1000000001) (by decide) (by decide)) (Nat.le_of_ble_eq_true rfl) rfl rfl rfl rfl (Nat.le_of_ble_eq_true rfl) ?_
        exact v_iret (pc := 31) g hret dX4_needs_31 (⟨_, _, so_i (by unfold r_19; rw [if_neg (by omega)]), by unfold f_19; rw [if_neg (by omega)]⟩)
set_option maxRecDepth 20000 in
set_option maxHeartbeats 2000000 in
theorem c_X4_dear {S : St} {u0 : Int32} {T : St} {u1 : Int32} {K : St} {u2 : Int32} {tb : Nat → Int32} {tl : Nat} {ni : Int32} {ns : Int32} {ne : Int32} {nk : Int32} {nv : Int32} {wi : Nat → Int32} {si : Nat → Int32} {nu : Nat → Int64} {fn : Nat → Int32} {kp : Int32} (n : Int32) (hI : Inv S) : Runs 5 yX4_dear cX4_dear 6 (some .int) [.ref 0, .int n] (xW S u0 T u1 K u2 tb tl ni ns ne nk nv wi si nu fn kp) (fun r0 w0 => ∃ T1 v1, r0 = some (.int (r_20 S n)) ∧ w0 = xW S u0 T1 v1 K u2 tb tl ni ns ne nk nv wi si nu (f_15 S fn n) kp) := by
  refine Runs.of (by decide) (Nat.le_of_ble_eq_true rfl) rfl ?_
  intro X g hret hnL
  refine v_iload_n (pc := 0) 1 g dX4_dear_0 rfl rfl ?_
  refine v_iconst (pc := 1) (v := 1) g dX4_dear_1 (by decide) ?_
  refine v_bipush (pc := 2) (v := 60) g dX4_dear_2 (by decide) ?_
  refine v_cSd (pc := 4) g dX4_dear_4 lk_X4_55 ((c_X4_within _ _ _ 1 60 rfl rfl).any rfl rfl _) (Nat.le_of_ble_eq_true rfl) rfl rfl (Nat.le_of_ble_eq_true rfl) ?_
  refine v_ifb_ne (pc := 7) 17 g dX4_dear_7 rfl (fun c7 => ?_) (fun c7 => ?_)
  · obtain ⟨m, hm, rfl⟩ := (show inR n 0 ((60 : Nat) : Int) from ⟨by have := c7.1; omega, c7.2⟩).nat (by omega)
    have em : (nI m).toNatClampNeg = m := nI_clamp (by omega)
    refine v_aload_n (pc := 17) 0 g dX4_dear_17 rfl rfl ?_
    refine v_get (pc := 18) g dX4_dear_18 fl_X4_10 rfl rfl ?_
    refine v_get (pc := 21) g dX4_dear_21 fl_X4_100 rfl rfl ?_
    refine v_if_ne (pc := 24) 34 g dX4_dear_24 rfl (fun c24 => ?_) (fun c24 => ?_)
    · have e24 : ¬ sN S = 0 := fun z => c24 (by rw [z]; rfl)
      refine v_iconst (pc := 34) (v := 0) g dX4_dear_34 (by decide) ?_
      refine v_istore_n (pc := 35) 2 _ g dX4_dear_35 rfl (Nat.le_of_ble_eq_true rfl) hnL.symm rfl ?_
      refine v_ldc (pc := 36) g dX4_dear_36 co_X4_186 ?_
      refine v_istore_n (pc := 38) 3 _ g dX4_dear_38 rfl (Nat.le_of_ble_eq_true rfl) hnL.symm rfl ?_
      refine v_iconst (pc := 39) (v := 0) g dX4_dear_39 (by decide) ?_
      refine v_istore (pc := 40) _ g dX4_dear_40 (Nat.le_of_ble_eq_true rfl) hnL.symm rfl ?_
      refine v_fg [true, true, true, true, true, false] ?_
      have L42 : ∀ (fu : Nat) (T : St) (u1 : Int32) (k : Nat), k ≤ sN S → sN S - k < fu → V X 42 [some (.ref 0), some (.int (nI m)), some (.int (lst (fun c => rd m (co0 S c)) k).1), some (.int (lst (fun c => rd m (co0 S c)) k).2), some (.int (nI k)), none] [] (xW S u0 T u1 K u2 tb tl ni ns ne nk nv wi si nu fn kp) := by
        intro fu
        induction fu with
        | zero => intro T u1 k hk hm; exact absurd hm (Nat.not_lt_zero _)
        | succ fu ih =>
          intro T u1 k hk hm
          refine v_iload (pc := 42) g dX4_dear_42 rfl ?_
          refine v_aload_n (pc := 44) 0 g dX4_dear_44 rfl rfl ?_
          refine v_get (pc := 45) g dX4_dear_45 fl_X4_10 rfl rfl ?_
          refine v_get (pc := 48) g dX4_dear_48 fl_X4_100 rfl rfl ?_
          refine v_icmp_ge (pc := 51) 104 g dX4_dear_51 rfl (fun c51 => ?_) (fun c51 => ?_)
          · have e51 : k = sN S := ge_t (n := sN S) rfl hk (by have := hI.n; omega) c51
            subst e51
            refine v_iload_n (pc := 104) 2 g dX4_dear_104 rfl rfl ?_
            exact v_iret (pc := 105) g hret dX4_dear_105 (⟨_, _, so_i (by unfold r_20 r20k; rw [if_pos c7, if_neg e24, em]), by unfold f_15 f15k; rw [if_pos c7, if_neg e24]⟩)
          · have e51 : k < sN S := ge_f (n := sN S) rfl hk (by have := hI.n; omega) c51
            refine v_aload_n (pc := 54) 0 g dX4_dear_54 rfl rfl ?_
            refine v_cVd (pc := 55) g dX4_dear_55 lk_X4_158 (c_X4_startTrial) (Nat.le_of_ble_eq_true rfl) rfl rfl rfl rfl (Nat.le_of_ble_eq_true rfl) ?_
            refine v_aload_n (pc := 58) 0 g dX4_dear_58 rfl rfl ?_
            refine v_get (pc := 59) g dX4_dear_59 fl_X4_16 rfl rfl ?_
            refine v_get (pc := 62) g dX4_dear_62 fl_X4_120 rfl rfl ?_
            refine v_iload (pc := 65) g dX4_dear_65 rfl ?_
            refine v_iconst (pc := 67) (v := 0) g dX4_dear_67 (by decide) ?_
            refine v_iastN (pc := 68) _ _ g dX4_dear_68 rfl rfl (by have := hI.n; omega) (Nat.le_of_ble_eq_true rfl) rfl ?_
            refine v_w (xW S u0 (co0 S k) u1 K u2 tb tl ni ns ne nk nv wi si nu fn kp) rfl ?_
            refine v_aload_n (pc := 69) 0 g dX4_dear_69 rfl rfl ?_
            refine v_get (pc := 70) g dX4_dear_70 fl_X4_16 rfl rfl ?_
            refine v_iload_n (pc := 73) 1 g dX4_dear_73 rfl rfl ?_
            refine v_cVd (pc := 74) g dX4_dear_74 lk_X4_154 (xt_goMinutes m (hI.co0 k) (by omega)) (Nat.le_of_ble_eq_true rfl) rfl rfl rfl rfl (Nat.le_of_ble_eq_true rfl) ?_
            refine v_aload_n (pc := 77) 0 g dX4_dear_77 rfl rfl ?_
            refine v_get (pc := 78) g dX4_dear_78 fl_X4_16 rfl rfl ?_
            refine v_cVd (pc := 81) g dX4_dear_81 lk_X4_94 (xt_readOfAll) (Nat.le_of_ble_eq_true rfl) rfl rfl rfl rfl (Nat.le_of_ble_eq_true rfl) ?_
            refine v_istore (pc := 84) _ g dX4_dear_84 (Nat.le_of_ble_eq_true rfl) hnL.symm rfl ?_
            refine v_iload (pc := 86) g dX4_dear_86 rfl ?_
            refine v_iload_n (pc := 88) 3 g dX4_dear_88 rfl rfl ?_
            refine v_icmp_ge (pc := 89) 98 g dX4_dear_89 rfl (fun c89 => ?_) (fun c89 => ?_)
            · have eb : lst (fun c => rd m (co0 S c)) (k + 1) = lst (fun c => rd m (co0 S c)) k := if_neg (Int32.not_lt.mpr c89)
              refine v_iincN (pc := 98) g dX4_dear_98 rfl hnL.symm ?_
              refine v_goto (pc := 101) 42 g dX4_dear_101 rfl ?_
              refine v_fg [true, true, true, true, true, false] ?_
              refine v_loE [some (.ref 0), some (.int (nI m)), some (.int (lst (fun c => rd m (co0 S c)) (k + 1)).1), some (.int (lst (fun c => rd m (co0 S c)) (k + 1)).2), some (.int (nI (k + 1))), none] (by rw [eb]; rfl) ?_
              exact ih _ _ (k + 1) (by omega) (by omega)
            · have eb : lst (fun c => rd m (co0 S c)) (k + 1) = (nI k, rd m (co0 S k)) := if_pos (Int32.not_le.mp c89)
              refine v_iload (pc := 92) g dX4_dear_92 rfl ?_
              refine v_istore_n (pc := 94) 3 _ g dX4_dear_94 rfl (Nat.le_of_ble_eq_true rfl) hnL.symm rfl ?_
              refine v_iload (pc := 95) g dX4_dear_95 rfl ?_
              refine v_istore_n (pc := 97) 2 _ g dX4_dear_97 rfl (Nat.le_of_ble_eq_true rfl) hnL.symm rfl ?_
              refine v_iincN (pc := 98) g dX4_dear_98 rfl hnL.symm ?_
              refine v_goto (pc := 101) 42 g dX4_dear_101 rfl ?_
              refine v_fg [true, true, true, true, true, false] ?_
              refine v_loE [some (.ref 0), some (.int (nI m)), some (.int (lst (fun c => rd m (co0 S c)) (k + 1)).1), some (.int (lst (fun c => rd m (co0 S c)) (k + 1)).2), some (.int (nI (k + 1))), none] (by rw [eb]; rfl) ?_
              exact ih _ _ (k + 1) (by omega) (by omega)
      exact L42 (sN S + 1) _ _ 0 (Nat.zero_le _) (by omega)
    · have e24 : sN S = 0 := (nI_eq (b := 0) (by have := hI.n; omega) (by omega)).mp c24
      refine v_aload_n (pc := 27) 0 g dX4_dear_27 rfl rfl ?_
      refine v_ldc (pc := 28) g dX4_dear_28 co_X4_173 ?_
      refine v_cVd (pc := 30) g dX4_dear_30 lk_X4_64 (c_X4_tell 3 (-1000000004) (by decide) (by decide)) (Nat.le_of_ble_eq_true rfl) rfl rfl rfl rfl (Nat.le_of_ble_eq_true rfl) ?_
      exact v_iret (pc := 33) g hret dX4_dear_33 (⟨_, _, so_i (by unfold r_20 r20k; rw [if_pos c7, if_pos e24]), by unfold f_15 f15k; rw [if_pos c7, if_pos e24]⟩)
  · refine v_aload_n (pc := 10) 0 g dX4_dear_10 rfl rfl ?_
    refine v_ldc (pc := 11) g dX4_dear_11 co_X4_63 ?_
    refine v_cVd (pc := 13) g dX4_dear_13 lk_X4_64 (c_X4_tell 0 (-1000000001) (by decide) (by decide)) (Nat.le_of_ble_eq_true rfl) rfl rfl rfl rfl (Nat.le_of_ble_eq_true rfl) ?_
    exact v_iret (pc := 16) g hret dX4_dear_16 (⟨_, _, so_i (by unfold r_20; rw [if_neg c7]), by unfold f_15; rw [if_neg c7]⟩)
