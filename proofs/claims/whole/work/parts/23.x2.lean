/-! ===== what each call answers, II ===== -/
def r_32 (K : St) (kp : Int32) : Int32 := if kp = 0 then -1000000004 else nI (sN K)
def s_32 (S K : St) (kp : Int32) : St := if kp = 0 then S else K
def f_32 (kp : Int32) (fn : Nat → Int32) : Nat → Int32 := if kp = 0 then fdn fn 3 else fn
def r_33 (kp : Int32) : Int32 := if kp = 0 then 0 else 1
def fdT (tb : Nat → Int32) (tl : Nat) (b : Int32) (m : Nat) : Nat → (Nat → Int32)
  | 0 => tb
  | k + 1 => upd (fdT tb tl b m k) (tl + k) ((b >>> ((8 * nI (m - 1 - k)) &&& 31)) &&& 255)
abbrev C22 (tl : Nat) (n : Int32) : Prop := (tl : Int) + n.toInt ≤ 120
def r_22 (tl : Nat) (n : Int32) : Int32 := if inR n 1 4 then (if C22 tl n then nI (tl + n.toNatClampNeg) else -1000000002) else -1000000001
def t_22 (tb : Nat → Int32) (tl : Nat) (b n : Int32) : Nat → Int32 := if inR n 1 4 ∧ C22 tl n then fdT tb tl b n.toNatClampNeg n.toNatClampNeg else tb
def l_22 (tl : Nat) (n : Int32) : Nat := if inR n 1 4 ∧ C22 tl n then tl + n.toNatClampNeg else tl
def f_22 (tl : Nat) (fn : Nat → Int32) (n : Int32) : Nat → Int32 := if inR n 1 4 then (if C22 tl n then fn else fdn fn 1) else fdn fn 0
abbrev C25 (s b : Int32) : Prop := inR s 0 3 ∧ widK b
def n_25 (b n : Int32) : Int32 := if b = 0 then 0 else n
abbrev D25 (s b n : Int32) : Prop := C25 s b ∧ inR n 0 40
def r_25 (s b n : Int32) : Int32 := if C25 s b then (if n.toInt < 0 then -1000000007 else if 40 < n.toInt then -1000000001 else n_25 b n) else -1000000001
def f_25 (fn : Nat → Int32) (s b n : Int32) : Nat → Int32 := if C25 s b then (if n.toInt < 0 then fdn fn 6 else if 40 < n.toInt then fdn fn 0 else fn) else fdn fn 0
def w_25 (wi : Nat → Int32) (s b n : Int32) : Nat → Int32 := if D25 s b n then upd wi s.toNatClampNeg b else wi
def z_25 (si : Nat → Int32) (s b n : Int32) : Nat → Int32 := if D25 s b n then upd si s.toNatClampNeg (n_25 b n) else si
def q_25 (nu : Nat → Int64) (s b n : Int32) : Nat → Int64 := if D25 s b n then layK nu s.toNatClampNeg 40 else nu
abbrev isS (s : Int32) : Prop := inR s 0 3
def r26k (wi si : Nat → Int32) (nu : Nat → Int64) (z : Nat) (i : Int32) : Int64 := if wi z = 0 then -1000000006 else if inR i 0 ((si z).toInt - 1) then nu (40 * z + i.toNatClampNeg) else -1000000001
def f26k (wi si fn : Nat → Int32) (z : Nat) (i : Int32) : Nat → Int32 := if wi z = 0 then fdn fn 5 else if inR i 0 ((si z).toInt - 1) then fn else fdn fn 0
def q26k (wi si : Nat → Int32) (nu : Nat → Int64) (z : Nat) (i : Int32) (v : Int64) : Nat → Int64 := if wi z = 0 then nu else if inR i 0 ((si z).toInt - 1) then vp_updL nu (40 * z + i.toNatClampNeg) (cutJ v (wi z)) else nu
def r_26 (wi si : Nat → Int32) (nu : Nat → Int64) (s i : Int32) : Int64 := if isS s then r26k wi si nu s.toNatClampNeg i else -1000000001
def f_26 (wi si fn : Nat → Int32) (s i : Int32) : Nat → Int32 := if isS s then f26k wi si fn s.toNatClampNeg i else fdn fn 0
def q_26 (wi si : Nat → Int32) (nu : Nat → Int64) (s i : Int32) (v : Int64) : Nat → Int64 := if isS s then q26k wi si nu s.toNatClampNeg i v else nu
abbrev C27 (s t : Int32) : Prop := isS s ∧ isS t
abbrev M27 (wi : Nat → Int32) (z y : Nat) : Prop := wi z = 0 ∨ wi y = 0
abbrev H27 (si : Nat → Int32) (z y : Nat) (f o n : Int32) : Prop := hrun (si z) f n ∧ hrun (si y) o n
def r27k (wi si : Nat → Int32) (z y : Nat) (f o n : Int32) : Int32 := if M27 wi z y then -1000000006 else if wi z = wi y then (if H27 si z y f o n then n else -1000000001) else -1000000003
def f27k (wi si fn : Nat → Int32) (z y : Nat) (f o n : Int32) : Nat → Int32 := if M27 wi z y then fdn fn 5 else if wi z = wi y then (if H27 si z y f o n then fn else fdn fn 0) else fdn fn 2
def q27k (wi si : Nat → Int32) (nu : Nat → Int64) (z y : Nat) (f o n : Int32) : Nat → Int64 := if M27 wi z y then nu else if wi z = wi y then (if H27 si z y f o n then va_cpy nu nu (40 * z + f.toNatClampNeg) (40 * y + o.toNatClampNeg) n.toNatClampNeg else nu) else nu
def r_27 (wi si : Nat → Int32) (s f t o n : Int32) : Int32 := if C27 s t then r27k wi si s.toNatClampNeg t.toNatClampNeg f o n else -1000000001
def f_27 (wi si fn : Nat → Int32) (s f t o n : Int32) : Nat → Int32 := if C27 s t then f27k wi si fn s.toNatClampNeg t.toNatClampNeg f o n else fdn fn 0
def q_27 (wi si : Nat → Int32) (nu : Nat → Int64) (s f t o n : Int32) : Nat → Int64 := if C27 s t then q27k wi si nu s.toNatClampNeg t.toNatClampNeg f o n else nu
/-! ===== the class: its calls, II ===== -/
set_option maxRecDepth 20000 in
set_option maxHeartbeats 2000000 in
theorem c_X4_sneezer {S : St} {u0 : Int32} {T : St} {u1 : Int32} {K : St} {u2 : Int32} {tb : Nat → Int32} {tl : Nat} {ni : Int32} {ns : Int32} {ne : Int32} {nk : Int32} {nv : Int32} {wi : Nat → Int32} {si : Nat → Int32} {nu : Nat → Int64} {fn : Nat → Int32} {kp : Int32} (k h : Int32) (hI : Inv S) : RunD 2 yX4_sneezer cX4_sneezer 3 (some .int) [.ref 0, .int k, .int h] (xW S u0 T u1 K u2 tb tl ni ns ne nk nv wi si nu fn kp) (some (.int (r_4 S k h))) (xW (s_4 S k h) u0 T u1 K u2 tb tl ni ns ne nk nv wi si nu (f_4 S fn k h) kp) := by
  refine Runs.of (by decide) (Nat.le_of_ble_eq_true rfl) rfl ?_
  intro X g hret hnL
  refine v_iload_n (pc := 0) 1 g dX4_sneezer_0 rfl rfl ?_
  refine v_cSd (pc := 1) g dX4_sneezer_1 lk_X4_97 ((c_X4_isKind _).any rfl rfl _) (Nat.le_of_ble_eq_true rfl) rfl rfl (Nat.le_of_ble_eq_true rfl) ?_
  refine v_ifb_eq (pc := 4) 14 g dX4_sneezer_4 rfl (fun c4 => ?_) (fun c4 => ?_)
  · refine v_aload_n (pc := 14) 0 g dX4_sneezer_14 rfl rfl ?_
    refine v_ldc (pc := 15) g dX4_sneezer_15 co_X4_63 ?_
    refine v_cVd (pc := 17) g dX4_sneezer_17 lk_X4_64 (c_X4_tell 0 (-1000000001) (by decide) (by decide)) (Nat.le_of_ble_eq_true rfl) rfl rfl rfl rfl (Nat.le_of_ble_eq_true rfl) ?_
    exact v_iret (pc := 20) g hret dX4_sneezer_20 (⟨so_i (by unfold r_4; rw [if_neg (by omega)]), by unfold s_4 f_4; rw [if_neg (by omega), if_neg (by omega)]⟩)
  · refine v_iload_n (pc := 7) 2 g dX4_sneezer_7 rfl rfl ?_
    refine v_cSd (pc := 8) g dX4_sneezer_8 lk_X4_51 ((c_X4_isHouse _).any rfl rfl _) (Nat.le_of_ble_eq_true rfl) rfl rfl (Nat.le_of_ble_eq_true rfl) ?_
    refine v_ifb_ne (pc := 11) 21 g dX4_sneezer_11 rfl (fun c11 => ?_) (fun c11 => ?_)
    · refine v_aload_n (pc := 21) 0 g dX4_sneezer_21 rfl rfl ?_
      refine v_get (pc := 22) g dX4_sneezer_22 fl_X4_10 rfl rfl ?_
      refine v_get (pc := 25) g dX4_sneezer_25 fl_X4_100 rfl rfl ?_
      refine v_bipush (pc := 28) (v := 8) g dX4_sneezer_28 (by decide) ?_
      refine v_icmp_lt (pc := 30) 40 g dX4_sneezer_30 rfl (fun c30 => ?_) (fun c30 => ?_)
      · have e30 : sN S < 8 := (nI_ltI (a := sN S) (b := 8) (by have := hI.n; omega) (by omega)).mp c30
        refine v_aload_n (pc := 40) 0 g dX4_sneezer_40 rfl rfl ?_
        refine v_get (pc := 41) g dX4_sneezer_41 fl_X4_10 rfl rfl ?_
        refine v_iload_n (pc := 44) 1 g dX4_sneezer_44 rfl rfl ?_
        refine v_iload_n (pc := 45) 2 g dX4_sneezer_45 rfl rfl ?_
        refine v_cVd (pc := 46) g dX4_sneezer_46 lk_X4_104 (xs_addOne _ _ e30) (Nat.le_of_ble_eq_true rfl) rfl rfl rfl rfl (Nat.le_of_ble_eq_true rfl) ?_
        exact v_iret (pc := 49) g hret dX4_sneezer_49 (⟨so_i (by unfold r_4; rw [if_pos ⟨c4, c11⟩, if_pos e30]), by unfold s_4 f_4; rw [if_pos ⟨⟨c4, c11⟩, e30⟩, if_pos ⟨c4, c11⟩, if_pos e30]⟩)
      · have e30 : ¬ sN S < 8 := fun z => c30 ((nI_ltI (a := sN S) (b := 8) (by omega) (by omega)).mpr z)
        refine v_aload_n (pc := 33) 0 g dX4_sneezer_33 rfl rfl ?_
        refine v_ldc (pc := 34) g dX4_sneezer_34 co_X4_103 ?_
        refine v_cVd (pc := 36) g dX4_sneezer_36 lk_X4_64 (c_X4_tell 1 (-1000000002) (by decide) (by decide)) (Nat.le_of_ble_eq_true rfl) rfl rfl rfl rfl (Nat.le_of_ble_eq_true rfl) ?_
        exact v_iret (pc := 39) g hret dX4_sneezer_39 (⟨so_i (by unfold r_4; rw [if_pos ⟨c4, c11⟩, if_neg e30]), by unfold s_4 f_4; rw [if_neg (fun z => e30 z.2), if_pos ⟨c4, c11⟩, if_neg e30]⟩)
    · refine v_aload_n (pc := 14) 0 g dX4_sneezer_14 rfl rfl ?_
      refine v_ldc (pc := 15) g dX4_sneezer_15 co_X4_63 ?_
      refine v_cVd (pc := 17) g dX4_sneezer_17 lk_X4_64 (c_X4_tell 0 (-1000000001) (by decide) (by decide)) (Nat.le_of_ble_eq_true rfl) rfl rfl rfl rfl (Nat.le_of_ble_eq_true rfl) ?_
      exact v_iret (pc := 20) g hret dX4_sneezer_20 (⟨so_i (by unfold r_4; rw [if_neg (by omega)]), by unfold s_4 f_4; rw [if_neg (by omega), if_neg (by omega)]⟩)
set_option maxRecDepth 20000 in
set_option maxHeartbeats 2000000 in
theorem c_X4_of {S : St} {u0 : Int32} {T : St} {u1 : Int32} {K : St} {u2 : Int32} {tb : Nat → Int32} {tl : Nat} {ni : Int32} {ns : Int32} {ne : Int32} {nk : Int32} {nv : Int32} {wi : Nat → Int32} {si : Nat → Int32} {nu : Nat → Int64} {fn : Nat → Int32} {kp : Int32} (p w : Int32) (hI : Inv S) : RunD 2 yX4_of cX4_of 3 (some .int) [.ref 0, .int p, .int w] (xW S u0 T u1 K u2 tb tl ni ns ne nk nv wi si nu fn kp) (some (.int (r_5 S p w))) (xW S u0 T u1 K u2 tb tl ni ns ne nk nv wi si nu (fdI (C5 S p w) fn 0) kp) := by
  refine Runs.of (by decide) (Nat.le_of_ble_eq_true rfl) rfl ?_
  intro X g hret hnL
  refine v_aload_n (pc := 0) 0 g dX4_of_0 rfl rfl ?_
  refine v_iload_n (pc := 1) 1 g dX4_of_1 rfl rfl ?_
  refine v_cVd (pc := 2) g dX4_of_2 lk_X4_108 (c_X4_isThere _ hI.n) (Nat.le_of_ble_eq_true rfl) rfl rfl rfl rfl (Nat.le_of_ble_eq_true rfl) ?_
  refine v_ifb_ne (pc := 5) 15 g dX4_of_5 rfl (fun c5 => ?_) (fun c5 => ?_)
  · obtain ⟨i, hi, rfl⟩ := (show isP S p from c5).nat hI.n
    have ei : (nI i).toNatClampNeg = i := nI_clamp (by have := hI.n; omega)
    refine v_iload_n (pc := 15) 2 g dX4_of_15 rfl rfl ?_
    refine v_top (fun x16 e16 => ?_)
    by_cases t16_0 : x16.toInt = 0
    · refine v_tin (pc := 16) 0 72 g dX4_of_16 t16_0 (by decide) (by decide) rfl rfl ?_
      rw [e16] at t16_0
      refine v_aload_n (pc := 72) 0 g dX4_of_72 rfl rfl ?_
      refine v_get (pc := 73) g dX4_of_73 fl_X4_10 rfl rfl ?_
      refine v_get (pc := 76) g dX4_of_76 fl_X4_111 rfl rfl ?_
      refine v_iload_n (pc := 79) 1 g dX4_of_79 rfl rfl ?_
      refine v_ialdN (pc := 80) _ g dX4_of_80 rfl rfl (by have := hI.n; omega) (Nat.le_of_ble_eq_true rfl) ?_
      exact v_iret (pc := 81) g hret dX4_of_81 (⟨so_i (by unfold r_5; rw [if_pos ⟨c5, by omega⟩, ei]; unfold ofG; simp only [*, reduceIte, Int.reduceEq]; try rfl), by unfold fdI; rw [if_pos ⟨c5, by omega⟩]⟩)
    by_cases t16_1 : x16.toInt = 1
    · refine v_tin (pc := 16) 1 82 g dX4_of_16 t16_1 (by decide) (by decide) rfl rfl ?_
      rw [e16] at t16_1
      refine v_aload_n (pc := 82) 0 g dX4_of_82 rfl rfl ?_
      refine v_get (pc := 83) g dX4_of_83 fl_X4_10 rfl rfl ?_
      refine v_get (pc := 86) g dX4_of_86 fl_X4_114 rfl rfl ?_
      refine v_iload_n (pc := 89) 1 g dX4_of_89 rfl rfl ?_
      refine v_ialdN (pc := 90) _ g dX4_of_90 rfl rfl (by have := hI.n; omega) (Nat.le_of_ble_eq_true rfl) ?_
      exact v_iret (pc := 91) g hret dX4_of_91 (⟨so_i (by unfold r_5; rw [if_pos ⟨c5, by omega⟩, ei]; unfold ofG; simp only [*, reduceIte, Int.reduceEq]; try rfl), by unfold fdI; rw [if_pos ⟨c5, by omega⟩]⟩)
    by_cases t16_2 : x16.toInt = 2
    · refine v_tin (pc := 16) 2 92 g dX4_of_16 t16_2 (by decide) (by decide) rfl rfl ?_
      rw [e16] at t16_2
      refine v_aload_n (pc := 92) 0 g dX4_of_92 rfl rfl ?_
      refine v_get (pc := 93) g dX4_of_93 fl_X4_10 rfl rfl ?_
      refine v_get (pc := 96) g dX4_of_96 fl_X4_117 rfl rfl ?_
      refine v_iload_n (pc := 99) 1 g dX4_of_99 rfl rfl ?_
      refine v_ialdN (pc := 100) _ g dX4_of_100 rfl rfl (by have := hI.n; omega) (Nat.le_of_ble_eq_true rfl) ?_
      exact v_iret (pc := 101) g hret dX4_of_101 (⟨so_i (by unfold r_5; rw [if_pos ⟨c5, by omega⟩, ei]; unfold ofG; simp only [*, reduceIte, Int.reduceEq]; try rfl), by unfold fdI; rw [if_pos ⟨c5, by omega⟩]⟩)
    by_cases t16_3 : x16.toInt = 3
    · refine v_tin (pc := 16) 3 102 g dX4_of_16 t16_3 (by decide) (by decide) rfl rfl ?_
      rw [e16] at t16_3
      refine v_aload_n (pc := 102) 0 g dX4_of_102 rfl rfl ?_
      refine v_get (pc := 103) g dX4_of_103 fl_X4_10 rfl rfl ?_
      refine v_get (pc := 106) g dX4_of_106 fl_X4_120 rfl rfl ?_
      refine v_iload_n (pc := 109) 1 g dX4_of_109 rfl rfl ?_
      refine v_ialdN (pc := 110) _ g dX4_of_110 rfl rfl (by have := hI.n; omega) (Nat.le_of_ble_eq_true rfl) ?_
      exact v_iret (pc := 111) g hret dX4_of_111 (⟨so_i (by unfold r_5; rw [if_pos ⟨c5, by omega⟩, ei]; unfold ofG; simp only [*, reduceIte, Int.reduceEq]; try rfl), by unfold fdI; rw [if_pos ⟨c5, by omega⟩]⟩)
    by_cases t16_4 : x16.toInt = 4
    · refine v_tin (pc := 16) 4 112 g dX4_of_16 t16_4 (by decide) (by decide) rfl rfl ?_
      rw [e16] at t16_4
      refine v_aload_n (pc := 112) 0 g dX4_of_112 rfl rfl ?_
      refine v_get (pc := 113) g dX4_of_113 fl_X4_10 rfl rfl ?_
      refine v_get (pc := 116) g dX4_of_116 fl_X4_123 rfl rfl ?_
      refine v_iload_n (pc := 119) 1 g dX4_of_119 rfl rfl ?_
      refine v_ialdN (pc := 120) _ g dX4_of_120 rfl rfl (by have := hI.n; omega) (Nat.le_of_ble_eq_true rfl) ?_
      exact v_iret (pc := 121) g hret dX4_of_121 (⟨so_i (by unfold r_5; rw [if_pos ⟨c5, by omega⟩, ei]; unfold ofG; simp only [*, reduceIte, Int.reduceEq]; try rfl), by unfold fdI; rw [if_pos ⟨c5, by omega⟩]⟩)
    by_cases t16_5 : x16.toInt = 5
    · refine v_tin (pc := 16) 5 122 g dX4_of_16 t16_5 (by decide) (by decide) rfl rfl ?_
      rw [e16] at t16_5
      refine v_aload_n (pc := 122) 0 g dX4_of_122 rfl rfl ?_
      refine v_get (pc := 123) g dX4_of_123 fl_X4_10 rfl rfl ?_
      refine v_get (pc := 126) g dX4_of_126 fl_X4_126 rfl rfl ?_
      refine v_iload_n (pc := 129) 1 g dX4_of_129 rfl rfl ?_
      refine v_ialdN (pc := 130) _ g dX4_of_130 rfl rfl (by have := hI.n; omega) (Nat.le_of_ble_eq_true rfl) ?_
      exact v_iret (pc := 131) g hret dX4_of_131 (⟨so_i (by unfold r_5; rw [if_pos ⟨c5, by omega⟩, ei]; unfold ofG; simp only [*, reduceIte, Int.reduceEq]; try rfl), by unfold fdI; rw [if_pos ⟨c5, by omega⟩]⟩)
    by_cases t16_6 : x16.toInt = 6
    · refine v_tin (pc := 16) 6 132 g dX4_of_16 t16_6 (by decide) (by decide) rfl rfl ?_
      rw [e16] at t16_6
      refine v_aload_n (pc := 132) 0 g dX4_of_132 rfl rfl ?_
      refine v_get (pc := 133) g dX4_of_133 fl_X4_10 rfl rfl ?_
      refine v_iload_n (pc := 136) 1 g dX4_of_136 rfl rfl ?_
      refine v_cVd (pc := 137) g dX4_of_137 lk_X4_129 (xs_ticklesOf i hI (by have := hI.n; omega)) (Nat.le_of_ble_eq_true rfl) rfl rfl rfl rfl (Nat.le_of_ble_eq_true rfl) ?_
      exact v_iret (pc := 140) g hret dX4_of_140 (⟨so_i (by unfold r_5; rw [if_pos ⟨c5, by omega⟩, ei]; unfold ofG; simp only [*, reduceIte, Int.reduceEq]; try rfl), by unfold fdI; rw [if_pos ⟨c5, by omega⟩]⟩)
    by_cases t16_7 : x16.toInt = 7
    · refine v_tin (pc := 16) 7 141 g dX4_of_16 t16_7 (by decide) (by decide) rfl rfl ?_
      rw [e16] at t16_7
      refine v_aload_n (pc := 141) 0 g dX4_of_141 rfl rfl ?_
      refine v_get (pc := 142) g dX4_of_142 fl_X4_10 rfl rfl ?_
      refine v_iload_n (pc := 145) 1 g dX4_of_145 rfl rfl ?_
      refine v_cVd (pc := 146) g dX4_of_146 lk_X4_132 (xs_holdsOf i (by have := hI.n; omega)) (Nat.le_of_ble_eq_true rfl) rfl rfl rfl rfl (Nat.le_of_ble_eq_true rfl) ?_
      exact v_iret (pc := 149) g hret dX4_of_149 (⟨so_i (by unfold r_5; rw [if_pos ⟨c5, by omega⟩, ei]; unfold ofG; simp only [*, reduceIte, Int.reduceEq]; try rfl), by unfold fdI; rw [if_pos ⟨c5, by omega⟩]⟩)
    by_cases t16_8 : x16.toInt = 8
    · refine v_tin (pc := 16) 8 150 g dX4_of_16 t16_8 (by decide) (by decide) rfl rfl ?_
      rw [e16] at t16_8
      refine v_aload_n (pc := 150) 0 g dX4_of_150 rfl rfl ?_
      refine v_get (pc := 151) g dX4_of_151 fl_X4_10 rfl rfl ?_
      refine v_iload_n (pc := 154) 1 g dX4_of_154 rfl rfl ?_
      refine v_cVd (pc := 155) g dX4_of_155 lk_X4_135 (xs_blowsOf i (by have := hI.n; omega)) (Nat.le_of_ble_eq_true rfl) rfl rfl rfl rfl (Nat.le_of_ble_eq_true rfl) ?_
      exact v_iret (pc := 158) g hret dX4_of_158 (⟨so_i (by unfold r_5; rw [if_pos ⟨c5, by omega⟩, ei]; unfold ofG; simp only [*, reduceIte, Int.reduceEq]; try rfl), by unfold fdI; rw [if_pos ⟨c5, by omega⟩]⟩)
    by_cases t16_9 : x16.toInt = 9
    · refine v_tin (pc := 16) 9 159 g dX4_of_16 t16_9 (by decide) (by decide) rfl rfl ?_
      rw [e16] at t16_9
      refine v_aload_n (pc := 159) 0 g dX4_of_159 rfl rfl ?_
      refine v_get (pc := 160) g dX4_of_160 fl_X4_10 rfl rfl ?_
      refine v_iload_n (pc := 163) 1 g dX4_of_163 rfl rfl ?_
      refine v_cVd (pc := 164) g dX4_of_164 lk_X4_138 (xs_healsOf i (by have := hI.n; omega)) (Nat.le_of_ble_eq_true rfl) rfl rfl rfl rfl (Nat.le_of_ble_eq_true rfl) ?_
      exact v_iret (pc := 167) g hret dX4_of_167 (⟨so_i (by unfold r_5; rw [if_pos ⟨c5, by omega⟩, ei]; unfold ofG; simp only [*, reduceIte, Int.reduceEq]; try rfl), by unfold fdI; rw [if_pos ⟨c5, by omega⟩]⟩)
    refine v_tout (pc := 16) 168 g dX4_of_16 (by omega) rfl ?_
    rw [e16] at t16_0
    rw [e16] at t16_1
    rw [e16] at t16_2
    rw [e16] at t16_3
    rw [e16] at t16_4
    rw [e16] at t16_5
    rw [e16] at t16_6
    rw [e16] at t16_7
    rw [e16] at t16_8
    rw [e16] at t16_9
    refine v_aload_n (pc := 168) 0 g dX4_of_168 rfl rfl ?_
    refine v_ldc (pc := 169) g dX4_of_169 co_X4_63 ?_
    refine v_cVd (pc := 171) g dX4_of_171 lk_X4_64 (c_X4_tell 0 (-1000000001) (by decide) (by decide)) (Nat.le_of_ble_eq_true rfl) rfl rfl rfl rfl (Nat.le_of_ble_eq_true rfl) ?_
    exact v_iret (pc := 174) g hret dX4_of_174 (⟨so_i (by unfold r_5; rw [if_neg (by intro z; have := z.2; omega)]), by unfold fdI; rw [if_neg (by intro z; have := z.2; omega)]⟩)
  · refine v_aload_n (pc := 8) 0 g dX4_of_8 rfl rfl ?_
    refine v_ldc (pc := 9) g dX4_of_9 co_X4_63 ?_
    refine v_cVd (pc := 11) g dX4_of_11 lk_X4_64 (c_X4_tell 0 (-1000000001) (by decide) (by decide)) (Nat.le_of_ble_eq_true rfl) rfl rfl rfl rfl (Nat.le_of_ble_eq_true rfl) ?_
    exact v_iret (pc := 14) g hret dX4_of_14 (⟨so_i (by unfold r_5; rw [if_neg (fun z => c5 z.1)]), by unfold fdI; rw [if_neg (fun z => c5 z.1)]⟩)
set_option maxRecDepth 20000 in
set_option maxHeartbeats 2000000 in
theorem c_X4_set {S : St} {u0 : Int32} {T : St} {u1 : Int32} {K : St} {u2 : Int32} {tb : Nat → Int32} {tl : Nat} {ni : Int32} {ns : Int32} {ne : Int32} {nk : Int32} {nv : Int32} {wi : Nat → Int32} {si : Nat → Int32} {nu : Nat → Int64} {fn : Nat → Int32} {kp : Int32} (p w v : Int32) (hI : Inv S) : RunD 2 yX4_set cX4_set 6 (some .int) [.ref 0, .int p, .int w, .int v] (xW S u0 T u1 K u2 tb tl ni ns ne nk nv wi si nu fn kp) (some (.int (r_6 S p w v))) (xW (s_6 S p w v) u0 T u1 K u2 tb tl ni ns ne nk nv wi si nu (fdI (C6 S p w v) fn 0) kp) := by
  refine Runs.of (by decide) (Nat.le_of_ble_eq_true rfl) rfl ?_
  intro X g hret hnL
  refine v_aload_n (pc := 0) 0 g dX4_set_0 rfl rfl ?_
  refine v_iload_n (pc := 1) 1 g dX4_set_1 rfl rfl ?_
  refine v_cVd (pc := 2) g dX4_set_2 lk_X4_108 (c_X4_isThere _ hI.n) (Nat.le_of_ble_eq_true rfl) rfl rfl rfl rfl (Nat.le_of_ble_eq_true rfl) ?_
  refine v_ifb_eq (pc := 5) 29 g dX4_set_5 rfl (fun c5 => ?_) (fun c5 => ?_)
  · refine v_aload_n (pc := 29) 0 g dX4_set_29 rfl rfl ?_
    refine v_ldc (pc := 30) g dX4_set_30 co_X4_63 ?_
    refine v_cVd (pc := 32) g dX4_set_32 lk_X4_64 (c_X4_tell 0 (-1000000001) (by decide) (by decide)) (Nat.le_of_ble_eq_true rfl) rfl rfl rfl rfl (Nat.le_of_ble_eq_true rfl) ?_
    exact v_iret (pc := 35) g hret dX4_set_35 (⟨so_i (by unfold r_6; rw [if_neg (by omega)]), by unfold s_6 fdI; rw [if_neg (by omega), if_neg (by omega)]⟩)
  · refine v_iload_n (pc := 8) 2 g dX4_set_8 rfl rfl ?_
    refine v_iconst (pc := 9) (v := 1) g dX4_set_9 (by decide) ?_
    refine v_iconst (pc := 10) (v := 5) g dX4_set_10 (by decide) ?_
    refine v_cSd (pc := 11) g dX4_set_11 lk_X4_55 ((c_X4_within _ _ _ 1 5 rfl rfl).any rfl rfl _) (Nat.le_of_ble_eq_true rfl) rfl rfl (Nat.le_of_ble_eq_true rfl) ?_
    refine v_ifb_eq (pc := 14) 29 g dX4_set_14 rfl (fun c14 => ?_) (fun c14 => ?_)
    · refine v_aload_n (pc := 29) 0 g dX4_set_29 rfl rfl ?_
      refine v_ldc (pc := 30) g dX4_set_30 co_X4_63 ?_
      refine v_cVd (pc := 32) g dX4_set_32 lk_X4_64 (c_X4_tell 0 (-1000000001) (by decide) (by decide)) (Nat.le_of_ble_eq_true rfl) rfl rfl rfl rfl (Nat.le_of_ble_eq_true rfl) ?_
      exact v_iret (pc := 35) g hret dX4_set_35 (⟨so_i (by unfold r_6; rw [if_neg (by omega)]), by unfold s_6 fdI; rw [if_neg (by omega), if_neg (by omega)]⟩)
    · refine v_iload_n (pc := 17) 3 g dX4_set_17 rfl rfl ?_
      refine v_iconst (pc := 18) (v := 0) g dX4_set_18 (by decide) ?_
      refine v_iload_n (pc := 19) 2 g dX4_set_19 rfl rfl ?_
      refine v_cSd (pc := 20) g dX4_set_20 lk_X4_141 ((c_X4_mostOfSneezer _).any rfl rfl _) (Nat.le_of_ble_eq_true rfl) rfl rfl (Nat.le_of_ble_eq_true rfl) ?_
      refine v_cSd (pc := 23) g dX4_set_23 lk_X4_55 ((c_X4_within _ _ _ 0 _ rfl rfl).any rfl rfl _) (Nat.le_of_ble_eq_true rfl) rfl rfl (Nat.le_of_ble_eq_true rfl) ?_
      refine v_ifb_ne (pc := 26) 36 g dX4_set_26 rfl (fun c26 => ?_) (fun c26 => ?_)
      · obtain ⟨i, hi, rfl⟩ := (show isP S p from c5).nat hI.n
        have ei : (nI i).toNatClampNeg = i := nI_clamp (by have := hI.n; omega)
        have hC : C6 S (nI i) w v := ⟨c5, c14, c26⟩
        have i8 : i < 8 := by have := hI.n; omega
        rcases (show w.toInt = 1 ∨ w.toInt = 2 ∨ w.toInt = 3 ∨ w.toInt = 4 ∨ w.toInt = 5 by omega) with hw | hw | hw | hw | hw
        · refine v_aload_n (pc := 36) 0 g dX4_set_36 rfl rfl ?_
          refine v_get (pc := 37) g dX4_set_37 fl_X4_10 rfl rfl ?_
          refine v_iload_n (pc := 40) 2 g dX4_set_40 rfl rfl ?_
          refine v_cVd (pc := 41) g dX4_set_41 lk_X4_144 (xs_sneezerRow1 _ hw) (Nat.le_of_ble_eq_true rfl) rfl rfl rfl rfl (Nat.le_of_ble_eq_true rfl) ?_
          refine v_astore (pc := 44) _ g dX4_set_44 (Nat.le_of_ble_eq_true rfl) hnL.symm rfl ?_
          refine v_aload (pc := 46) g dX4_set_46 rfl ?_
          refine v_iload_n (pc := 48) 1 g dX4_set_48 rfl rfl ?_
          refine v_ialdN (pc := 49) _ g dX4_set_49 rfl rfl (by omega) (Nat.le_of_ble_eq_true rfl) ?_
          refine v_istore (pc := 50) _ g dX4_set_50 (Nat.le_of_ble_eq_true rfl) hnL.symm rfl ?_
          refine v_aload (pc := 52) g dX4_set_52 rfl ?_
          refine v_iload_n (pc := 54) 1 g dX4_set_54 rfl rfl ?_
          refine v_iload_n (pc := 55) 3 g dX4_set_55 rfl rfl ?_
          refine v_iastN (pc := 56) _ _ g dX4_set_56 rfl rfl (by omega) (Nat.le_of_ble_eq_true rfl) rfl ?_
          refine v_iload (pc := 57) g dX4_set_57 rfl ?_
          exact v_iret (pc := 59) g hret dX4_set_59 (⟨so_i (by unfold r_6 pGet; rw [if_pos hC, ei]; simp only [hw, reduceIte, Int.reduceEq]; try rfl), by unfold s_6 fdI pSet; rw [if_pos hC, if_pos hC, ei]; simp only [hw, reduceIte, Int.reduceEq]; rfl⟩)
        · refine v_aload_n (pc := 36) 0 g dX4_set_36 rfl rfl ?_
          refine v_get (pc := 37) g dX4_set_37 fl_X4_10 rfl rfl ?_
          refine v_iload_n (pc := 40) 2 g dX4_set_40 rfl rfl ?_
          refine v_cVd (pc := 41) g dX4_set_41 lk_X4_144 (xs_sneezerRow2 _ hw) (Nat.le_of_ble_eq_true rfl) rfl rfl rfl rfl (Nat.le_of_ble_eq_true rfl) ?_
          refine v_astore (pc := 44) _ g dX4_set_44 (Nat.le_of_ble_eq_true rfl) hnL.symm rfl ?_
          refine v_aload (pc := 46) g dX4_set_46 rfl ?_
          refine v_iload_n (pc := 48) 1 g dX4_set_48 rfl rfl ?_
          refine v_ialdN (pc := 49) _ g dX4_set_49 rfl rfl (by omega) (Nat.le_of_ble_eq_true rfl) ?_
          refine v_istore (pc := 50) _ g dX4_set_50 (Nat.le_of_ble_eq_true rfl) hnL.symm rfl ?_
          refine v_aload (pc := 52) g dX4_set_52 rfl ?_
          refine v_iload_n (pc := 54) 1 g dX4_set_54 rfl rfl ?_
          refine v_iload_n (pc := 55) 3 g dX4_set_55 rfl rfl ?_
          refine v_iastN (pc := 56) _ _ g dX4_set_56 rfl rfl (by omega) (Nat.le_of_ble_eq_true rfl) rfl ?_
          refine v_iload (pc := 57) g dX4_set_57 rfl ?_
          exact v_iret (pc := 59) g hret dX4_set_59 (⟨so_i (by unfold r_6 pGet; rw [if_pos hC, ei]; simp only [hw, reduceIte, Int.reduceEq]; try rfl), by unfold s_6 fdI pSet; rw [if_pos hC, if_pos hC, ei]; simp only [hw, reduceIte, Int.reduceEq]; rfl⟩)
        · refine v_aload_n (pc := 36) 0 g dX4_set_36 rfl rfl ?_
          refine v_get (pc := 37) g dX4_set_37 fl_X4_10 rfl rfl ?_
          refine v_iload_n (pc := 40) 2 g dX4_set_40 rfl rfl ?_
          refine v_cVd (pc := 41) g dX4_set_41 lk_X4_144 (xs_sneezerRow3 _ hw) (Nat.le_of_ble_eq_true rfl) rfl rfl rfl rfl (Nat.le_of_ble_eq_true rfl) ?_
          refine v_astore (pc := 44) _ g dX4_set_44 (Nat.le_of_ble_eq_true rfl) hnL.symm rfl ?_
          refine v_aload (pc := 46) g dX4_set_46 rfl ?_
          refine v_iload_n (pc := 48) 1 g dX4_set_48 rfl rfl ?_
          refine v_ialdN (pc := 49) _ g dX4_set_49 rfl rfl (by omega) (Nat.le_of_ble_eq_true rfl) ?_
          refine v_istore (pc := 50) _ g dX4_set_50 (Nat.le_of_ble_eq_true rfl) hnL.symm rfl ?_
          refine v_aload (pc := 52) g dX4_set_52 rfl ?_
          refine v_iload_n (pc := 54) 1 g dX4_set_54 rfl rfl ?_
          refine v_iload_n (pc := 55) 3 g dX4_set_55 rfl rfl ?_
          refine v_iastN (pc := 56) _ _ g dX4_set_56 rfl rfl (by omega) (Nat.le_of_ble_eq_true rfl) rfl ?_
          refine v_iload (pc := 57) g dX4_set_57 rfl ?_
          exact v_iret (pc := 59) g hret dX4_set_59 (⟨so_i (by unfold r_6 pGet; rw [if_pos hC, ei]; simp only [hw, reduceIte, Int.reduceEq]; try rfl), by unfold s_6 fdI pSet; rw [if_pos hC, if_pos hC, ei]; simp only [hw, reduceIte, Int.reduceEq]; rfl⟩)
        · refine v_aload_n (pc := 36) 0 g dX4_set_36 rfl rfl ?_
          refine v_get (pc := 37) g dX4_set_37 fl_X4_10 rfl rfl ?_
          refine v_iload_n (pc := 40) 2 g dX4_set_40 rfl rfl ?_
          refine v_cVd (pc := 41) g dX4_set_41 lk_X4_144 (xs_sneezerRow4 _ hw) (Nat.le_of_ble_eq_true rfl) rfl rfl rfl rfl (Nat.le_of_ble_eq_true rfl) ?_
          refine v_astore (pc := 44) _ g dX4_set_44 (Nat.le_of_ble_eq_true rfl) hnL.symm rfl ?_
          refine v_aload (pc := 46) g dX4_set_46 rfl ?_
          refine v_iload_n (pc := 48) 1 g dX4_set_48 rfl rfl ?_
          refine v_ialdN (pc := 49) _ g dX4_set_49 rfl rfl (by omega) (Nat.le_of_ble_eq_true rfl) ?_
          refine v_istore (pc := 50) _ g dX4_set_50 (Nat.le_of_ble_eq_true rfl) hnL.symm rfl ?_
          refine v_aload (pc := 52) g dX4_set_52 rfl ?_
          refine v_iload_n (pc := 54) 1 g dX4_set_54 rfl rfl ?_
          refine v_iload_n (pc := 55) 3 g dX4_set_55 rfl rfl ?_
          refine v_iastN (pc := 56) _ _ g dX4_set_56 rfl rfl (by omega) (Nat.le_of_ble_eq_true rfl) rfl ?_
          refine v_iload (pc := 57) g dX4_set_57 rfl ?_
          exact v_iret (pc := 59) g hret dX4_set_59 (⟨so_i (by unfold r_6 pGet; rw [if_pos hC, ei]; simp only [hw, reduceIte, Int.reduceEq]; try rfl), by unfold s_6 fdI pSet; rw [if_pos hC, if_pos hC, ei]; simp only [hw, reduceIte, Int.reduceEq]; rfl⟩)
        · refine v_aload_n (pc := 36) 0 g dX4_set_36 rfl rfl ?_
          refine v_get (pc := 37) g dX4_set_37 fl_X4_10 rfl rfl ?_
          refine v_iload_n (pc := 40) 2 g dX4_set_40 rfl rfl ?_
          refine v_cVd (pc := 41) g dX4_set_41 lk_X4_144 (xs_sneezerRow5 _ hw) (Nat.le_of_ble_eq_true rfl) rfl rfl rfl rfl (Nat.le_of_ble_eq_true rfl) ?_
          refine v_astore (pc := 44) _ g dX4_set_44 (Nat.le_of_ble_eq_true rfl) hnL.symm rfl ?_
          refine v_aload (pc := 46) g dX4_set_46 rfl ?_
          refine v_iload_n (pc := 48) 1 g dX4_set_48 rfl rfl ?_
          refine v_ialdN (pc := 49) _ g dX4_set_49 rfl rfl (by omega) (Nat.le_of_ble_eq_true rfl) ?_
          refine v_istore (pc := 50) _ g dX4_set_50 (Nat.le_of_ble_eq_true rfl) hnL.symm rfl ?_
          refine v_aload (pc := 52) g dX4_set_52 rfl ?_
          refine v_iload_n (pc := 54) 1 g dX4_set_54 rfl rfl ?_
          refine v_iload_n (pc := 55) 3 g dX4_set_55 rfl rfl ?_
          refine v_iastN (pc := 56) _ _ g dX4_set_56 rfl rfl (by omega) (Nat.le_of_ble_eq_true rfl) rfl ?_
          refine v_iload (pc := 57) g dX4_set_57 rfl ?_
          exact v_iret (pc := 59) g hret dX4_set_59 (⟨so_i (by unfold r_6 pGet; rw [if_pos hC, ei]; simp only [hw, reduceIte, Int.reduceEq]; try rfl), by unfold s_6 fdI pSet; rw [if_pos hC, if_pos hC, ei]; simp only [hw, reduceIte, Int.reduceEq]; rfl⟩)
      · refine v_aload_n (pc := 29) 0 g dX4_set_29 rfl rfl ?_
        refine v_ldc (pc := 30) g dX4_set_30 co_X4_63 ?_
        refine v_cVd (pc := 32) g dX4_set_32 lk_X4_64 (c_X4_tell 0 (-1000000001) (by decide) (by decide)) (Nat.le_of_ble_eq_true rfl) rfl rfl rfl rfl (Nat.le_of_ble_eq_true rfl) ?_
        exact v_iret (pc := 35) g hret dX4_set_35 (⟨so_i (by unfold r_6; rw [if_neg (by omega)]), by unfold s_6 fdI; rw [if_neg (by omega), if_neg (by omega)]⟩)
set_option maxRecDepth 20000 in
set_option maxHeartbeats 2000000 in
theorem c_X4_turn {S : St} {u0 : Int32} {T : St} {u1 : Int32} {K : St} {u2 : Int32} {tb : Nat → Int32} {tl : Nat} {ni : Int32} {ns : Int32} {ne : Int32} {nk : Int32} {nv : Int32} {wi : Nat → Int32} {si : Nat → Int32} {nu : Nat → Int64} {fn : Nat → Int32} {kp : Int32} (p k : Int32) (hI : Inv S) : RunD 2 yX4_turn cX4_turn 4 (some .int) [.ref 0, .int p, .int k] (xW S u0 T u1 K u2 tb tl ni ns ne nk nv wi si nu fn kp) (some (.int (r_7 S p k))) (xW (s_7 S p k) u0 T u1 K u2 tb tl ni ns ne nk nv wi si nu (fdI (C7 S p k) fn 0) kp) := by
  refine Runs.of (by decide) (Nat.le_of_ble_eq_true rfl) rfl ?_
  intro X g hret hnL
  refine v_aload_n (pc := 0) 0 g dX4_turn_0 rfl rfl ?_
  refine v_iload_n (pc := 1) 1 g dX4_turn_1 rfl rfl ?_
  refine v_cVd (pc := 2) g dX4_turn_2 lk_X4_108 (c_X4_isThere _ hI.n) (Nat.le_of_ble_eq_true rfl) rfl rfl rfl rfl (Nat.le_of_ble_eq_true rfl) ?_
  refine v_ifb_eq (pc := 5) 15 g dX4_turn_5 rfl (fun c5 => ?_) (fun c5 => ?_)
  · refine v_aload_n (pc := 15) 0 g dX4_turn_15 rfl rfl ?_
    refine v_ldc (pc := 16) g dX4_turn_16 co_X4_63 ?_
    refine v_cVd (pc := 18) g dX4_turn_18 lk_X4_64 (c_X4_tell 0 (-1000000001) (by decide) (by decide)) (Nat.le_of_ble_eq_true rfl) rfl rfl rfl rfl (Nat.le_of_ble_eq_true rfl) ?_
    exact v_iret (pc := 21) g hret dX4_turn_21 (⟨so_i (by unfold r_7; rw [if_neg (by omega)]), by unfold s_7 fdI; rw [if_neg (by omega), if_neg (by omega)]⟩)
  · refine v_iload_n (pc := 8) 2 g dX4_turn_8 rfl rfl ?_
    refine v_cSd (pc := 9) g dX4_turn_9 lk_X4_97 ((c_X4_isKind _).any rfl rfl _) (Nat.le_of_ble_eq_true rfl) rfl rfl (Nat.le_of_ble_eq_true rfl) ?_
    refine v_ifb_ne (pc := 12) 22 g dX4_turn_12 rfl (fun c12 => ?_) (fun c12 => ?_)
    · obtain ⟨i, hi, rfl⟩ := (show isP S p from c5).nat hI.n
      have ei : (nI i).toNatClampNeg = i := nI_clamp (by have := hI.n; omega)
      have hC : C7 S (nI i) k := ⟨c5, c12⟩
      refine v_aload_n (pc := 22) 0 g dX4_turn_22 rfl rfl ?_
      refine v_get (pc := 23) g dX4_turn_23 fl_X4_10 rfl rfl ?_
      refine v_get (pc := 26) g dX4_turn_26 fl_X4_111 rfl rfl ?_
      refine v_iload_n (pc := 29) 1 g dX4_turn_29 rfl rfl ?_
      refine v_ialdN (pc := 30) _ g dX4_turn_30 rfl rfl (by have := hI.n; omega) (Nat.le_of_ble_eq_true rfl) ?_
      refine v_istore_n (pc := 31) 3 _ g dX4_turn_31 rfl (Nat.le_of_ble_eq_true rfl) hnL.symm rfl ?_
      refine v_aload_n (pc := 32) 0 g dX4_turn_32 rfl rfl ?_
      refine v_get (pc := 33) g dX4_turn_33 fl_X4_10 rfl rfl ?_
      refine v_get (pc := 36) g dX4_turn_36 fl_X4_111 rfl rfl ?_
      refine v_iload_n (pc := 39) 1 g dX4_turn_39 rfl rfl ?_
      refine v_iload_n (pc := 40) 2 g dX4_turn_40 rfl rfl ?_
      refine v_iastN (pc := 41) _ _ g dX4_turn_41 rfl rfl (by have := hI.n; omega) (Nat.le_of_ble_eq_true rfl) rfl ?_
      refine v_iload_n (pc := 42) 3 g dX4_turn_42 rfl rfl ?_
      exact v_iret (pc := 43) g hret dX4_turn_43 (⟨so_i (by unfold r_7; rw [if_pos hC, ei]), by unfold s_7 fdI; rw [if_pos hC, if_pos hC, ei]; rfl⟩)
    · refine v_aload_n (pc := 15) 0 g dX4_turn_15 rfl rfl ?_
      refine v_ldc (pc := 16) g dX4_turn_16 co_X4_63 ?_
      refine v_cVd (pc := 18) g dX4_turn_18 lk_X4_64 (c_X4_tell 0 (-1000000001) (by decide) (by decide)) (Nat.le_of_ble_eq_true rfl) rfl rfl rfl rfl (Nat.le_of_ble_eq_true rfl) ?_
      exact v_iret (pc := 21) g hret dX4_turn_21 (⟨so_i (by unfold r_7; rw [if_neg (by omega)]), by unfold s_7 fdI; rw [if_neg (by omega), if_neg (by omega)]⟩)
set_option maxRecDepth 20000 in
set_option maxHeartbeats 2000000 in
theorem c_X4_as {S : St} {u0 : Int32} {T : St} {u1 : Int32} {K : St} {u2 : Int32} {tb : Nat → Int32} {tl : Nat} {ni : Int32} {ns : Int32} {ne : Int32} {nk : Int32} {nv : Int32} {wi : Nat → Int32} {si : Nat → Int32} {nu : Nat → Int64} {fn : Nat → Int32} {kp : Int32} (p k : Int32) (hI : Inv S) : RunD 2 yX4_as cX4_as 3 (some .int) [.ref 0, .int p, .int k] (xW S u0 T u1 K u2 tb tl ni ns ne nk nv wi si nu fn kp) (some (.int (r_8 S p k))) (xW S u0 T u1 K u2 tb tl ni ns ne nk nv wi si nu (f_8 S fn p k) kp) := by
  refine Runs.of (by decide) (Nat.le_of_ble_eq_true rfl) rfl ?_
  intro X g hret hnL
  refine v_aload_n (pc := 0) 0 g dX4_as_0 rfl rfl ?_
  refine v_iload_n (pc := 1) 1 g dX4_as_1 rfl rfl ?_
  refine v_cVd (pc := 2) g dX4_as_2 lk_X4_108 (c_X4_isThere _ hI.n) (Nat.le_of_ble_eq_true rfl) rfl rfl rfl rfl (Nat.le_of_ble_eq_true rfl) ?_
  refine v_ifb_eq (pc := 5) 15 g dX4_as_5 rfl (fun c5 => ?_) (fun c5 => ?_)
  · refine v_aload_n (pc := 15) 0 g dX4_as_15 rfl rfl ?_
    refine v_ldc (pc := 16) g dX4_as_16 co_X4_63 ?_
    refine v_cVd (pc := 18) g dX4_as_18 lk_X4_64 (c_X4_tell 0 (-1000000001) (by decide) (by decide)) (Nat.le_of_ble_eq_true rfl) rfl rfl rfl rfl (Nat.le_of_ble_eq_true rfl) ?_
    exact v_iret (pc := 21) g hret dX4_as_21 (⟨so_i (by unfold r_8; rw [if_neg (by omega)]), by unfold f_8; rw [if_neg (by omega)]⟩)
  · refine v_iload_n (pc := 8) 2 g dX4_as_8 rfl rfl ?_
    refine v_cSd (pc := 9) g dX4_as_9 lk_X4_97 ((c_X4_isKind _).any rfl rfl _) (Nat.le_of_ble_eq_true rfl) rfl rfl (Nat.le_of_ble_eq_true rfl) ?_
    refine v_ifb_ne (pc := 12) 22 g dX4_as_12 rfl (fun c12 => ?_) (fun c12 => ?_)
    · obtain ⟨i, hi, rfl⟩ := (show isP S p from c5).nat hI.n
      have ei : (nI i).toNatClampNeg = i := nI_clamp (by have := hI.n; omega)
      have hC : C7 S (nI i) k := ⟨c5, c12⟩
      refine v_aload_n (pc := 22) 0 g dX4_as_22 rfl rfl ?_
      refine v_get (pc := 23) g dX4_as_23 fl_X4_10 rfl rfl ?_
      refine v_get (pc := 26) g dX4_as_26 fl_X4_111 rfl rfl ?_
      refine v_iload_n (pc := 29) 1 g dX4_as_29 rfl rfl ?_
      refine v_ialdN (pc := 30) _ g dX4_as_30 rfl rfl (by have := hI.n; omega) (Nat.le_of_ble_eq_true rfl) ?_
      refine v_iload_n (pc := 31) 2 g dX4_as_31 rfl rfl ?_
      refine v_cSd (pc := 32) g dX4_as_32 lk_X4_147 ((c_X4_isUnder _ _).any rfl rfl _) (Nat.le_of_ble_eq_true rfl) rfl rfl (Nat.le_of_ble_eq_true rfl) ?_
      refine v_ifb_ne (pc := 35) 45 g dX4_as_35 rfl (fun c35 => ?_) (fun c35 => ?_)
      · refine v_aload_n (pc := 45) 0 g dX4_as_45 rfl rfl ?_
        refine v_get (pc := 46) g dX4_as_46 fl_X4_10 rfl rfl ?_
        refine v_get (pc := 49) g dX4_as_49 fl_X4_120 rfl rfl ?_
        refine v_iload_n (pc := 52) 1 g dX4_as_52 rfl rfl ?_
        refine v_ialdN (pc := 53) _ g dX4_as_53 rfl rfl (by have := hI.n; omega) (Nat.le_of_ble_eq_true rfl) ?_
        exact v_iret (pc := 54) g hret dX4_as_54 (⟨so_i (by unfold r_8; rw [if_pos hC, ei, if_pos c35]), by unfold f_8; rw [if_pos hC, ei, if_pos c35]⟩)
      · refine v_aload_n (pc := 38) 0 g dX4_as_38 rfl rfl ?_
        refine v_ldc (pc := 39) g dX4_as_39 co_X4_151 ?_
        refine v_cVd (pc := 41) g dX4_as_41 lk_X4_64 (c_X4_tell 2 (-1000000003) (by decide) (by decide)) (Nat.le_of_ble_eq_true rfl) rfl rfl rfl rfl (Nat.le_of_ble_eq_true rfl) ?_
        exact v_iret (pc := 44) g hret dX4_as_44 (⟨so_i (by unfold r_8; rw [if_pos hC, ei, if_neg c35]), by unfold f_8; rw [if_pos hC, ei, if_neg c35]⟩)
    · refine v_aload_n (pc := 15) 0 g dX4_as_15 rfl rfl ?_
      refine v_ldc (pc := 16) g dX4_as_16 co_X4_63 ?_
      refine v_cVd (pc := 18) g dX4_as_18 lk_X4_64 (c_X4_tell 0 (-1000000001) (by decide) (by decide)) (Nat.le_of_ble_eq_true rfl) rfl rfl rfl rfl (Nat.le_of_ble_eq_true rfl) ?_
      exact v_iret (pc := 21) g hret dX4_as_21 (⟨so_i (by unfold r_8; rw [if_neg (by omega)]), by unfold f_8; rw [if_neg (by omega)]⟩)
set_option maxRecDepth 20000 in
set_option maxHeartbeats 2000000 in
theorem c_X4_minutes {S : St} {u0 : Int32} {T : St} {u1 : Int32} {K : St} {u2 : Int32} {tb : Nat → Int32} {tl : Nat} {ni : Int32} {ns : Int32} {ne : Int32} {nk : Int32} {nv : Int32} {wi : Nat → Int32} {si : Nat → Int32} {nu : Nat → Int64} {fn : Nat → Int32} {kp : Int32} (n : Int32) (hI : Inv S) (hM : inR (sMi S) 0 99999) : RunD 5 yX4_minutes cX4_minutes 2 (some .int) [.ref 0, .int n] (xW S u0 T u1 K u2 tb tl ni ns ne nk nv wi si nu fn kp) (some (.int (r_9 S n))) (xW (s_9 S n) (if inR n 1 100 ∧ C9 S n then weN S u0 n.toNatClampNeg else u0) T u1 K u2 tb tl ni ns ne nk nv wi si nu (f_9 S fn n) kp) := by
  refine Runs.of (by decide) (Nat.le_of_ble_eq_true rfl) rfl ?_
  intro X g hret hnL
  refine v_iload_n (pc := 0) 1 g dX4_minutes_0 rfl rfl ?_
  refine v_iconst (pc := 1) (v := 1) g dX4_minutes_1 (by decide) ?_
  refine v_bipush (pc := 2) (v := 100) g dX4_minutes_2 (by decide) ?_
  refine v_cSd (pc := 4) g dX4_minutes_4 lk_X4_55 ((c_X4_within _ _ _ 1 100 rfl rfl).any rfl rfl _) (Nat.le_of_ble_eq_true rfl) rfl rfl (Nat.le_of_ble_eq_true rfl) ?_
  refine v_ifb_ne (pc := 7) 17 g dX4_minutes_7 rfl (fun c7 => ?_) (fun c7 => ?_)
  · obtain ⟨i, hi, rfl⟩ := (show inR n 0 ((100 : Nat) : Int) from ⟨by have := c7.1; omega, c7.2⟩).nat (by omega)
    have ei : (nI i).toNatClampNeg = i := nI_clamp (by omega)
    have hq : (99999 - nI i).toInt = 99999 - (i : Int) := pk_sub_toInt (a := 99999) (by omega) (by omega)
    have hni : (nI i).toInt = i := nI_toInt (by omega)
    refine v_aload_n (pc := 17) 0 g dX4_minutes_17 rfl rfl ?_
    refine v_get (pc := 18) g dX4_minutes_18 fl_X4_10 rfl rfl ?_
    refine v_get (pc := 21) g dX4_minutes_21 fl_X4_78 rfl rfl ?_
    refine v_ldc (pc := 24) g dX4_minutes_24 co_X4_152 ?_
    refine v_iload_n (pc := 26) 1 g dX4_minutes_26 rfl rfl ?_
    refine v_isub (pc := 27) g dX4_minutes_27 ?_
    refine v_icmp_le (pc := 28) 38 g dX4_minutes_28 rfl (fun c28 => ?_) (fun c28 => ?_)
    · have hC : C9 S (nI i) := by rw [i_le, hq] at c28; show _ + _ ≤ _; omega
      refine v_aload_n (pc := 38) 0 g dX4_minutes_38 rfl rfl ?_
      refine v_get (pc := 39) g dX4_minutes_39 fl_X4_10 rfl rfl ?_
      refine v_iload_n (pc := 42) 1 g dX4_minutes_42 rfl rfl ?_
      refine v_cVd (pc := 43) g dX4_minutes_43 lk_X4_154 (xs_goMinutes i hI (by omega)) (Nat.le_of_ble_eq_true rfl) rfl rfl rfl rfl (Nat.le_of_ble_eq_true rfl) ?_
      refine v_aload_n (pc := 46) 0 g dX4_minutes_46 rfl rfl ?_
      refine v_get (pc := 47) g dX4_minutes_47 fl_X4_10 rfl rfl ?_
      refine v_cVd (pc := 50) g dX4_minutes_50 lk_X4_81 (xs_burning) (Nat.le_of_ble_eq_true rfl) rfl rfl rfl rfl (Nat.le_of_ble_eq_true rfl) ?_
      exact v_iret (pc := 53) g hret dX4_minutes_53 (⟨so_i (by unfold r_9; rw [if_pos c7, if_pos hC, ei]), by unfold s_9 f_9; rw [if_pos ⟨c7, hC⟩, if_pos ⟨c7, hC⟩, if_pos c7, if_pos hC, ei]⟩)
    · have hC : ¬ C9 S (nI i) := by rw [i_le, hq] at c28; show ¬ (_ + _ ≤ _); omega
      refine v_aload_n (pc := 31) 0 g dX4_minutes_31 rfl rfl ?_
      refine v_ldc (pc := 32) g dX4_minutes_32 co_X4_153 ?_
      refine v_cVd (pc := 34) g dX4_minutes_34 lk_X4_64 (c_X4_tell 4 (-1000000005) (by decide) (by decide)) (Nat.le_of_ble_eq_true rfl) rfl rfl rfl rfl (Nat.le_of_ble_eq_true rfl) ?_
      exact v_iret (pc := 37) g hret dX4_minutes_37 (⟨so_i (by unfold r_9; rw [if_pos c7, if_neg hC]), by unfold s_9 f_9; rw [if_neg (fun z => hC z.2), if_neg (fun z => hC z.2), if_pos c7, if_neg hC]⟩)
  · refine v_aload_n (pc := 10) 0 g dX4_minutes_10 rfl rfl ?_
    refine v_ldc (pc := 11) g dX4_minutes_11 co_X4_63 ?_
    refine v_cVd (pc := 13) g dX4_minutes_13 lk_X4_64 (c_X4_tell 0 (-1000000001) (by decide) (by decide)) (Nat.le_of_ble_eq_true rfl) rfl rfl rfl rfl (Nat.le_of_ble_eq_true rfl) ?_
    exact v_iret (pc := 16) g hret dX4_minutes_16 (⟨so_i (by unfold r_9; rw [if_neg c7]), by unfold s_9 f_9; rw [if_neg (fun z => c7 z.1), if_neg (fun z => c7 z.1), if_neg c7]⟩)
set_option maxRecDepth 20000 in
set_option maxHeartbeats 2000000 in
theorem c_X4_image {S : St} {u0 : Int32} {T : St} {u1 : Int32} {K : St} {u2 : Int32} {tb : Nat → Int32} {tl : Nat} {ni : Int32} {ns : Int32} {ne : Int32} {nk : Int32} {nv : Int32} {wi : Nat → Int32} {si : Nat → Int32} {nu : Nat → Int64} {fn : Nat → Int32} {kp : Int32} : RunD 2 yX4_image cX4_image 1 (some .int) [.ref 0] (xW S u0 T u1 K u2 tb tl ni ns ne nk nv wi si nu fn kp) (some (.int 1)) (xW S u0 T u1 S u2 tb tl ni ns ne nk nv wi si nu fn 1) := by
  refine Runs.of (by decide) (Nat.le_of_ble_eq_true rfl) rfl ?_
  intro X g hret hnL
  refine v_aload_n (pc := 0) 0 g dX4_image_0 rfl rfl ?_
  refine v_get (pc := 1) g dX4_image_1 fl_X4_19 rfl rfl ?_
  refine v_aload_n (pc := 4) 0 g dX4_image_4 rfl rfl ?_
  refine v_get (pc := 5) g dX4_image_5 fl_X4_10 rfl rfl ?_
  refine v_cVd (pc := 8) g dX4_image_8 lk_X4_200 (xb_KS) (Nat.le_of_ble_eq_true rfl) rfl rfl rfl rfl (Nat.le_of_ble_eq_true rfl) ?_
  refine v_aload_n (pc := 11) 0 g dX4_image_11 rfl rfl ?_
  refine v_iconst (pc := 12) (v := 1) g dX4_image_12 (by decide) ?_
  refine v_put (pc := 13) _ g dX4_image_13 fp_X4_47 rfl (Nat.le_of_ble_eq_true rfl) rfl rfl rfl rfl ?_
  refine v_iconst (pc := 16) (v := 1) g dX4_image_16 (by decide) ?_
  exact v_iret (pc := 17) g hret dX4_image_17 (⟨rfl, rfl⟩)
set_option maxRecDepth 20000 in
set_option maxHeartbeats 2000000 in
theorem c_X4_undo {S : St} {u0 : Int32} {T : St} {u1 : Int32} {K : St} {u2 : Int32} {tb : Nat → Int32} {tl : Nat} {ni : Int32} {ns : Int32} {ne : Int32} {nk : Int32} {nv : Int32} {wi : Nat → Int32} {si : Nat → Int32} {nu : Nat → Int64} {fn : Nat → Int32} {kp : Int32} : RunD 2 yX4_undo cX4_undo 1 (some .int) [.ref 0] (xW S u0 T u1 K u2 tb tl ni ns ne nk nv wi si nu fn kp) (some (.int (r_32 K kp))) (xW (s_32 S K kp) u0 T u1 K u2 tb tl ni ns ne nk nv wi si nu (f_32 kp fn) kp) := by
  refine Runs.of (by decide) (Nat.le_of_ble_eq_true rfl) rfl ?_
  intro X g hret hnL
  refine v_aload_n (pc := 0) 0 g dX4_undo_0 rfl rfl ?_
  refine v_get (pc := 1) g dX4_undo_1 fl_X4_47 rfl rfl ?_
  refine v_if_ne (pc := 4) 14 g dX4_undo_4 rfl (fun c4 => ?_) (fun c4 => ?_)
  · refine v_aload_n (pc := 14) 0 g dX4_undo_14 rfl rfl ?_
    refine v_get (pc := 15) g dX4_undo_15 fl_X4_10 rfl rfl ?_
    refine v_aload_n (pc := 18) 0 g dX4_undo_18 rfl rfl ?_
    refine v_get (pc := 19) g dX4_undo_19 fl_X4_19 rfl rfl ?_
    refine v_cVd (pc := 22) g dX4_undo_22 lk_X4_200 (xb_SK) (Nat.le_of_ble_eq_true rfl) rfl rfl rfl rfl (Nat.le_of_ble_eq_true rfl) ?_
    refine v_aload_n (pc := 25) 0 g dX4_undo_25 rfl rfl ?_
    refine v_get (pc := 26) g dX4_undo_26 fl_X4_10 rfl rfl ?_
    refine v_get (pc := 29) g dX4_undo_29 fl_X4_100 rfl rfl ?_
    exact v_iret (pc := 32) g hret dX4_undo_32 (⟨so_i (by unfold r_32; rw [if_neg c4]), by unfold s_32 f_32; rw [if_neg c4, if_neg c4]⟩)
  · refine v_aload_n (pc := 7) 0 g dX4_undo_7 rfl rfl ?_
    refine v_ldc (pc := 8) g dX4_undo_8 co_X4_173 ?_
    refine v_cVd (pc := 10) g dX4_undo_10 lk_X4_64 (c_X4_tell 3 (-1000000004) (by decide) (by decide)) (Nat.le_of_ble_eq_true rfl) rfl rfl rfl rfl (Nat.le_of_ble_eq_true rfl) ?_
    exact v_iret (pc := 13) g hret dX4_undo_13 (⟨so_i (by unfold r_32; rw [if_pos c4]), by unfold s_32 f_32; rw [if_pos c4, if_pos c4]⟩)
set_option maxRecDepth 20000 in
set_option maxHeartbeats 2000000 in
theorem c_X4_tear {S : St} {u0 : Int32} {T : St} {u1 : Int32} {K : St} {u2 : Int32} {tb : Nat → Int32} {tl : Nat} {ni : Int32} {ns : Int32} {ne : Int32} {nk : Int32} {nv : Int32} {wi : Nat → Int32} {si : Nat → Int32} {nu : Nat → Int64} {fn : Nat → Int32} {kp : Int32} : RunD 0 yX4_tear cX4_tear 2 (some .int) [.ref 0] (xW S u0 T u1 K u2 tb tl ni ns ne nk nv wi si nu fn kp) (some (.int (r_33 kp))) (xW S u0 T u1 K u2 tb tl ni ns ne nk nv wi si nu fn 0) := by
  refine Runs.of (by decide) (Nat.le_of_ble_eq_true rfl) rfl ?_
  intro X g hret hnL
  refine v_aload_n (pc := 0) 0 g dX4_tear_0 rfl rfl ?_
  refine v_get (pc := 1) g dX4_tear_1 fl_X4_47 rfl rfl ?_
  refine v_if_eq (pc := 4) 11 g dX4_tear_4 rfl (fun c4 => ?_) (fun c4 => ?_)
  · refine v_iconst (pc := 11) (v := 0) g dX4_tear_11 (by decide) ?_
    refine v_istore_n (pc := 12) 1 _ g dX4_tear_12 rfl (Nat.le_of_ble_eq_true rfl) hnL.symm rfl ?_
    refine v_aload_n (pc := 13) 0 g dX4_tear_13 rfl rfl ?_
    refine v_iconst (pc := 14) (v := 0) g dX4_tear_14 (by decide) ?_
    refine v_put (pc := 15) _ g dX4_tear_15 fp_X4_47 rfl (Nat.le_of_ble_eq_true rfl) rfl rfl rfl rfl ?_
    refine v_iload_n (pc := 18) 1 g dX4_tear_18 rfl rfl ?_
    exact v_iret (pc := 19) g hret dX4_tear_19 (⟨so_i (by unfold r_33; first | rw [if_pos c4] | rw [if_neg c4]), rfl⟩)
  · refine v_iconst (pc := 7) (v := 1) g dX4_tear_7 (by decide) ?_
    refine v_goto (pc := 8) 12 g dX4_tear_8 rfl ?_
    refine v_istore_n (pc := 12) 1 _ g dX4_tear_12 rfl (Nat.le_of_ble_eq_true rfl) hnL.symm rfl ?_
    refine v_aload_n (pc := 13) 0 g dX4_tear_13 rfl rfl ?_
    refine v_iconst (pc := 14) (v := 0) g dX4_tear_14 (by decide) ?_
    refine v_put (pc := 15) _ g dX4_tear_15 fp_X4_47 rfl (Nat.le_of_ble_eq_true rfl) rfl rfl rfl rfl ?_
    refine v_iload_n (pc := 18) 1 g dX4_tear_18 rfl rfl ?_
    exact v_iret (pc := 19) g hret dX4_tear_19 (⟨so_i (by unfold r_33; first | rw [if_pos c4] | rw [if_neg c4]), rfl⟩)
set_option maxRecDepth 20000 in
set_option maxHeartbeats 2000000 in
theorem c_X4_wipe {S : St} {u0 : Int32} {T : St} {u1 : Int32} {K : St} {u2 : Int32} {tb : Nat → Int32} {tl : Nat} {ni : Int32} {ns : Int32} {ne : Int32} {nk : Int32} {nv : Int32} {wi : Nat → Int32} {si : Nat → Int32} {nu : Nat → Int64} {fn : Nat → Int32} {kp : Int32} : RunD 0 yX4_wipe cX4_wipe 2 (some .int) [.ref 0] (xW S u0 T u1 K u2 tb tl ni ns ne nk nv wi si nu fn kp) (some (.int (nI tl))) (xW S u0 T u1 K u2 tb 0 ni ns ne nk nv wi si nu fn kp) := by
  refine Runs.of (by decide) (Nat.le_of_ble_eq_true rfl) rfl ?_
  intro X g hret hnL
  refine v_aload_n (pc := 0) 0 g dX4_wipe_0 rfl rfl ?_
  refine v_get (pc := 1) g dX4_wipe_1 fl_X4_25 rfl rfl ?_
  refine v_get (pc := 4) g dX4_wipe_4 fl_X4_187 rfl rfl ?_
  refine v_istore_n (pc := 7) 1 _ g dX4_wipe_7 rfl (Nat.le_of_ble_eq_true rfl) hnL.symm rfl ?_
  refine v_aload_n (pc := 8) 0 g dX4_wipe_8 rfl rfl ?_
  refine v_get (pc := 9) g dX4_wipe_9 fl_X4_25 rfl rfl ?_
  refine v_iconst (pc := 12) (v := 0) g dX4_wipe_12 (by decide) ?_
  refine v_put (pc := 13) _ g dX4_wipe_13 fp_X4_187 rfl (Nat.le_of_ble_eq_true rfl) rfl rfl rfl rfl ?_
  refine v_iload_n (pc := 16) 1 g dX4_wipe_16 rfl rfl ?_
  exact v_iret (pc := 17) g hret dX4_wipe_17 (⟨rfl, rfl⟩)
set_option maxRecDepth 20000 in
set_option maxHeartbeats 2000000 in
theorem c_X4_count {S : St} {u0 : Int32} {T : St} {u1 : Int32} {K : St} {u2 : Int32} {tb : Nat → Int32} {tl : Nat} {ni : Int32} {ns : Int32} {ne : Int32} {nk : Int32} {nv : Int32} {wi : Nat → Int32} {si : Nat → Int32} {nu : Nat → Int64} {fn : Nat → Int32} {kp : Int32} (w : Int32) (hI : Inv S) : RunD 2 yX4_count cX4_count 2 (some .int) [.ref 0, .int w] (xW S u0 T u1 K u2 tb tl ni ns ne nk nv wi si nu fn kp) (some (.int (r_34 S tl w))) (xW S u0 T u1 K u2 tb tl ni ns ne nk nv wi si nu (fdI (inR w 0 3) fn 0) kp) := by
  refine Runs.of (by decide) (Nat.le_of_ble_eq_true rfl) rfl ?_
  intro X g hret hnL
  refine v_iload_n (pc := 0) 1 g dX4_count_0 rfl rfl ?_
  refine v_top (fun x1 e1 => ?_)
  by_cases t1_0 : x1.toInt = 0
  · refine v_tin (pc := 1) 0 32 g dX4_count_1 t1_0 (by decide) (by decide) rfl rfl ?_
    rw [e1] at t1_0
    refine v_aload_n (pc := 32) 0 g dX4_count_32 rfl rfl ?_
    refine v_get (pc := 33) g dX4_count_33 fl_X4_10 rfl rfl ?_
    refine v_get (pc := 36) g dX4_count_36 fl_X4_100 rfl rfl ?_
    exact v_iret (pc := 39) g hret dX4_count_39 (⟨so_i (by unfold r_34; simp only [*, reduceIte, Int.reduceEq]), by unfold fdI; first | rw [if_pos (by omega)] | rw [if_neg (by omega)]⟩)
  by_cases t1_1 : x1.toInt = 1
  · refine v_tin (pc := 1) 1 40 g dX4_count_1 t1_1 (by decide) (by decide) rfl rfl ?_
    rw [e1] at t1_1
    refine v_aload_n (pc := 40) 0 g dX4_count_40 rfl rfl ?_
    refine v_get (pc := 41) g dX4_count_41 fl_X4_25 rfl rfl ?_
    refine v_get (pc := 44) g dX4_count_44 fl_X4_187 rfl rfl ?_
    exact v_iret (pc := 47) g hret dX4_count_47 (⟨so_i (by unfold r_34; simp only [*, reduceIte, Int.reduceEq]), by unfold fdI; first | rw [if_pos (by omega)] | rw [if_neg (by omega)]⟩)
  by_cases t1_2 : x1.toInt = 2
  · refine v_tin (pc := 1) 2 48 g dX4_count_1 t1_2 (by decide) (by decide) rfl rfl ?_
    rw [e1] at t1_2
    refine v_aload_n (pc := 48) 0 g dX4_count_48 rfl rfl ?_
    refine v_get (pc := 49) g dX4_count_49 fl_X4_10 rfl rfl ?_
    refine v_cVd (pc := 52) g dX4_count_52 lk_X4_254 (xs_lampsBurning) (Nat.le_of_ble_eq_true rfl) rfl rfl rfl rfl (Nat.le_of_ble_eq_true rfl) ?_
    exact v_iret (pc := 55) g hret dX4_count_55 (⟨so_i (by unfold r_34; simp only [*, reduceIte, Int.reduceEq]), by unfold fdI; first | rw [if_pos (by omega)] | rw [if_neg (by omega)]⟩)
  by_cases t1_3 : x1.toInt = 3
  · refine v_tin (pc := 1) 3 56 g dX4_count_1 t1_3 (by decide) (by decide) rfl rfl ?_
    rw [e1] at t1_3
    refine v_aload_n (pc := 56) 0 g dX4_count_56 rfl rfl ?_
    refine v_get (pc := 57) g dX4_count_57 fl_X4_10 rfl rfl ?_
    refine v_cVd (pc := 60) g dX4_count_60 lk_X4_257 (xs_goneOffOfAll hI) (Nat.le_of_ble_eq_true rfl) rfl rfl rfl rfl (Nat.le_of_ble_eq_true rfl) ?_
    exact v_iret (pc := 63) g hret dX4_count_63 (⟨so_i (by unfold r_34; simp only [*, reduceIte, Int.reduceEq]), by unfold fdI; first | rw [if_pos (by omega)] | rw [if_neg (by omega)]⟩)
  refine v_tout (pc := 1) 64 g dX4_count_1 (by omega) rfl ?_
  rw [e1] at t1_0
  rw [e1] at t1_1
  rw [e1] at t1_2
  rw [e1] at t1_3
  refine v_aload_n (pc := 64) 0 g dX4_count_64 rfl rfl ?_
  refine v_ldc (pc := 65) g dX4_count_65 co_X4_63 ?_
  refine v_cVd (pc := 67) g dX4_count_67 lk_X4_64 (c_X4_tell 0 (-1000000001) (by decide) (by decide)) (Nat.le_of_ble_eq_true rfl) rfl rfl rfl rfl (Nat.le_of_ble_eq_true rfl) ?_
  exact v_iret (pc := 70) g hret dX4_count_70 (⟨so_i (by unfold r_34; simp only [*, reduceIte, Int.reduceEq]), by unfold fdI; first | rw [if_pos (by omega)] | rw [if_neg (by omega)]⟩)
set_option maxRecDepth 20000 in
set_option maxHeartbeats 2000000 in
theorem c_X4_status {S : St} {u0 : Int32} {T : St} {u1 : Int32} {K : St} {u2 : Int32} {tb : Nat → Int32} {tl : Nat} {ni : Int32} {ns : Int32} {ne : Int32} {nk : Int32} {nv : Int32} {wi : Nat → Int32} {si : Nat → Int32} {nu : Nat → Int64} {fn : Nat → Int32} {kp : Int32} (w : Int32) : RunD 2 yX4_status cX4_status 4 (some .int) [.ref 0, .int w] (xW S u0 T u1 K u2 tb tl ni ns ne nk nv wi si nu fn kp) (some (.int (r_35 fn w))) (xW S u0 T u1 K u2 tb tl ni ns ne nk nv wi si nu (fdI (inR w (-1) 6) fn 0) kp) := by
  refine Runs.of (by decide) (Nat.le_of_ble_eq_true rfl) rfl ?_
  intro X g hret hnL
  refine v_iload_n (pc := 0) 1 g dX4_status_0 rfl rfl ?_
  refine v_iconst (pc := 1) (v := (-1)) g dX4_status_1 (by decide) ?_
  refine v_bipush (pc := 2) (v := 6) g dX4_status_2 (by decide) ?_
  refine v_cSd (pc := 4) g dX4_status_4 lk_X4_55 ((c_X4_within _ _ _ (-1) 6 rfl rfl).any rfl rfl _) (Nat.le_of_ble_eq_true rfl) rfl rfl (Nat.le_of_ble_eq_true rfl) ?_
  refine v_ifb_ne (pc := 7) 17 g dX4_status_7 rfl (fun c7 => ?_) (fun c7 => ?_)
  · refine v_iload_n (pc := 17) 1 g dX4_status_17 rfl rfl ?_
    refine v_if_lt (pc := 18) 28 g dX4_status_18 rfl (fun c18 => ?_) (fun c18 => ?_)
    · have h0 : w.toInt < 0 := i_lt.mp c18
      refine v_iconst (pc := 28) (v := 0) g dX4_status_28 (by decide) ?_
      refine v_istore_n (pc := 29) 2 _ g dX4_status_29 rfl (Nat.le_of_ble_eq_true rfl) hnL.symm rfl ?_
      refine v_iconst (pc := 30) (v := 0) g dX4_status_30 (by decide) ?_
      refine v_istore_n (pc := 31) 3 _ g dX4_status_31 rfl (Nat.le_of_ble_eq_true rfl) hnL.symm rfl ?_
      have L32 : ∀ (fu : Nat) (k : Nat), k ≤ 7 → 7 - k < fu → V X 32 [some (.ref 0), some (.int w), some (.int (sumN fn k)), some (.int (nI k))] [] (xW S u0 T u1 K u2 tb tl ni ns ne nk nv wi si nu fn kp) := by
        intro fu
        induction fu with
        | zero => intro k hk hm; exact absurd hm (Nat.not_lt_zero _)
        | succ fu ih =>
          intro k hk hm
          refine v_iload_n (pc := 32) 3 g dX4_status_32 rfl rfl ?_
          refine v_bipush (pc := 33) (v := 7) g dX4_status_33 (by decide) ?_
          refine v_icmp_ge (pc := 35) 53 g dX4_status_35 rfl (fun c35 => ?_) (fun c35 => ?_)
          · have e35 : k = 7 := ge_t (n := 7) rfl hk (by omega) c35
            subst e35
            refine v_iload_n (pc := 53) 2 g dX4_status_53 rfl rfl ?_
            exact v_iret (pc := 54) g hret dX4_status_54 (⟨so_i (by unfold r_35; rw [if_pos c7, if_pos h0]), by unfold fdI; rw [if_pos c7]⟩)
          · have e35 : k < 7 := ge_f (n := 7) rfl hk (by omega) c35
            refine v_iload_n (pc := 38) 2 g dX4_status_38 rfl rfl ?_
            refine v_aload_n (pc := 39) 0 g dX4_status_39 rfl rfl ?_
            refine v_get (pc := 40) g dX4_status_40 fl_X4_43 rfl rfl ?_
            refine v_iload_n (pc := 43) 3 g dX4_status_43 rfl rfl ?_
            refine v_ialdN (pc := 44) _ g dX4_status_44 rfl rfl (by omega) (Nat.le_of_ble_eq_true rfl) ?_
            refine v_iadd (pc := 45) g dX4_status_45 ?_
            refine v_istore_n (pc := 46) 2 _ g dX4_status_46 rfl (Nat.le_of_ble_eq_true rfl) hnL.symm rfl ?_
            refine v_iincN (pc := 47) g dX4_status_47 rfl hnL.symm ?_
            refine v_goto (pc := 50) 32 g dX4_status_50 rfl ?_
            exact ih (k + 1) (by omega) (by omega)
      exact L32 8 0 (Nat.zero_le _) (by omega)
    · have h0 : 0 ≤ w.toInt := i_le.mp (Int32.not_lt.mp c18)
      obtain ⟨i, hi, rfl⟩ := (show inR w 0 ((6 : Nat) : Int) from ⟨h0, c7.2⟩).nat (by omega)
      have ei : (nI i).toNatClampNeg = i := nI_clamp (by omega)
      refine v_aload_n (pc := 21) 0 g dX4_status_21 rfl rfl ?_
      refine v_get (pc := 22) g dX4_status_22 fl_X4_43 rfl rfl ?_
      refine v_iload_n (pc := 25) 1 g dX4_status_25 rfl rfl ?_
      refine v_ialdN (pc := 26) _ g dX4_status_26 rfl rfl (by omega) (Nat.le_of_ble_eq_true rfl) ?_
      exact v_iret (pc := 27) g hret dX4_status_27 (⟨so_i (by unfold r_35; rw [if_pos c7, if_neg (by omega), ei]), by unfold fdI; rw [if_pos c7]⟩)
  · refine v_aload_n (pc := 10) 0 g dX4_status_10 rfl rfl ?_
    refine v_ldc (pc := 11) g dX4_status_11 co_X4_63 ?_
    refine v_cVd (pc := 13) g dX4_status_13 lk_X4_64 (c_X4_tell 0 (-1000000001) (by decide) (by decide)) (Nat.le_of_ble_eq_true rfl) rfl rfl rfl rfl (Nat.le_of_ble_eq_true rfl) ?_
    exact v_iret (pc := 16) g hret dX4_status_16 (⟨so_i (by unfold r_35; rw [if_neg c7]), by unfold fdI; rw [if_neg c7]⟩)
