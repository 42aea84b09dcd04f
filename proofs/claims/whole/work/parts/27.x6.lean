/-! ===== what each call answers, V: sheets and streets ===== -/
abbrev okJ (v : Int64) : Prop := 0 ≤ v ∧ v ≤ 99
def layS (S : St) (nu : Nat → Int64) (z : Nat) : Nat → St × Int32
  | 0 => (S, 0)
  | k + 1 => if okJ (nu (40 * z + k)) then (pCo (layS S nu z k).1 (upd (sCo (layS S nu z k).1) k (nu (40 * z + k)).toInt32), (layS S nu z k).2 + 1) else layS S nu z k
def szN (si : Nat → Int32) (z : Nat) : Nat := (si z).toNatClampNeg
def mnN (a b : Nat) : Nat := if b < a then b else a
def r28k (S : St) (wi si : Nat → Int32) (nu : Nat → Int64) (z : Nat) : Int32 := if wi z = 0 then -1000000006 else (layS S nu z (mnN (szN si z) (sN S))).2
def s28k (S : St) (wi si : Nat → Int32) (nu : Nat → Int64) (z : Nat) : St := if wi z = 0 then S else (layS S nu z (mnN (szN si z) (sN S))).1
def f28k (wi fn : Nat → Int32) (z : Nat) : Nat → Int32 := if wi z = 0 then fdn fn 5 else fn
def r_28 (S : St) (wi si : Nat → Int32) (nu : Nat → Int64) (s : Int32) : Int32 := if isS s then r28k S wi si nu s.toNatClampNeg else -1000000001
def s_28 (S : St) (wi si : Nat → Int32) (nu : Nat → Int64) (s : Int32) : St := if isS s then s28k S wi si nu s.toNatClampNeg else S
def f_28 (wi fn : Nat → Int32) (s : Int32) : Nat → Int32 := if isS s then f28k wi fn s.toNatClampNeg else fdn fn 0
def bkN (S : St) (nu : Nat → Int64) (z p : Nat) : Nat → (Nat → Int64)
  | 0 => nu
  | k + 1 => vp_updL (bkN S nu z p k) (40 * z + k) (sTi (minN S k) p).toInt64
def jst (S : St) (nu : Nat → Int64) (z p : Nat) : Nat → Bool
  | 0 => true
  | k + 1 => jst S nu z p k && decide (nu (40 * z + k) = (sTi (minN S k) p).toInt64)
def kc (S : St) (p k c : Nat) : St := pCo (pKi S (upd (sKi S) p (nI k))) (upd (sCo S) p (nI c))
def pR (S : St) (si : Nat → Int32) (nu : Nat → Int64) (z p code : Nat) : Bool := jst (kc S p (code / 100) (code % 100)) nu z p (szN si z)
def r29k (S : St) (wi si : Nat → Int32) (z : Nat) (p : Int32) : Int32 := if wi z = 0 then -1000000006 else if isP S p then si z else -1000000001
def q29k (S : St) (wi si : Nat → Int32) (nu : Nat → Int64) (z : Nat) (p : Int32) : Nat → Int64 := if wi z = 0 then nu else if isP S p then bkN S nu z p.toNatClampNeg (szN si z) else nu
def f29k (S : St) (wi fn : Nat → Int32) (z : Nat) (p : Int32) : Nat → Int32 := if wi z = 0 then fdn fn 5 else if isP S p then fn else fdn fn 0
def r_29 (S : St) (wi si : Nat → Int32) (s p : Int32) : Int32 := if isS s then r29k S wi si s.toNatClampNeg p else -1000000001
def q_29 (S : St) (wi si : Nat → Int32) (nu : Nat → Int64) (s p : Int32) : Nat → Int64 := if isS s then q29k S wi si nu s.toNatClampNeg p else nu
def f_29 (S : St) (wi fn : Nat → Int32) (s p : Int32) : Nat → Int32 := if isS s then f29k S wi fn s.toNatClampNeg p else fdn fn 0
def r30k (S : St) (wi si : Nat → Int32) (nu : Nat → Int64) (z : Nat) (p : Int32) : Int32 := if wi z = 0 then -1000000006 else if isP S p then cntN (pR S si nu z p.toNatClampNeg) 600 else -1000000001
def r_30 (S : St) (wi si : Nat → Int32) (nu : Nat → Int64) (s p : Int32) : Int32 := if isS s then r30k S wi si nu s.toNatClampNeg p else -1000000001
theorem Inv.kc {S : St} (h : Inv S) (p : Nat) {k c : Nat} (hk : k ≤ 5) (hc : c ≤ 99) : Inv (kc S p k c) := Inv.pCo (h.pKi (updR h.ki (inR_nI (m := 5) hk (by omega)))) (updR h.co (inR_nI (m := 99) hc (by omega)))
theorem jst_no {S : St} {nu : Nat → Int64} {z p k : Nat} (h : jst S nu z p k = false) : ∀ m, k ≤ m → jst S nu z p m = false
  | 0, hm => by rw [show k = 0 by omega] at h; exact h
  | m + 1, hm => by
    rcases Nat.lt_or_ge k (m + 1) with q | q
    · rw [jst, jst_no h m (by omega)]; rfl
    · rw [show m + 1 = k by omega]; exact h
theorem szN_e {si : Nat → Int32} {z : Nat} (h : inR (si z) 0 40) : si z = nI (szN si z) ∧ szN si z ≤ 40 := h.clamp (m := 40) (by omega)
theorem lg_lt {x y : Int64} : lg_cmp x y < 0 ↔ x < y := by
  rw [← Int32.not_le, ← Int64.not_le, lg_cmp_ge]
theorem lg_eq {x y : Int64} : lg_cmp x y = 0 ↔ x = y := by
  unfold lg_cmp
  by_cases h : x > y
  · rw [if_pos h]
    refine ⟨fun z => absurd z (by decide), fun z => ?_⟩
    subst z
    exact absurd h (Int64.lt_irrefl)
  · rw [if_neg h]
    by_cases e : x = y
    · rw [if_pos e]; exact ⟨fun _ => e, fun _ => rfl⟩
    · rw [if_neg e]; exact ⟨fun z => absurd z (by decide), fun z => absurd z e⟩
theorem lg_gt {x y : Int64} : 0 < lg_cmp x y ↔ y < x := by
  unfold lg_cmp
  by_cases h : x > y
  · rw [if_pos h]; exact ⟨fun _ => h, fun _ => by decide⟩
  · rw [if_neg h]
    by_cases e : x = y
    · rw [if_pos e]; exact ⟨fun z => absurd z (by decide), fun z => absurd z h⟩
    · rw [if_neg e]; exact ⟨fun z => absurd z (by decide), fun z => absurd z h⟩
theorem cut_small {x b : Int32} (h : inR x 0 99) : cutJ x.toInt64 b = x.toInt64 := by
  obtain ⟨j, hj, rfl⟩ := h.nat (m := 99) (by omega)
  have : ∀ j, j < 100 → (nI j).toInt64.toInt32.toInt8.toInt32.toInt64 = (nI j).toInt64 ∧ (nI j).toInt64.toInt32.toInt16.toInt32.toInt64 = (nI j).toInt64 := by decide +kernel
  unfold cutJ
  rw [(this j (by omega)).1, (this j (by omega)).2]
  simp
/-! ===== the class: sheets and streets ===== -/
set_option maxRecDepth 20000 in
set_option maxHeartbeats 2000000 in
theorem c_X4_lays {S : St} {u0 : Int32} {T : St} {u1 : Int32} {K : St} {u2 : Int32} {tb : Nat → Int32} {tl : Nat} {ni : Int32} {ns : Int32} {ne : Int32} {nk : Int32} {nv : Int32} {wi : Nat → Int32} {si : Nat → Int32} {nu : Nat → Int64} {fn : Nat → Int32} {kp : Int32} (s : Int32) (hI : Inv S) (hZ : ∀ k, inR (si k) 0 40) : RunD 2 yX4_lays cX4_lays 7 (some .int) [.ref 0, .int s] (xW S u0 T u1 K u2 tb tl ni ns ne nk nv wi si nu fn kp) (some (.int (r_28 S wi si nu s))) (xW (s_28 S wi si nu s) u0 T u1 K u2 tb tl ni ns ne nk nv wi si nu (f_28 wi fn s) kp) := by
  refine Runs.of (by decide) (Nat.le_of_ble_eq_true rfl) rfl ?_
  intro X g hret hnL
  refine v_iload_n (pc := 0) 1 g dX4_lays_0 rfl rfl ?_
  refine v_cSd (pc := 1) g dX4_lays_1 lk_X4_207 ((c_X4_isSheet _).any rfl rfl _) (Nat.le_of_ble_eq_true rfl) rfl rfl (Nat.le_of_ble_eq_true rfl) ?_
  refine v_ifb_ne (pc := 4) 14 g dX4_lays_4 rfl (fun c4 => ?_) (fun c4 => ?_)
  · obtain ⟨z, hz, rfl⟩ := c4.nat (m := 3) (by omega)
    have ez : (nI z).toNatClampNeg = z := nI_clamp (by omega)
    obtain ⟨es, hs40⟩ := szN_e (hZ z)
    refine v_aload_n (pc := 14) 0 g dX4_lays_14 rfl rfl ?_
    refine v_get (pc := 15) g dX4_lays_15 fl_X4_39 rfl rfl ?_
    refine v_iload_n (pc := 18) 1 g dX4_lays_18 rfl rfl ?_
    refine v_cVd (pc := 19) g dX4_lays_19 lk_X4_218 (xh_isMissing z (by omega)) (Nat.le_of_ble_eq_true rfl) rfl rfl rfl rfl (Nat.le_of_ble_eq_true rfl) ?_
    refine v_ifb_eq (pc := 22) 32 g dX4_lays_22 rfl (fun c22 => ?_) (fun c22 => ?_)
    · refine v_iconst (pc := 32) (v := 0) g dX4_lays_32 (by decide) ?_
      refine v_istore_n (pc := 33) 2 _ g dX4_lays_33 rfl (Nat.le_of_ble_eq_true rfl) hnL.symm rfl ?_
      refine v_aload_n (pc := 34) 0 g dX4_lays_34 rfl rfl ?_
      refine v_get (pc := 35) g dX4_lays_35 fl_X4_39 rfl rfl ?_
      refine v_get (pc := 38) g dX4_lays_38 fl_X4_222 rfl rfl ?_
      refine v_iload_n (pc := 41) 1 g dX4_lays_41 rfl rfl ?_
      refine v_ialdN (pc := 42) _ g dX4_lays_42 rfl rfl (by omega) (Nat.le_of_ble_eq_true rfl) ?_
      refine v_aload_n (pc := 43) 0 g dX4_lays_43 rfl rfl ?_
      refine v_get (pc := 44) g dX4_lays_44 fl_X4_10 rfl rfl ?_
      refine v_get (pc := 47) g dX4_lays_47 fl_X4_100 rfl rfl ?_
      refine v_min (pc := 50) g dX4_lays_50 lk_X4_243 (Nat.le_of_ble_eq_true rfl) (Nat.le_of_ble_eq_true rfl) ?_
      rw [show (if nI (sN S) < si z then nI (sN S) else si z) = nI (mnN (szN si z) (sN S)) by rw [es]; have := hI.n; exact mn_nI (a := szN si z) (b := sN S) (by omega) (by omega)]
      have hmn : mnN (szN si z) (sN S) ≤ szN si z ∧ mnN (szN si z) (sN S) ≤ sN S := by unfold mnN; split <;> omega
      refine v_istore_n (pc := 53) 3 _ g dX4_lays_53 rfl (Nat.le_of_ble_eq_true rfl) hnL.symm rfl ?_
      refine v_iconst (pc := 54) (v := 0) g dX4_lays_54 (by decide) ?_
      refine v_istore (pc := 55) _ g dX4_lays_55 (Nat.le_of_ble_eq_true rfl) hnL.symm rfl ?_
      refine v_fg [true, true, true, true, true, false, false] ?_
      have L57 : ∀ (fu : Nat) (k : Nat), k ≤ mnN (szN si z) (sN S) → mnN (szN si z) (sN S) - k < fu → V X 57 [some (.ref 0), some (.int (nI z)), some (.int (layS S nu z k).2), some (.int (nI (mnN (szN si z) (sN S)))), some (.int (nI k)), none, none] [] (xW ((layS S nu z k).1) u0 T u1 K u2 tb tl ni ns ne nk nv wi si nu fn kp) := by
        intro fu
        induction fu with
        | zero => intro k hk hm; exact absurd hm (Nat.not_lt_zero _)
        | succ fu ih =>
          intro k hk hm
          refine v_iload (pc := 57) g dX4_lays_57 rfl ?_
          refine v_iload_n (pc := 59) 3 g dX4_lays_59 rfl rfl ?_
          refine v_icmp_ge (pc := 60) 113 g dX4_lays_60 rfl (fun c60 => ?_) (fun c60 => ?_)
          · have e60 : k = mnN (szN si z) (sN S) := ge_t (n := mnN (szN si z) (sN S)) rfl hk (by omega) c60
            subst e60
            refine v_iload_n (pc := 113) 2 g dX4_lays_113 rfl rfl ?_
            exact v_iret (pc := 114) g hret dX4_lays_114 (⟨so_i (by unfold r_28 r28k; rw [if_pos c4, ez, if_neg c22]), by unfold s_28 s28k f_28 f28k; rw [if_pos c4, if_pos c4, ez, if_neg c22, if_neg c22]⟩)
          · have e60 : k < mnN (szN si z) (sN S) := ge_f (n := mnN (szN si z) (sN S)) rfl hk (by omega) c60
            refine v_aload_n (pc := 63) 0 g dX4_lays_63 rfl rfl ?_
            refine v_get (pc := 64) g dX4_lays_64 fl_X4_39 rfl rfl ?_
            refine v_iload_n (pc := 67) 1 g dX4_lays_67 rfl rfl ?_
            refine v_iload (pc := 68) g dX4_lays_68 rfl ?_
            refine v_cVd (pc := 70) g dX4_lays_70 lk_X4_225 (xh_number z k (by omega) (by omega)) (Nat.le_of_ble_eq_true rfl) rfl rfl rfl rfl (Nat.le_of_ble_eq_true rfl) ?_
            refine v_lstore (pc := 73) _ g dX4_lays_73 (Nat.le_of_ble_eq_true rfl) hnL.symm rfl ?_
            refine v_lload (pc := 75) g dX4_lays_75 rfl ?_
            refine v_lconst (pc := 77) (v := 0) g dX4_lays_77 (by decide) ?_
            refine v_lcmp (pc := 78) g dX4_lays_78 ?_
            refine v_if_lt (pc := 79) 107 g dX4_lays_79 rfl (fun c79 => ?_) (fun c79 => ?_)
            · have eb : layS S nu z (k + 1) = layS S nu z k := if_neg (fun q => absurd q.1 (Int64.not_le.mpr (lg_lt.mp c79)))
              refine v_iincN (pc := 107) g dX4_lays_107 rfl hnL.symm ?_
              refine v_goto (pc := 110) 57 g dX4_lays_110 rfl ?_
              refine v_fg [true, true, true, true, true, false, false] ?_
              refine v_loE [some (.ref 0), some (.int (nI z)), some (.int (layS S nu z (k + 1)).2), some (.int (nI (mnN (szN si z) (sN S)))), some (.int (nI (k + 1))), none, none] (by rw [eb]; rfl) ?_
              refine v_w (xW ((layS S nu z (k + 1)).1) u0 T u1 K u2 tb tl ni ns ne nk nv wi si nu fn kp) (by rw [eb]; try rfl) ?_
              exact ih (k + 1) (by omega) (by omega)
            · refine v_lload (pc := 82) g dX4_lays_82 rfl ?_
              refine v_ldc2 (pc := 84) g dX4_lays_84 co_X4_248 ?_
              refine v_lcmp (pc := 87) g dX4_lays_87 ?_
              refine v_if_gt (pc := 88) 107 g dX4_lays_88 rfl (fun c88 => ?_) (fun c88 => ?_)
              · have eb : layS S nu z (k + 1) = layS S nu z k := if_neg (fun q => absurd q.2 (Int64.not_le.mpr (lg_gt.mp c88)))
                refine v_iincN (pc := 107) g dX4_lays_107 rfl hnL.symm ?_
                refine v_goto (pc := 110) 57 g dX4_lays_110 rfl ?_
                refine v_fg [true, true, true, true, true, false, false] ?_
                refine v_loE [some (.ref 0), some (.int (nI z)), some (.int (layS S nu z (k + 1)).2), some (.int (nI (mnN (szN si z) (sN S)))), some (.int (nI (k + 1))), none, none] (by rw [eb]; rfl) ?_
                refine v_w (xW ((layS S nu z (k + 1)).1) u0 T u1 K u2 tb tl ni ns ne nk nv wi si nu fn kp) (by rw [eb]; try rfl) ?_
                exact ih (k + 1) (by omega) (by omega)
              · have eb : layS S nu z (k + 1) = (pCo (layS S nu z k).1 (upd (sCo (layS S nu z k).1) k (nu (40 * z + k)).toInt32), (layS S nu z k).2 + 1) := if_pos ⟨Int64.not_lt.mp (fun q => c79 (lg_lt.mpr q)), Int64.not_lt.mp (fun q => c88 (lg_gt.mpr q))⟩
                refine v_aload_n (pc := 91) 0 g dX4_lays_91 rfl rfl ?_
                refine v_get (pc := 92) g dX4_lays_92 fl_X4_10 rfl rfl ?_
                refine v_get (pc := 95) g dX4_lays_95 fl_X4_120 rfl rfl ?_
                refine v_iload (pc := 98) g dX4_lays_98 rfl ?_
                refine v_lload (pc := 100) g dX4_lays_100 rfl ?_
                refine v_l2i (pc := 102) g dX4_lays_102 ?_
                refine v_iastN (pc := 103) _ _ g dX4_lays_103 rfl rfl (by have := hI.n; omega) (Nat.le_of_ble_eq_true rfl) rfl ?_
                refine v_iinc (pc := 104) _ _ g dX4_lays_104 rfl rfl hnL.symm rfl ?_
                refine v_iincN (pc := 107) g dX4_lays_107 rfl hnL.symm ?_
                refine v_goto (pc := 110) 57 g dX4_lays_110 rfl ?_
                refine v_fg [true, true, true, true, true, false, false] ?_
                refine v_loE [some (.ref 0), some (.int (nI z)), some (.int (layS S nu z (k + 1)).2), some (.int (nI (mnN (szN si z) (sN S)))), some (.int (nI (k + 1))), none, none] (by rw [eb]; rfl) ?_
                refine v_w (xW ((layS S nu z (k + 1)).1) u0 T u1 K u2 tb tl ni ns ne nk nv wi si nu fn kp) (by rw [eb]; try rfl) ?_
                exact ih (k + 1) (by omega) (by omega)
      exact L57 (mnN (szN si z) (sN S) + 1) 0 (Nat.zero_le _) (by omega)
    · refine v_aload_n (pc := 25) 0 g dX4_lays_25 rfl rfl ?_
      refine v_ldc (pc := 26) g dX4_lays_26 co_X4_221 ?_
      refine v_cVd (pc := 28) g dX4_lays_28 lk_X4_64 (c_X4_tell 5 (-1000000006) (by decide) (by decide)) (Nat.le_of_ble_eq_true rfl) rfl rfl rfl rfl (Nat.le_of_ble_eq_true rfl) ?_
      exact v_iret (pc := 31) g hret dX4_lays_31 (⟨so_i (by unfold r_28 r28k; rw [if_pos c4, ez, if_pos c22]), by unfold s_28 s28k f_28 f28k; rw [if_pos c4, if_pos c4, ez, if_pos c22, if_pos c22]⟩)
  · refine v_aload_n (pc := 7) 0 g dX4_lays_7 rfl rfl ?_
    refine v_ldc (pc := 8) g dX4_lays_8 co_X4_63 ?_
    refine v_cVd (pc := 10) g dX4_lays_10 lk_X4_64 (c_X4_tell 0 (-1000000001) (by decide) (by decide)) (Nat.le_of_ble_eq_true rfl) rfl rfl rfl rfl (Nat.le_of_ble_eq_true rfl) ?_
    exact v_iret (pc := 13) g hret dX4_lays_13 (⟨so_i (by unfold r_28; rw [if_neg c4]), by unfold s_28 f_28; rw [if_neg c4, if_neg c4]⟩)
set_option maxRecDepth 20000 in
set_option maxHeartbeats 2000000 in
theorem c_X4_book {S : St} {u0 : Int32} {T : St} {u1 : Int32} {K : St} {u2 : Int32} {tb : Nat → Int32} {tl : Nat} {ni : Int32} {ns : Int32} {ne : Int32} {nk : Int32} {nv : Int32} {wi : Nat → Int32} {si : Nat → Int32} {nu : Nat → Int64} {fn : Nat → Int32} {kp : Int32} (s p : Int32) (hI : Inv S) (hZ : ∀ k, inR (si k) 0 40) : Runs 4 yX4_book cX4_book 4 (some .int) [.ref 0, .int s, .int p] (xW S u0 T u1 K u2 tb tl ni ns ne nk nv wi si nu fn kp) (fun r0 w0 => ∃ T1 v1, r0 = some (.int (r_29 S wi si s p)) ∧ w0 = xW S u0 T1 v1 K u2 tb tl ni ns ne nk nv wi si (q_29 S wi si nu s p) (f_29 S wi fn s p) kp) := by
  refine Runs.of (by decide) (Nat.le_of_ble_eq_true rfl) rfl ?_
  intro X g hret hnL
  refine v_iload_n (pc := 0) 1 g dX4_book_0 rfl rfl ?_
  refine v_cSd (pc := 1) g dX4_book_1 lk_X4_207 ((c_X4_isSheet _).any rfl rfl _) (Nat.le_of_ble_eq_true rfl) rfl rfl (Nat.le_of_ble_eq_true rfl) ?_
  refine v_ifb_ne (pc := 4) 14 g dX4_book_4 rfl (fun c4 => ?_) (fun c4 => ?_)
  · obtain ⟨z, hz, rfl⟩ := c4.nat (m := 3) (by omega)
    have ez : (nI z).toNatClampNeg = z := nI_clamp (by omega)
    obtain ⟨es, hs40⟩ := szN_e (hZ z)
    refine v_aload_n (pc := 14) 0 g dX4_book_14 rfl rfl ?_
    refine v_get (pc := 15) g dX4_book_15 fl_X4_39 rfl rfl ?_
    refine v_iload_n (pc := 18) 1 g dX4_book_18 rfl rfl ?_
    refine v_cVd (pc := 19) g dX4_book_19 lk_X4_218 (xh_isMissing z (by omega)) (Nat.le_of_ble_eq_true rfl) rfl rfl rfl rfl (Nat.le_of_ble_eq_true rfl) ?_
    refine v_ifb_eq (pc := 22) 32 g dX4_book_22 rfl (fun c22 => ?_) (fun c22 => ?_)
    · refine v_aload_n (pc := 32) 0 g dX4_book_32 rfl rfl ?_
      refine v_iload_n (pc := 33) 2 g dX4_book_33 rfl rfl ?_
      refine v_cVd (pc := 34) g dX4_book_34 lk_X4_108 (c_X4_isThere _ hI.n) (Nat.le_of_ble_eq_true rfl) rfl rfl rfl rfl (Nat.le_of_ble_eq_true rfl) ?_
      refine v_ifb_ne (pc := 37) 47 g dX4_book_37 rfl (fun c37 => ?_) (fun c37 => ?_)
      · have hC : isP S p := c37
        obtain ⟨i, hi, rfl⟩ := hC.nat hI.n
        have ei : (nI i).toNatClampNeg = i := nI_clamp (by have := hI.n; omega)
        refine v_aload_n (pc := 47) 0 g dX4_book_47 rfl rfl ?_
        refine v_cVd (pc := 48) g dX4_book_48 lk_X4_158 (c_X4_startTrial) (Nat.le_of_ble_eq_true rfl) rfl rfl rfl rfl (Nat.le_of_ble_eq_true rfl) ?_
        refine v_iconst (pc := 51) (v := 0) g dX4_book_51 (by decide) ?_
        refine v_istore_n (pc := 52) 3 _ g dX4_book_52 rfl (Nat.le_of_ble_eq_true rfl) hnL.symm rfl ?_
        have L53 : ∀ (fu : Nat) (k : Nat), k ≤ szN si z → szN si z - k < fu → V X 53 [some (.ref 0), some (.int (nI z)), some (.int (nI i)), some (.int (nI k))] [] (xW S u0 (minN S k) (weN S u1 k) K u2 tb tl ni ns ne nk nv wi si (bkN S nu z i k) fn kp) := by
          intro fu
          induction fu with
          | zero => intro k hk hm; exact absurd hm (Nat.not_lt_zero _)
          | succ fu ih =>
            intro k hk hm
            refine v_iload_n (pc := 53) 3 g dX4_book_53 rfl rfl ?_
            refine v_aload_n (pc := 54) 0 g dX4_book_54 rfl rfl ?_
            refine v_get (pc := 55) g dX4_book_55 fl_X4_39 rfl rfl ?_
            refine v_get (pc := 58) g dX4_book_58 fl_X4_222 rfl rfl ?_
            refine v_iload_n (pc := 61) 1 g dX4_book_61 rfl rfl ?_
            refine v_ialdN (pc := 62) _ g dX4_book_62 rfl rfl (by omega) (Nat.le_of_ble_eq_true rfl) ?_
            rw [es]
            refine v_icmp_ge (pc := 63) 98 g dX4_book_63 rfl (fun c63 => ?_) (fun c63 => ?_)
            · have e63 : k = szN si z := ge_t (n := szN si z) rfl hk (by omega) c63
              subst e63
              refine v_aload_n (pc := 98) 0 g dX4_book_98 rfl rfl ?_
              refine v_get (pc := 99) g dX4_book_99 fl_X4_39 rfl rfl ?_
              refine v_get (pc := 102) g dX4_book_102 fl_X4_222 rfl rfl ?_
              refine v_iload_n (pc := 105) 1 g dX4_book_105 rfl rfl ?_
              refine v_ialdN (pc := 106) _ g dX4_book_106 rfl rfl (by omega) (Nat.le_of_ble_eq_true rfl) ?_
              exact v_iret (pc := 107) g hret dX4_book_107 (⟨_, _, so_i (by unfold r_29 r29k; rw [if_pos c4, ez, if_neg c22, if_pos hC]), by unfold q_29 q29k f_29 f29k; rw [if_pos c4, if_pos c4, ez, if_neg c22, if_pos hC, if_neg c22, if_pos hC, ei]⟩)
            · have e63 : k < szN si z := ge_f (n := szN si z) rfl hk (by omega) c63
              refine v_aload_n (pc := 66) 0 g dX4_book_66 rfl rfl ?_
              refine v_get (pc := 67) g dX4_book_67 fl_X4_39 rfl rfl ?_
              refine v_iload_n (pc := 70) 1 g dX4_book_70 rfl rfl ?_
              refine v_iload_n (pc := 71) 3 g dX4_book_71 rfl rfl ?_
              refine v_aload_n (pc := 72) 0 g dX4_book_72 rfl rfl ?_
              refine v_get (pc := 73) g dX4_book_73 fl_X4_16 rfl rfl ?_
              refine v_get (pc := 76) g dX4_book_76 fl_X4_123 rfl rfl ?_
              refine v_iload_n (pc := 79) 2 g dX4_book_79 rfl rfl ?_
              refine v_ialdN (pc := 80) _ g dX4_book_80 rfl rfl (by have := hI.n; omega) (Nat.le_of_ble_eq_true rfl) ?_
              refine v_i2l (pc := 81) g dX4_book_81 ?_
              refine v_cVd (pc := 82) g dX4_book_82 lk_X4_229 (xh_put z k _ (by omega) (by omega)) (Nat.le_of_ble_eq_true rfl) rfl rfl rfl rfl (Nat.le_of_ble_eq_true rfl) ?_
              rw [cut_small ((hI.minN k).ti i)]
              refine v_aload_n (pc := 85) 0 g dX4_book_85 rfl rfl ?_
              refine v_get (pc := 86) g dX4_book_86 fl_X4_16 rfl rfl ?_
              refine v_cVd (pc := 89) g dX4_book_89 lk_X4_170 (xt_goMinute (hI.minN k)) (Nat.le_of_ble_eq_true rfl) rfl rfl rfl rfl (Nat.le_of_ble_eq_true rfl) ?_
              refine v_iincN (pc := 92) g dX4_book_92 rfl hnL.symm ?_
              refine v_goto (pc := 95) 53 g dX4_book_95 rfl ?_
              exact ih (k + 1) (by omega) (by omega)
        exact L53 (szN si z + 1) 0 (Nat.zero_le _) (by omega)
      · refine v_aload_n (pc := 40) 0 g dX4_book_40 rfl rfl ?_
        refine v_ldc (pc := 41) g dX4_book_41 co_X4_63 ?_
        refine v_cVd (pc := 43) g dX4_book_43 lk_X4_64 (c_X4_tell 0 (-1000000001) (by decide) (by decide)) (Nat.le_of_ble_eq_true rfl) rfl rfl rfl rfl (Nat.le_of_ble_eq_true rfl) ?_
        exact v_iret (pc := 46) g hret dX4_book_46 (⟨_, _, so_i (by unfold r_29 r29k; rw [if_pos c4, ez, if_neg c22, if_neg c37]), by unfold q_29 q29k f_29 f29k; rw [if_pos c4, if_pos c4, ez, if_neg c22, if_neg c37, if_neg c22, if_neg c37]⟩)
    · refine v_aload_n (pc := 25) 0 g dX4_book_25 rfl rfl ?_
      refine v_ldc (pc := 26) g dX4_book_26 co_X4_221 ?_
      refine v_cVd (pc := 28) g dX4_book_28 lk_X4_64 (c_X4_tell 5 (-1000000006) (by decide) (by decide)) (Nat.le_of_ble_eq_true rfl) rfl rfl rfl rfl (Nat.le_of_ble_eq_true rfl) ?_
      exact v_iret (pc := 31) g hret dX4_book_31 (⟨_, _, so_i (by unfold r_29 r29k; rw [if_pos c4, ez, if_pos c22]), by unfold q_29 q29k f_29 f29k; rw [if_pos c4, if_pos c4, ez, if_pos c22, if_pos c22]⟩)
  · refine v_aload_n (pc := 7) 0 g dX4_book_7 rfl rfl ?_
    refine v_ldc (pc := 8) g dX4_book_8 co_X4_63 ?_
    refine v_cVd (pc := 10) g dX4_book_10 lk_X4_64 (c_X4_tell 0 (-1000000001) (by decide) (by decide)) (Nat.le_of_ble_eq_true rfl) rfl rfl rfl rfl (Nat.le_of_ble_eq_true rfl) ?_
    exact v_iret (pc := 13) g hret dX4_book_13 (⟨_, _, so_i (by unfold r_29; rw [if_neg c4]), by unfold q_29 f_29; rw [if_neg c4, if_neg c4]⟩)
set_option maxRecDepth 20000 in
set_option maxHeartbeats 2000000 in
theorem c_X4_ticklesJustSo {S : St} {u0 : Int32} {T : St} {u1 : Int32} {K : St} {u2 : Int32} {tb : Nat → Int32} {tl : Nat} {ni : Int32} {ns : Int32} {ne : Int32} {nk : Int32} {nv : Int32} {wi : Nat → Int32} {si : Nat → Int32} {nu : Nat → Int64} {fn : Nat → Int32} {kp : Int32} (z i k c : Nat) (hI : Inv S) (hZ : ∀ k, inR (si k) 0 40) (hz : z < 4) (hi : i < 8) (hk : k ≤ 5) (hc : c ≤ 99) : Runs 4 yX4_ticklesJustSo cX4_ticklesJustSo 6 (some .boolean) [.ref 0, .int (nI z), .int (nI i), .int (nI k), .int (nI c)] (xW S u0 T u1 K u2 tb tl ni ns ne nk nv wi si nu fn kp) (fun r0 w0 => ∃ T1 v1, r0 = some (.int (bI (jst (kc S i k c) nu z i (szN si z) = true))) ∧ w0 = xW S u0 T1 v1 K u2 tb tl ni ns ne nk nv wi si nu fn kp) := by
  refine Runs.of (by decide) (Nat.le_of_ble_eq_true rfl) rfl ?_
  intro X g hret hnL
  obtain ⟨es, hs40⟩ := szN_e (hZ z)
  refine v_aload_n (pc := 0) 0 g dX4_ticklesJustSo_0 rfl rfl ?_
  refine v_cVd (pc := 1) g dX4_ticklesJustSo_1 lk_X4_158 (c_X4_startTrial) (Nat.le_of_ble_eq_true rfl) rfl rfl rfl rfl (Nat.le_of_ble_eq_true rfl) ?_
  refine v_aload_n (pc := 4) 0 g dX4_ticklesJustSo_4 rfl rfl ?_
  refine v_get (pc := 5) g dX4_ticklesJustSo_5 fl_X4_16 rfl rfl ?_
  refine v_get (pc := 8) g dX4_ticklesJustSo_8 fl_X4_111 rfl rfl ?_
  refine v_iload_n (pc := 11) 2 g dX4_ticklesJustSo_11 rfl rfl ?_
  refine v_iload_n (pc := 12) 3 g dX4_ticklesJustSo_12 rfl rfl ?_
  refine v_iastN (pc := 13) _ _ g dX4_ticklesJustSo_13 rfl rfl (by omega) (Nat.le_of_ble_eq_true rfl) rfl ?_
  refine v_aload_n (pc := 14) 0 g dX4_ticklesJustSo_14 rfl rfl ?_
  refine v_get (pc := 15) g dX4_ticklesJustSo_15 fl_X4_16 rfl rfl ?_
  refine v_get (pc := 18) g dX4_ticklesJustSo_18 fl_X4_120 rfl rfl ?_
  refine v_iload_n (pc := 21) 2 g dX4_ticklesJustSo_21 rfl rfl ?_
  refine v_iload (pc := 22) g dX4_ticklesJustSo_22 rfl ?_
  refine v_iastN (pc := 24) _ _ g dX4_ticklesJustSo_24 rfl rfl (by omega) (Nat.le_of_ble_eq_true rfl) rfl ?_
  refine v_w (xW S u0 (kc S i k c) u1 K u2 tb tl ni ns ne nk nv wi si nu fn kp) rfl ?_
  refine v_iconst (pc := 25) (v := 0) g dX4_ticklesJustSo_25 (by decide) ?_
  refine v_istore (pc := 26) _ g dX4_ticklesJustSo_26 (Nat.le_of_ble_eq_true rfl) hnL.symm rfl ?_
  have L28 : ∀ (fu : Nat) (q : Nat), q ≤ szN si z → jst (kc S i k c) nu z i q = true → szN si z - q < fu → V X 28 [some (.ref 0), some (.int (nI z)), some (.int (nI i)), some (.int (nI k)), some (.int (nI c)), some (.int (nI q))] [] (xW S u0 (minN (kc S i k c) q) (weN (kc S i k c) u1 q) K u2 tb tl ni ns ne nk nv wi si nu fn kp) := by
    intro fu
    induction fu with
    | zero => intro q hq hj hm; exact absurd hm (Nat.not_lt_zero _)
    | succ fu ih =>
      intro q hq hj hm
      refine v_iload (pc := 28) g dX4_ticklesJustSo_28 rfl ?_
      refine v_aload_n (pc := 30) 0 g dX4_ticklesJustSo_30 rfl rfl ?_
      refine v_get (pc := 31) g dX4_ticklesJustSo_31 fl_X4_39 rfl rfl ?_
      refine v_get (pc := 34) g dX4_ticklesJustSo_34 fl_X4_222 rfl rfl ?_
      refine v_iload_n (pc := 37) 1 g dX4_ticklesJustSo_37 rfl rfl ?_
      refine v_ialdN (pc := 38) _ g dX4_ticklesJustSo_38 rfl rfl (by omega) (Nat.le_of_ble_eq_true rfl) ?_
      rw [es]
      refine v_icmp_ge (pc := 39) 81 g dX4_ticklesJustSo_39 rfl (fun c39 => ?_) (fun c39 => ?_)
      · have e39 : q = szN si z := ge_t (n := szN si z) rfl hq (by omega) c39
        subst e39
        refine v_iconst (pc := 81) (v := 1) g dX4_ticklesJustSo_81 (by decide) ?_
        exact v_zret (pc := 82) g hret dX4_ticklesJustSo_82 (by first | exact nb1 | exact nb0 | exact nbI) (⟨_, _, so1 hj, rfl⟩)
      · have e39 : q < szN si z := ge_f (n := szN si z) rfl hq (by omega) c39
        refine v_aload_n (pc := 42) 0 g dX4_ticklesJustSo_42 rfl rfl ?_
        refine v_get (pc := 43) g dX4_ticklesJustSo_43 fl_X4_39 rfl rfl ?_
        refine v_iload_n (pc := 46) 1 g dX4_ticklesJustSo_46 rfl rfl ?_
        refine v_iload (pc := 47) g dX4_ticklesJustSo_47 rfl ?_
        refine v_cVd (pc := 49) g dX4_ticklesJustSo_49 lk_X4_225 (xh_number z q (by omega) (by omega)) (Nat.le_of_ble_eq_true rfl) rfl rfl rfl rfl (Nat.le_of_ble_eq_true rfl) ?_
        refine v_aload_n (pc := 52) 0 g dX4_ticklesJustSo_52 rfl rfl ?_
        refine v_get (pc := 53) g dX4_ticklesJustSo_53 fl_X4_16 rfl rfl ?_
        refine v_get (pc := 56) g dX4_ticklesJustSo_56 fl_X4_123 rfl rfl ?_
        refine v_iload_n (pc := 59) 2 g dX4_ticklesJustSo_59 rfl rfl ?_
        refine v_ialdN (pc := 60) _ g dX4_ticklesJustSo_60 rfl rfl (by omega) (Nat.le_of_ble_eq_true rfl) ?_
        refine v_i2l (pc := 61) g dX4_ticklesJustSo_61 ?_
        refine v_lcmp (pc := 62) g dX4_ticklesJustSo_62 ?_
        refine v_if_eq (pc := 63) 68 g dX4_ticklesJustSo_63 rfl (fun c63 => ?_) (fun c63 => ?_)
        · have ej : jst (kc S i k c) nu z i (q + 1) = true := by rw [jst, hj, Bool.true_and]; exact decide_eq_true (lg_eq.mp c63)
          refine v_aload_n (pc := 68) 0 g dX4_ticklesJustSo_68 rfl rfl ?_
          refine v_get (pc := 69) g dX4_ticklesJustSo_69 fl_X4_16 rfl rfl ?_
          refine v_cVd (pc := 72) g dX4_ticklesJustSo_72 lk_X4_170 (xt_goMinute ((hI.kc i hk hc).minN q)) (Nat.le_of_ble_eq_true rfl) rfl rfl rfl rfl (Nat.le_of_ble_eq_true rfl) ?_
          refine v_iincN (pc := 75) g dX4_ticklesJustSo_75 rfl hnL.symm ?_
          refine v_goto (pc := 78) 28 g dX4_ticklesJustSo_78 rfl ?_
          exact ih (q + 1) (by omega) ej (by omega)
        · have ej : jst (kc S i k c) nu z i (q + 1) = false := by rw [jst, hj, Bool.true_and]; exact decide_eq_false (fun y => c63 (lg_eq.mpr y))
          refine v_iconst (pc := 66) (v := 0) g dX4_ticklesJustSo_66 (by decide) ?_
          exact v_zret (pc := 67) g hret dX4_ticklesJustSo_67 (by first | exact nb1 | exact nb0 | exact nbI) (⟨_, _, so0 (by rw [jst_no ej _ (by omega)]; exact Bool.false_ne_true), rfl⟩)
  exact L28 (szN si z + 1) 0 (Nat.zero_le _) rfl (by omega)
set_option maxRecDepth 20000 in
set_option maxHeartbeats 2000000 in
theorem c_X4_read {S : St} {u0 : Int32} {T : St} {u1 : Int32} {K : St} {u2 : Int32} {tb : Nat → Int32} {tl : Nat} {ni : Int32} {ns : Int32} {ne : Int32} {nk : Int32} {nv : Int32} {wi : Nat → Int32} {si : Nat → Int32} {nu : Nat → Int64} {fn : Nat → Int32} {kp : Int32} (s p : Int32) (hI : Inv S) (hZ : ∀ k, inR (si k) 0 40) : Runs 5 yX4_read cX4_read 6 (some .int) [.ref 0, .int s, .int p] (xW S u0 T u1 K u2 tb tl ni ns ne nk nv wi si nu fn kp) (fun r0 w0 => ∃ T1 v1, r0 = some (.int (r_30 S wi si nu s p)) ∧ w0 = xW S u0 T1 v1 K u2 tb tl ni ns ne nk nv wi si nu (f_29 S wi fn s p) kp) := by
  refine Runs.of (by decide) (Nat.le_of_ble_eq_true rfl) rfl ?_
  intro X g hret hnL
  refine v_iload_n (pc := 0) 1 g dX4_read_0 rfl rfl ?_
  refine v_cSd (pc := 1) g dX4_read_1 lk_X4_207 ((c_X4_isSheet _).any rfl rfl _) (Nat.le_of_ble_eq_true rfl) rfl rfl (Nat.le_of_ble_eq_true rfl) ?_
  refine v_ifb_ne (pc := 4) 14 g dX4_read_4 rfl (fun c4 => ?_) (fun c4 => ?_)
  · obtain ⟨z, hz, rfl⟩ := c4.nat (m := 3) (by omega)
    have ez : (nI z).toNatClampNeg = z := nI_clamp (by omega)
    obtain ⟨es, hs40⟩ := szN_e (hZ z)
    refine v_aload_n (pc := 14) 0 g dX4_read_14 rfl rfl ?_
    refine v_get (pc := 15) g dX4_read_15 fl_X4_39 rfl rfl ?_
    refine v_iload_n (pc := 18) 1 g dX4_read_18 rfl rfl ?_
    refine v_cVd (pc := 19) g dX4_read_19 lk_X4_218 (xh_isMissing z (by omega)) (Nat.le_of_ble_eq_true rfl) rfl rfl rfl rfl (Nat.le_of_ble_eq_true rfl) ?_
    refine v_ifb_eq (pc := 22) 32 g dX4_read_22 rfl (fun c22 => ?_) (fun c22 => ?_)
    · refine v_aload_n (pc := 32) 0 g dX4_read_32 rfl rfl ?_
      refine v_iload_n (pc := 33) 2 g dX4_read_33 rfl rfl ?_
      refine v_cVd (pc := 34) g dX4_read_34 lk_X4_108 (c_X4_isThere _ hI.n) (Nat.le_of_ble_eq_true rfl) rfl rfl rfl rfl (Nat.le_of_ble_eq_true rfl) ?_
      refine v_ifb_ne (pc := 37) 47 g dX4_read_37 rfl (fun c37 => ?_) (fun c37 => ?_)
      · have hC : isP S p := c37
        obtain ⟨i, hi, rfl⟩ := hC.nat hI.n
        have ei : (nI i).toNatClampNeg = i := nI_clamp (by have := hI.n; omega)
        refine v_iconst (pc := 47) (v := 0) g dX4_read_47 (by decide) ?_
        refine v_istore_n (pc := 48) 3 _ g dX4_read_48 rfl (Nat.le_of_ble_eq_true rfl) hnL.symm rfl ?_
        refine v_iconst (pc := 49) (v := 0) g dX4_read_49 (by decide) ?_
        refine v_istore (pc := 50) _ g dX4_read_50 (Nat.le_of_ble_eq_true rfl) hnL.symm rfl ?_
        refine v_fg [true, true, true, true, true, false] ?_
        have L52 : ∀ (fu : Nat) (T : St) (u1 : Int32) (k : Nat), k ≤ 6 → 6 - k < fu → V X 52 [some (.ref 0), some (.int (nI z)), some (.int (nI i)), some (.int (cntN (pR S si nu z i) (100 * k))), some (.int (nI (k))), none] [] (xW S u0 T u1 K u2 tb tl ni ns ne nk nv wi si nu fn kp) := by
          intro fu
          induction fu with
          | zero => intro T u1 k hk hm; exact absurd hm (Nat.not_lt_zero _)
          | succ fu ih =>
            intro T u1 k hk hm
            refine v_iload (pc := 52) g dX4_read_52 rfl ?_
            refine v_bipush (pc := 54) (v := 6) g dX4_read_54 (by decide) ?_
            refine v_icmp_ge (pc := 56) 97 g dX4_read_56 rfl (fun c56 => ?_) (fun c56 => ?_)
            · have e56 : k = 6 := ge_t (n := 6) rfl hk (by omega) c56
              subst e56
              refine v_iload_n (pc := 97) 3 g dX4_read_97 rfl rfl ?_
              exact v_iret (pc := 98) g hret dX4_read_98 (⟨_, _, so_i (by unfold r_30 r30k; rw [if_pos c4, ez, if_neg c22, if_pos hC, ei]), by unfold f_29 f29k; rw [if_pos c4, ez, if_neg c22, if_pos hC]⟩)
            · have e56 : k < 6 := ge_f (n := 6) rfl hk (by omega) c56
              refine v_iconst (pc := 59) (v := 0) g dX4_read_59 (by decide) ?_
              refine v_istore (pc := 60) _ g dX4_read_60 (Nat.le_of_ble_eq_true rfl) hnL.symm rfl ?_
              have L62 : ∀ (fu : Nat) (T : St) (u1 : Int32) (c : Nat), c ≤ 100 → 100 - c < fu → V X 62 [some (.ref 0), some (.int (nI z)), some (.int (nI i)), some (.int (cntN (pR S si nu z i) (100 * k + c))), some (.int (nI (k))), some (.int (nI c))] [] (xW S u0 T u1 K u2 tb tl ni ns ne nk nv wi si nu fn kp) := by
                intro fu
                induction fu with
                | zero => intro T u1 c hc hm; exact absurd hm (Nat.not_lt_zero _)
                | succ fu ih2 =>
                  intro T u1 c hc hm
                  refine v_iload (pc := 62) g dX4_read_62 rfl ?_
                  refine v_bipush (pc := 64) (v := 99) g dX4_read_64 (by decide) ?_
                  refine v_icmp_gt (pc := 66) 91 g dX4_read_66 rfl (fun c66 => ?_) (fun c66 => ?_)
                  · have e66 : c = 100 := by have := (nI_ltI (a := 99) (b := c) (by omega) (by omega)).mp c66; omega
                    subst e66
                    refine v_iincN (pc := 91) g dX4_read_91 rfl hnL.symm ?_
                    refine v_goto (pc := 94) 52 g dX4_read_94 rfl ?_
                    refine v_fg [true, true, true, true, true, false] ?_
                    refine v_loE [some (.ref 0), some (.int (nI z)), some (.int (nI i)), some (.int (cntN (pR S si nu z i) (100 * (k + 1)))), some (.int (nI (k + 1))), none] (by rw [show 100 * (k + 1) = 100 * k + 100 by omega]; rfl) ?_
                    exact ih _ _ (k + 1) (by omega) (by omega)
                  · have e66 : c ≤ 99 := Nat.not_lt.mp (fun y => c66 ((nI_ltI (a := 99) (b := c) (by omega) (by omega)).mpr y))
                    refine v_aload_n (pc := 69) 0 g dX4_read_69 rfl rfl ?_
                    refine v_iload_n (pc := 70) 1 g dX4_read_70 rfl rfl ?_
                    refine v_iload_n (pc := 71) 2 g dX4_read_71 rfl rfl ?_
                    refine v_iload (pc := 72) g dX4_read_72 rfl ?_
                    refine v_iload (pc := 74) g dX4_read_74 rfl ?_
                    refine v_cV (pc := 76) g dX4_read_76 lk_X4_250 (Nat.le_of_ble_eq_true rfl) (c_X4_ticklesJustSo z i k c hI hZ (by omega) (by have := hI.n; omega) (by omega) e66) rfl rfl rfl rfl (Nat.le_of_ble_eq_true rfl) (fun r1 w1 hq => ?_)
                    obtain ⟨T1, v1, rfl, rfl⟩ := hq
                    refine v_ifb_eq (pc := 79) 85 g dX4_read_79 rfl (fun c79 => ?_) (fun c79 => ?_)
                    · have eb : cntN (pR S si nu z i) (100 * k + (c + 1)) = cntN (pR S si nu z i) (100 * k + c) := cnt_f (p := (pR S si nu z i)) (k := 100 * k + c) (by unfold pR; rw [show (100 * k + c) / 100 = k by omega, show (100 * k + c) % 100 = c by omega]; exact Bool.eq_false_iff.mpr c79)
                      refine v_iincN (pc := 85) g dX4_read_85 rfl hnL.symm ?_
                      refine v_goto (pc := 88) 62 g dX4_read_88 rfl ?_
                      refine v_loE [some (.ref 0), some (.int (nI z)), some (.int (nI i)), some (.int (cntN (pR S si nu z i) (100 * k + (c + 1)))), some (.int (nI (k))), some (.int (nI (c + 1)))] (by rw [eb]; rfl) ?_
                      exact ih2 _ _ (c + 1) (by omega) (by omega)
                    · have eb : cntN (pR S si nu z i) (100 * k + (c + 1)) = cntN (pR S si nu z i) (100 * k + c) + 1 := cnt_t (p := (pR S si nu z i)) (k := 100 * k + c) (by unfold pR; rw [show (100 * k + c) / 100 = k by omega, show (100 * k + c) % 100 = c by omega]; exact c79)
                      refine v_iinc (pc := 82) _ _ g dX4_read_82 rfl rfl hnL.symm rfl ?_
                      refine v_iincN (pc := 85) g dX4_read_85 rfl hnL.symm ?_
                      refine v_goto (pc := 88) 62 g dX4_read_88 rfl ?_
                      refine v_loE [some (.ref 0), some (.int (nI z)), some (.int (nI i)), some (.int (cntN (pR S si nu z i) (100 * k + (c + 1)))), some (.int (nI (k))), some (.int (nI (c + 1)))] (by rw [eb]; rfl) ?_
                      exact ih2 _ _ (c + 1) (by omega) (by omega)
              exact L62 101 _ _ 0 (Nat.zero_le _) (by omega)
        exact L52 7 _ _ 0 (Nat.zero_le _) (by omega)
      · refine v_aload_n (pc := 40) 0 g dX4_read_40 rfl rfl ?_
        refine v_ldc (pc := 41) g dX4_read_41 co_X4_63 ?_
        refine v_cVd (pc := 43) g dX4_read_43 lk_X4_64 (c_X4_tell 0 (-1000000001) (by decide) (by decide)) (Nat.le_of_ble_eq_true rfl) rfl rfl rfl rfl (Nat.le_of_ble_eq_true rfl) ?_
        exact v_iret (pc := 46) g hret dX4_read_46 (⟨_, _, so_i (by unfold r_30 r30k; rw [if_pos c4, ez, if_neg c22, if_neg c37]), by unfold f_29 f29k; rw [if_pos c4, ez, if_neg c22, if_neg c37]⟩)
    · refine v_aload_n (pc := 25) 0 g dX4_read_25 rfl rfl ?_
      refine v_ldc (pc := 26) g dX4_read_26 co_X4_221 ?_
      refine v_cVd (pc := 28) g dX4_read_28 lk_X4_64 (c_X4_tell 5 (-1000000006) (by decide) (by decide)) (Nat.le_of_ble_eq_true rfl) rfl rfl rfl rfl (Nat.le_of_ble_eq_true rfl) ?_
      exact v_iret (pc := 31) g hret dX4_read_31 (⟨_, _, so_i (by unfold r_30 r30k; rw [if_pos c4, ez, if_pos c22]), by unfold f_29 f29k; rw [if_pos c4, ez, if_pos c22]⟩)
  · refine v_aload_n (pc := 7) 0 g dX4_read_7 rfl rfl ?_
    refine v_ldc (pc := 8) g dX4_read_8 co_X4_63 ?_
    refine v_cVd (pc := 10) g dX4_read_10 lk_X4_64 (c_X4_tell 0 (-1000000001) (by decide) (by decide)) (Nat.le_of_ble_eq_true rfl) rfl rfl rfl rfl (Nat.le_of_ble_eq_true rfl) ?_
    exact v_iret (pc := 13) g hret dX4_read_13 (⟨_, _, so_i (by unfold r_30; rw [if_neg c4]), by unfold f_29; rw [if_neg c4]⟩)
