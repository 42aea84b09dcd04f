set_option maxRecDepth 20000 in
set_option maxHeartbeats 2000000 in
theorem c_X5_isWord (r : Nat → Int32) {fo : Nat → Int32} {of : Int32} {tr : Nat → Int32} {b1 : Nat → Int32} {ta : Nat → Int32} {tm : Nat} {so : Int32} {be : Int32} {te : Int32} {wo : Int64} {va : Int32} {gd : Int32} {bi : Nat → Int32} {si : Nat → Int32} {sh : Nat → Int64} {le : Nat → Int64} {im : Nat → Int32} {bf : Nat → Int32} {kp : Int32} (w : Int64) : RunD 0 yX5_isWord cX5_isWord 3 (some .boolean) [.ref 0, .long w] (mW r fo of tr b1 ta tm so be te wo va gd bi si sh le im bf kp) (some (.int (bI (so = 1 ∧ wo = w)))) (mW r fo of tr b1 ta tm so be te wo va gd bi si sh le im bf kp) := by
  refine Runs.of (by decide) (Nat.le_of_ble_eq_true rfl) rfl ?_
  intro X g hret hnL
  refine v_aload_n (pc := 0) 0 g dX5_isWord_0 rfl rfl ?_
  refine v_get (pc := 1) g dX5_isWord_1 fl_X5_188 rfl rfl ?_
  refine v_iconst (pc := 4) (v := 1) g dX5_isWord_4 (by decide) ?_
  refine v_icmp_ne (pc := 5) 21 g dX5_isWord_5 rfl (fun c5 => ?_) (fun c5 => ?_)
  · refine v_iconst (pc := 21) (v := 0) g dX5_isWord_21 (by decide) ?_
    exact v_zret (pc := 22) g hret dX5_isWord_22 (by first | exact nb1 | exact nb0 | exact nbI) (by first | exact ⟨so0 (fun z => c5 z.1), rfl⟩ | exact ⟨so0 (fun z => c14 (lg_eq.mpr z.2)), rfl⟩ | exact ⟨so1 ⟨c5, lg_eq.mp c14⟩, rfl⟩)
  · refine v_aload_n (pc := 8) 0 g dX5_isWord_8 rfl rfl ?_
    refine v_get (pc := 9) g dX5_isWord_9 fl_X5_191 rfl rfl ?_
    refine v_lload_n (pc := 12) 1 g dX5_isWord_12 rfl rfl ?_
    refine v_lcmp (pc := 13) g dX5_isWord_13 ?_
    refine v_if_ne (pc := 14) 21 g dX5_isWord_14 rfl (fun c14 => ?_) (fun c14 => ?_)
    · refine v_iconst (pc := 21) (v := 0) g dX5_isWord_21 (by decide) ?_
      exact v_zret (pc := 22) g hret dX5_isWord_22 (by first | exact nb1 | exact nb0 | exact nbI) (by first | exact ⟨so0 (fun z => c5 z.1), rfl⟩ | exact ⟨so0 (fun z => c14 (lg_eq.mpr z.2)), rfl⟩ | exact ⟨so1 ⟨c5, lg_eq.mp c14⟩, rfl⟩)
    · refine v_iconst (pc := 17) (v := 1) g dX5_isWord_17 (by decide) ?_
      refine v_goto (pc := 18) 22 g dX5_isWord_18 rfl ?_
      exact v_zret (pc := 22) g hret dX5_isWord_22 (by first | exact nb1 | exact nb0 | exact nbI) (by first | exact ⟨so0 (fun z => c5 z.1), rfl⟩ | exact ⟨so0 (fun z => c14 (lg_eq.mpr z.2)), rfl⟩ | exact ⟨so1 ⟨c5, lg_eq.mp c14⟩, rfl⟩)
theorem c_iw (r : Nat → Int32) {fo : Nat → Int32} {of : Int32} {tr : Nat → Int32} {b1 : Nat → Int32} {ta : Nat → Int32} {tm : Nat} {gd : Int32} {bi : Nat → Int32} {si : Nat → Int32} {sh : Nat → Int64} {le : Nat → Int64} {im : Nat → Int32} {bf : Nat → Int32} {kp : Int32} (b i : Nat) (w : Int64) (hR : tpR ta) (hb : b ≤ tm) (hi : i < 13) (hw : w = HS i) : RunD 0 yX5_isWord cX5_isWord 3 (some .boolean) [.ref 0, .long w] (mW r fo of tr b1 ta tm (nI (soT ta tm b)) (nI b) (nI (enT ta tm b)) (woT ta tm b) (vaT ta tm b) gd bi si sh le im bf kp) (some (.int (bI (isW ta tm b i = true)))) (mW r fo of tr b1 ta tm (nI (soT ta tm b)) (nI b) (nI (enT ta tm b)) (woT ta tm b) (vaT ta tm b) gd bi si sh le im bf kp) := by
  subst hw
  rw [bI_cong (isW_iff hR hb hi)]
  exact c_X5_isWord r _
def wnB (tb : Nat → Int32) (tl b : Nat) (m : Int) : Nat := if numT tb tl b m then nxT tb tl b else b
theorem wnB_t {tb : Nat → Int32} {tl b : Nat} {m : Int} (h : numT tb tl b m) : wnB tb tl b m = nxT tb tl b := if_pos h
theorem wnB_f {tb : Nat → Int32} {tl b : Nat} {m : Int} (h : ¬ numT tb tl b m) : wnB tb tl b m = b := if_neg h
theorem wnB_rg {tb : Nat → Int32} (hR : tpR tb) {tl b : Nat} {m : Int} (hb : b ≤ tl) : wnB tb tl b m ≤ tl := by
  unfold wnB
  split
  · exact (nx_rng hR hb).2.1
  · exact hb
def mwB (P : Prop) [Decidable P] (tb : Nat → Int32) (tl b i : Nat) : Nat := if P then ptB tb tl b i else b
def mwV (P : Prop) [Decidable P] (tb : Nat → Int32) (tl b i : Nat) (o : Int32) : Int32 := if P ∧ isW tb tl b i = true then vaT tb tl (nxT tb tl b) else o
theorem mwB_rg {tb : Nat → Int32} (hR : tpR tb) {P : Prop} [Decidable P] {tl b i : Nat} (hb : b ≤ tl) : mwB P tb tl b i ≤ tl := by
  unfold mwB
  split
  · exact (ptB_rg hR i (show rg tl b b from ⟨Nat.le_refl _, hb⟩)).2
  · exact hb
theorem ptB_w {tb : Nat → Int32} {tl b i : Nat} (h : isW tb tl b i = true) : ptB tb tl b i = wnB tb tl (nxT tb tl b) 99 := by
  unfold ptB wnB; rw [if_pos h]
set_option maxRecDepth 20000 in
set_option maxHeartbeats 2000000 in
theorem c_X5_wantNumber (r : Nat → Int32) {fo : Nat → Int32} {of : Int32} {tr : Nat → Int32} {b1 : Nat → Int32} {ta : Nat → Int32} {tm : Nat} {bi : Nat → Int32} {si : Nat → Int32} {sh : Nat → Int64} {le : Nat → Int64} {im : Nat → Int32} {bf : Nat → Int32} {kp : Int32} (b : Nat) (y : Int32) (m : Int) (hR : tpR ta) (hl : tm ≤ 120) (hb : b ≤ tm) (hy : y.toInt = m) (hm : m ≤ 99) : RunD 3 yX5_wantNumber cX5_wantNumber 4 (some .int) [.ref 0, .int 0, .int y] (mW r fo of tr b1 ta tm (nI (soT ta tm b)) (nI b) (nI (enT ta tm b)) (woT ta tm b) (vaT ta tm b) 1 bi si sh le im bf kp) (some (.int (vaT ta tm b))) (mW r fo of tr b1 ta tm (nI (soT ta tm (wnB ta tm b m))) (nI (wnB ta tm b m)) (nI (enT ta tm (wnB ta tm b m))) (woT ta tm (wnB ta tm b m)) (vaT ta tm (wnB ta tm b m)) (bI (numT ta tm b m)) bi si sh le im bf kp) := by
  refine Runs.of (by decide) (Nat.le_of_ble_eq_true rfl) rfl ?_
  intro X g hret hnL
  have hen := en_rng hR hb
  have J35 : V X 35 [some (.ref 0), some (.int 0), some (.int y), some (.int (vaT ta tm b))] [.int (bI (numT ta tm b m)), .ref 0] (mW r fo of tr b1 ta tm (nI (soT ta tm b)) (nI b) (nI (enT ta tm b)) (woT ta tm b) (vaT ta tm b) 1 bi si sh le im bf kp) := by
    refine v_put (pc := 35) _ g dX5_wantNumber_35 fp_X5_220 rfl (Nat.le_of_ble_eq_true rfl) nbI ftI rfl rfl ?_
    refine v_w (mW r fo of tr b1 ta tm (nI (soT ta tm b)) (nI b) (nI (enT ta tm b)) (woT ta tm b) (vaT ta tm b) (bI (numT ta tm b m)) bi si sh le im bf kp) rfl ?_
    refine v_aload_n (pc := 38) 0 g dX5_wantNumber_38 rfl rfl ?_
    refine v_get (pc := 39) g dX5_wantNumber_39 fl_X5_220 rfl rfl ?_
    refine v_ifb_eq (pc := 42) 49 g dX5_wantNumber_42 rfl (fun c42 => ?_) (fun c42 => ?_)
    · refine v_iload_n (pc := 49) 3 g dX5_wantNumber_49 rfl rfl ?_
      exact v_iret (pc := 50) g hret dX5_wantNumber_50 (by first | exact ⟨rfl, by rw [wnB_f c42]⟩ | exact ⟨rfl, by rw [wnB_t c42]⟩)
    · refine v_aload_n (pc := 45) 0 g dX5_wantNumber_45 rfl rfl ?_
      refine v_cVd (pc := 46) g dX5_wantNumber_46 lk_X5_224 (c_X5_advance (r) (enT ta tm (b)) (nxT ta tm (b)) hl hen.2.1 rfl) (Nat.le_of_ble_eq_true rfl) rfl rfl rfl rfl (Nat.le_of_ble_eq_true rfl) ?_
      refine v_iload_n (pc := 49) 3 g dX5_wantNumber_49 rfl rfl ?_
      exact v_iret (pc := 50) g hret dX5_wantNumber_50 (by first | exact ⟨rfl, by rw [wnB_f c42]⟩ | exact ⟨rfl, by rw [wnB_t c42]⟩)
  refine v_aload_n (pc := 0) 0 g dX5_wantNumber_0 rfl rfl ?_
  refine v_get (pc := 1) g dX5_wantNumber_1 fl_X5_195 rfl rfl ?_
  refine v_istore_n (pc := 4) 3 _ g dX5_wantNumber_4 rfl (Nat.le_of_ble_eq_true rfl) hnL.symm rfl ?_
  refine v_aload_n (pc := 5) 0 g dX5_wantNumber_5 rfl rfl ?_
  refine v_aload_n (pc := 6) 0 g dX5_wantNumber_6 rfl rfl ?_
  refine v_get (pc := 7) g dX5_wantNumber_7 fl_X5_220 rfl rfl ?_
  refine v_if_eq (pc := 10) 34 g dX5_wantNumber_10 rfl (fun c10 => ?_) (fun c10 => ?_)
  · exact absurd c10 (by decide)
  · refine v_aload_n (pc := 13) 0 g dX5_wantNumber_13 rfl rfl ?_
    refine v_get (pc := 14) g dX5_wantNumber_14 fl_X5_188 rfl rfl ?_
    refine v_iconst (pc := 17) (v := 2) g dX5_wantNumber_17 (by decide) ?_
    refine v_icmp_ne (pc := 18) 34 g dX5_wantNumber_18 rfl (fun c18 => ?_) (fun c18 => ?_)
    · have hN : ¬ numT ta tm b m := fun z => c18 (so_2.mpr z.1)
      refine v_iconst (pc := 34) (v := 0) g dX5_wantNumber_34 (by decide) ?_
      refine v_stE [.int (bI (numT ta tm b m)), .ref 0] (by first | (rw [bI_1 hN]; first | done | rfl) | (rw [bI_0 hN]; first | done | rfl)) ?_
      exact J35
    · refine v_iload_n (pc := 21) 3 g dX5_wantNumber_21 rfl rfl ?_
      refine v_iload_n (pc := 22) 1 g dX5_wantNumber_22 rfl rfl ?_
      refine v_iload_n (pc := 23) 2 g dX5_wantNumber_23 rfl rfl ?_
      refine v_cSd (pc := 24) g dX5_wantNumber_24 lk_X5_45 ((c_X5_in _ _ _ 0 m rfl hy).any rfl rfl _) (Nat.le_of_ble_eq_true rfl) rfl rfl (Nat.le_of_ble_eq_true rfl) ?_
      refine v_ifb_eq (pc := 27) 34 g dX5_wantNumber_27 rfl (fun c27 => ?_) (fun c27 => ?_)
      · have hN : ¬ numT ta tm b m := fun z => c27 ((num_iff hm).mp z).2
        refine v_iconst (pc := 34) (v := 0) g dX5_wantNumber_34 (by decide) ?_
        refine v_stE [.int (bI (numT ta tm b m)), .ref 0] (by first | (rw [bI_1 hN]; first | done | rfl) | (rw [bI_0 hN]; first | done | rfl)) ?_
        exact J35
      · have hN : numT ta tm b m := (num_iff hm).mpr ⟨c18, c27⟩
        refine v_iconst (pc := 30) (v := 1) g dX5_wantNumber_30 (by decide) ?_
        refine v_goto (pc := 31) 35 g dX5_wantNumber_31 rfl ?_
        refine v_stE [.int (bI (numT ta tm b m)), .ref 0] (by first | (rw [bI_1 hN]; first | done | rfl) | (rw [bI_0 hN]; first | done | rfl)) ?_
        exact J35
set_option maxRecDepth 20000 in
set_option maxHeartbeats 2000000 in
theorem c_X5_mayWant (r : Nat → Int32) {fo : Nat → Int32} {of : Int32} {tr : Nat → Int32} {b1 : Nat → Int32} {ta : Nat → Int32} {tm : Nat} {bi : Nat → Int32} {si : Nat → Int32} {sh : Nat → Int64} {le : Nat → Int64} {im : Nat → Int32} {bf : Nat → Int32} {kp : Int32} (P : Prop) [Decidable P] (b i : Nat) (w : Int64) (o : Int32) (hR : tpR ta) (hl : tm ≤ 120) (hb : b ≤ tm) (hi : i < 13) (hw : w = HS i) : RunD 4 yX5_mayWant cX5_mayWant 6 (some .int) [.ref 0, .long w, .int 0, .int 99, .int o] (mW r fo of tr b1 ta tm (nI (soT ta tm b)) (nI b) (nI (enT ta tm b)) (woT ta tm b) (vaT ta tm b) (bI P) bi si sh le im bf kp) (some (.int (mwV P ta tm b i o))) (mW r fo of tr b1 ta tm (nI (soT ta tm (mwB P ta tm b i))) (nI (mwB P ta tm b i)) (nI (enT ta tm (mwB P ta tm b i))) (woT ta tm (mwB P ta tm b i)) (vaT ta tm (mwB P ta tm b i)) (bI (P ∧ ptOk ta tm b i)) bi si sh le im bf kp) := by
  refine Runs.of (by decide) (Nat.le_of_ble_eq_true rfl) rfl ?_
  intro X g hret hnL
  have hen := en_rng hR hb
  have hnx := nx_rng hR hb
  refine v_aload_n (pc := 0) 0 g dX5_mayWant_0 rfl rfl ?_
  refine v_get (pc := 1) g dX5_mayWant_1 fl_X5_220 rfl rfl ?_
  refine v_ifb_eq (pc := 4) 15 g dX5_mayWant_4 rfl (fun c4 => ?_) (fun c4 => ?_)
  · refine v_iload (pc := 15) g dX5_mayWant_15 rfl ?_
    exact v_iret (pc := 17) g hret dX5_mayWant_17 (by first | exact ⟨so_i (by unfold mwV; rw [if_neg (fun z => c4 z.1)]), by rw [show mwB P ta tm b i = b from if_neg c4, bI_0 c4, bI_0 (fun z => c4 z.1)]⟩ | exact ⟨so_i (by unfold mwV; rw [if_neg (fun z => c12 z.2)]), by rw [show mwB P ta tm b i = b from (if_pos c4).trans (ptB_n c12), bI_1 c4, bI_1 ⟨c4, fun z => absurd z c12⟩]⟩)
  · refine v_aload_n (pc := 7) 0 g dX5_mayWant_7 rfl rfl ?_
    refine v_lload_n (pc := 8) 1 g dX5_mayWant_8 rfl rfl ?_
    refine v_cVd (pc := 9) g dX5_mayWant_9 lk_X5_206 (c_iw r b i w hR hb hi hw) (Nat.le_of_ble_eq_true rfl) rfl rfl rfl rfl (Nat.le_of_ble_eq_true rfl) ?_
    refine v_ifb_ne (pc := 12) 18 g dX5_mayWant_12 rfl (fun c12 => ?_) (fun c12 => ?_)
    · rw [bI_1 c4]
      refine v_aload_n (pc := 18) 0 g dX5_mayWant_18 rfl rfl ?_
      refine v_cVd (pc := 19) g dX5_mayWant_19 lk_X5_224 (c_X5_advance (r) (enT ta tm (b)) (nxT ta tm (b)) hl hen.2.1 rfl) (Nat.le_of_ble_eq_true rfl) rfl rfl rfl rfl (Nat.le_of_ble_eq_true rfl) ?_
      refine v_aload_n (pc := 22) 0 g dX5_mayWant_22 rfl rfl ?_
      refine v_iload_n (pc := 23) 3 g dX5_mayWant_23 rfl rfl ?_
      refine v_iload (pc := 24) g dX5_mayWant_24 rfl ?_
      refine v_cVd (pc := 26) g dX5_mayWant_26 lk_X5_227 (c_X5_wantNumber r (nxT ta tm b) 99 99 hR hl hnx.2.1 rfl (by decide)) (Nat.le_of_ble_eq_true rfl) rfl rfl rfl rfl (Nat.le_of_ble_eq_true rfl) ?_
      exact v_iret (pc := 29) g hret dX5_mayWant_29 (⟨so_i (by unfold mwV; rw [if_pos ⟨c4, c12⟩]), by rw [show mwB P ta tm b i = wnB ta tm (nxT ta tm b) 99 from (if_pos c4).trans (ptB_w c12), bI_cong (show numT ta tm (nxT ta tm b) 99 ↔ (P ∧ ptOk ta tm b i) from ⟨fun h => ⟨c4, fun _ => h⟩, fun h => h.2 c12⟩)]⟩)
    · refine v_iload (pc := 15) g dX5_mayWant_15 rfl ?_
      exact v_iret (pc := 17) g hret dX5_mayWant_17 (by first | exact ⟨so_i (by unfold mwV; rw [if_neg (fun z => c4 z.1)]), by rw [show mwB P ta tm b i = b from if_neg c4, bI_0 c4, bI_0 (fun z => c4 z.1)]⟩ | exact ⟨so_i (by unfold mwV; rw [if_neg (fun z => c12 z.2)]), by rw [show mwB P ta tm b i = b from (if_pos c4).trans (ptB_n c12), bI_1 c4, bI_1 ⟨c4, fun z => absurd z c12⟩]⟩)
def oK (o : Option Nat) : Int32 := match o with
  | some k => nI k
  | none => -1
theorem kd_some {tb : Nat → Int32} {tl b : Nat} (h : ¬ oK (kdT tb tl b) < 0) : ∃ k, k < 6 ∧ kdT tb tl b = some k := by
  have key : ∀ (P : Nat → Bool) (f n : Nat), f + n ≤ 6 → ¬ oK (fst P f n) < 0 → ∃ k, k < 6 ∧ fst P f n = some k := by
    intro P f
    induction f with
    | zero => intro n _ h; exact absurd (show oK none < 0 by decide) h
    | succ f ih =>
      intro n hn h
      rw [fst] at h ⊢
      split at h
      · next q => rw [if_pos q]; exact ⟨n, by omega, rfl⟩
      · next q => rw [if_neg q]; exact ih (n + 1) (by omega) h
  exact key _ 6 0 (by omega) h
theorem kd_none {tb : Nat → Int32} {tl b : Nat} (h : oK (kdT tb tl b) < 0) : kdT tb tl b = none := by
  cases hk : kdT tb tl b with
  | none => rfl
  | some k =>
    have key : ∀ (P : Nat → Bool) (f n : Nat) (k : Nat), fst P f n = some k → k < n + f := by
      intro P f
      induction f with
      | zero => intro n k h; cases h
      | succ f ih =>
        intro n k h
        rw [fst] at h
        split at h
        · have := Option.some.inj h; omega
        · have := ih (n + 1) k h; omega
    have := key _ 6 0 k hk
    rw [hk] at h
    exact absurd h (nI_pos (by omega))
theorem isW_ne {tb : Nat → Int32} {tl b i j : Nat} (hi : i < 13) (hj : j < 13) (hij : ¬ HS i = HS j) (h : isW tb tl b i = true) : ¬ isW tb tl b j = true := fun q => hij ((isW_to hi h).2.symm.trans (isW_to hj q).2)
set_option maxRecDepth 20000 in
set_option maxHeartbeats 2000000 in
theorem c_X5_kindHere (r : Nat → Int32) {fo : Nat → Int32} {of : Int32} {tr : Nat → Int32} {b1 : Nat → Int32} {ta : Nat → Int32} {tm : Nat} {gd : Int32} {bi : Nat → Int32} {si : Nat → Int32} {sh : Nat → Int64} {le : Nat → Int64} {im : Nat → Int32} {bf : Nat → Int32} {kp : Int32} (b : Nat) (hR : tpR ta) (hb : b ≤ tm) : RunD 1 yX5_kindHere cX5_kindHere 1 (some .int) [.ref 0] (mW r fo of tr b1 ta tm (nI (soT ta tm b)) (nI b) (nI (enT ta tm b)) (woT ta tm b) (vaT ta tm b) gd bi si sh le im bf kp) (some (.int (oK (kdT ta tm b)))) (mW r fo of tr b1 ta tm (nI (soT ta tm b)) (nI b) (nI (enT ta tm b)) (woT ta tm b) (vaT ta tm b) gd bi si sh le im bf kp) := by
  refine Runs.of (by decide) (Nat.le_of_ble_eq_true rfl) rfl ?_
  intro X g hret hnL
  refine v_aload_n (pc := 0) 0 g dX5_kindHere_0 rfl rfl ?_
  refine v_ldc2 (pc := 1) g dX5_kindHere_1 co_X5_204 ?_
  refine v_cVd (pc := 4) g dX5_kindHere_4 lk_X5_206 (c_iw _ (b) 5 _ hR hb (by decide) rfl) (Nat.le_of_ble_eq_true rfl) rfl rfl rfl rfl (Nat.le_of_ble_eq_true rfl) ?_
  refine v_ifb_eq (pc := 7) 14 g dX5_kindHere_7 rfl (fun c7 => ?_) (fun c7 => ?_)
  · refine v_aload_n (pc := 14) 0 g dX5_kindHere_14 rfl rfl ?_
    refine v_ldc2 (pc := 15) g dX5_kindHere_15 co_X5_210 ?_
    refine v_cVd (pc := 18) g dX5_kindHere_18 lk_X5_206 (c_iw _ (b) 0 _ hR hb (by decide) rfl) (Nat.le_of_ble_eq_true rfl) rfl rfl rfl rfl (Nat.le_of_ble_eq_true rfl) ?_
    refine v_ifb_eq (pc := 21) 28 g dX5_kindHere_21 rfl (fun c21 => ?_) (fun c21 => ?_)
    · refine v_aload_n (pc := 28) 0 g dX5_kindHere_28 rfl rfl ?_
      refine v_ldc2 (pc := 29) g dX5_kindHere_29 co_X5_212 ?_
      refine v_cVd (pc := 32) g dX5_kindHere_32 lk_X5_206 (c_iw _ (b) 1 _ hR hb (by decide) rfl) (Nat.le_of_ble_eq_true rfl) rfl rfl rfl rfl (Nat.le_of_ble_eq_true rfl) ?_
      refine v_ifb_eq (pc := 35) 42 g dX5_kindHere_35 rfl (fun c35 => ?_) (fun c35 => ?_)
      · refine v_aload_n (pc := 42) 0 g dX5_kindHere_42 rfl rfl ?_
        refine v_ldc2 (pc := 43) g dX5_kindHere_43 co_X5_214 ?_
        refine v_cVd (pc := 46) g dX5_kindHere_46 lk_X5_206 (c_iw _ (b) 2 _ hR hb (by decide) rfl) (Nat.le_of_ble_eq_true rfl) rfl rfl rfl rfl (Nat.le_of_ble_eq_true rfl) ?_
        refine v_ifb_eq (pc := 49) 56 g dX5_kindHere_49 rfl (fun c49 => ?_) (fun c49 => ?_)
        · refine v_aload_n (pc := 56) 0 g dX5_kindHere_56 rfl rfl ?_
          refine v_ldc2 (pc := 57) g dX5_kindHere_57 co_X5_216 ?_
          refine v_cVd (pc := 60) g dX5_kindHere_60 lk_X5_206 (c_iw _ (b) 3 _ hR hb (by decide) rfl) (Nat.le_of_ble_eq_true rfl) rfl rfl rfl rfl (Nat.le_of_ble_eq_true rfl) ?_
          refine v_ifb_eq (pc := 63) 70 g dX5_kindHere_63 rfl (fun c63 => ?_) (fun c63 => ?_)
          · refine v_aload_n (pc := 70) 0 g dX5_kindHere_70 rfl rfl ?_
            refine v_ldc2 (pc := 71) g dX5_kindHere_71 co_X5_218 ?_
            refine v_cVd (pc := 74) g dX5_kindHere_74 lk_X5_206 (c_iw _ (b) 4 _ hR hb (by decide) rfl) (Nat.le_of_ble_eq_true rfl) rfl rfl rfl rfl (Nat.le_of_ble_eq_true rfl) ?_
            refine v_ifb_eq (pc := 77) 84 g dX5_kindHere_77 rfl (fun c77 => ?_) (fun c77 => ?_)
            · refine v_iconst (pc := 84) (v := (-1)) g dX5_kindHere_84 (by decide) ?_
              exact v_iret (pc := 85) g hret dX5_kindHere_85 (by refine ⟨so_i ?_, rfl⟩; first | (unfold kdT; rw [fst, if_pos (show kdP ta tm b 0 = true from c7)]; rfl) | (unfold kdT; rw [fst, if_neg (show ¬ kdP ta tm b 0 = true from c7), fst, if_pos (show kdP ta tm b 1 = true from c21)]; rfl) | (unfold kdT; rw [fst, if_neg (show ¬ kdP ta tm b 0 = true from c7), fst, if_neg (show ¬ kdP ta tm b 1 = true from c21), fst, if_pos (show kdP ta tm b 2 = true from c35)]; rfl) | (unfold kdT; rw [fst, if_neg (show ¬ kdP ta tm b 0 = true from c7), fst, if_neg (show ¬ kdP ta tm b 1 = true from c21), fst, if_neg (show ¬ kdP ta tm b 2 = true from c35), fst, if_pos (show kdP ta tm b 3 = true from c49)]; rfl) | (unfold kdT; rw [fst, if_neg (show ¬ kdP ta tm b 0 = true from c7), fst, if_neg (show ¬ kdP ta tm b 1 = true from c21), fst, if_neg (show ¬ kdP ta tm b 2 = true from c35), fst, if_neg (show ¬ kdP ta tm b 3 = true from c49), fst, if_pos (show kdP ta tm b 4 = true from c63)]; rfl) | (unfold kdT; rw [fst, if_neg (show ¬ kdP ta tm b 0 = true from c7), fst, if_neg (show ¬ kdP ta tm b 1 = true from c21), fst, if_neg (show ¬ kdP ta tm b 2 = true from c35), fst, if_neg (show ¬ kdP ta tm b 3 = true from c49), fst, if_neg (show ¬ kdP ta tm b 4 = true from c63), fst, if_pos (show kdP ta tm b 5 = true from c77)]; rfl) | (unfold kdT; rw [fst, if_neg (show ¬ kdP ta tm b 0 = true from c7), fst, if_neg (show ¬ kdP ta tm b 1 = true from c21), fst, if_neg (show ¬ kdP ta tm b 2 = true from c35), fst, if_neg (show ¬ kdP ta tm b 3 = true from c49), fst, if_neg (show ¬ kdP ta tm b 4 = true from c63), fst, if_neg (show ¬ kdP ta tm b 5 = true from c77), fst]; rfl))
            · refine v_iconst (pc := 80) (v := 5) g dX5_kindHere_80 (by decide) ?_
              refine v_goto (pc := 81) 85 g dX5_kindHere_81 rfl ?_
              exact v_iret (pc := 85) g hret dX5_kindHere_85 (by refine ⟨so_i ?_, rfl⟩; first | (unfold kdT; rw [fst, if_pos (show kdP ta tm b 0 = true from c7)]; rfl) | (unfold kdT; rw [fst, if_neg (show ¬ kdP ta tm b 0 = true from c7), fst, if_pos (show kdP ta tm b 1 = true from c21)]; rfl) | (unfold kdT; rw [fst, if_neg (show ¬ kdP ta tm b 0 = true from c7), fst, if_neg (show ¬ kdP ta tm b 1 = true from c21), fst, if_pos (show kdP ta tm b 2 = true from c35)]; rfl) | (unfold kdT; rw [fst, if_neg (show ¬ kdP ta tm b 0 = true from c7), fst, if_neg (show ¬ kdP ta tm b 1 = true from c21), fst, if_neg (show ¬ kdP ta tm b 2 = true from c35), fst, if_pos (show kdP ta tm b 3 = true from c49)]; rfl) | (unfold kdT; rw [fst, if_neg (show ¬ kdP ta tm b 0 = true from c7), fst, if_neg (show ¬ kdP ta tm b 1 = true from c21), fst, if_neg (show ¬ kdP ta tm b 2 = true from c35), fst, if_neg (show ¬ kdP ta tm b 3 = true from c49), fst, if_pos (show kdP ta tm b 4 = true from c63)]; rfl) | (unfold kdT; rw [fst, if_neg (show ¬ kdP ta tm b 0 = true from c7), fst, if_neg (show ¬ kdP ta tm b 1 = true from c21), fst, if_neg (show ¬ kdP ta tm b 2 = true from c35), fst, if_neg (show ¬ kdP ta tm b 3 = true from c49), fst, if_neg (show ¬ kdP ta tm b 4 = true from c63), fst, if_pos (show kdP ta tm b 5 = true from c77)]; rfl) | (unfold kdT; rw [fst, if_neg (show ¬ kdP ta tm b 0 = true from c7), fst, if_neg (show ¬ kdP ta tm b 1 = true from c21), fst, if_neg (show ¬ kdP ta tm b 2 = true from c35), fst, if_neg (show ¬ kdP ta tm b 3 = true from c49), fst, if_neg (show ¬ kdP ta tm b 4 = true from c63), fst, if_neg (show ¬ kdP ta tm b 5 = true from c77), fst]; rfl))
          · refine v_iconst (pc := 66) (v := 4) g dX5_kindHere_66 (by decide) ?_
            refine v_goto (pc := 67) 85 g dX5_kindHere_67 rfl ?_
            exact v_iret (pc := 85) g hret dX5_kindHere_85 (by refine ⟨so_i ?_, rfl⟩; first | (unfold kdT; rw [fst, if_pos (show kdP ta tm b 0 = true from c7)]; rfl) | (unfold kdT; rw [fst, if_neg (show ¬ kdP ta tm b 0 = true from c7), fst, if_pos (show kdP ta tm b 1 = true from c21)]; rfl) | (unfold kdT; rw [fst, if_neg (show ¬ kdP ta tm b 0 = true from c7), fst, if_neg (show ¬ kdP ta tm b 1 = true from c21), fst, if_pos (show kdP ta tm b 2 = true from c35)]; rfl) | (unfold kdT; rw [fst, if_neg (show ¬ kdP ta tm b 0 = true from c7), fst, if_neg (show ¬ kdP ta tm b 1 = true from c21), fst, if_neg (show ¬ kdP ta tm b 2 = true from c35), fst, if_pos (show kdP ta tm b 3 = true from c49)]; rfl) | (unfold kdT; rw [fst, if_neg (show ¬ kdP ta tm b 0 = true from c7), fst, if_neg (show ¬ kdP ta tm b 1 = true from c21), fst, if_neg (show ¬ kdP ta tm b 2 = true from c35), fst, if_neg (show ¬ kdP ta tm b 3 = true from c49), fst, if_pos (show kdP ta tm b 4 = true from c63)]; rfl) | (unfold kdT; rw [fst, if_neg (show ¬ kdP ta tm b 0 = true from c7), fst, if_neg (show ¬ kdP ta tm b 1 = true from c21), fst, if_neg (show ¬ kdP ta tm b 2 = true from c35), fst, if_neg (show ¬ kdP ta tm b 3 = true from c49), fst, if_neg (show ¬ kdP ta tm b 4 = true from c63), fst, if_pos (show kdP ta tm b 5 = true from c77)]; rfl) | (unfold kdT; rw [fst, if_neg (show ¬ kdP ta tm b 0 = true from c7), fst, if_neg (show ¬ kdP ta tm b 1 = true from c21), fst, if_neg (show ¬ kdP ta tm b 2 = true from c35), fst, if_neg (show ¬ kdP ta tm b 3 = true from c49), fst, if_neg (show ¬ kdP ta tm b 4 = true from c63), fst, if_neg (show ¬ kdP ta tm b 5 = true from c77), fst]; rfl))
        · refine v_iconst (pc := 52) (v := 3) g dX5_kindHere_52 (by decide) ?_
          refine v_goto (pc := 53) 85 g dX5_kindHere_53 rfl ?_
          exact v_iret (pc := 85) g hret dX5_kindHere_85 (by refine ⟨so_i ?_, rfl⟩; first | (unfold kdT; rw [fst, if_pos (show kdP ta tm b 0 = true from c7)]; rfl) | (unfold kdT; rw [fst, if_neg (show ¬ kdP ta tm b 0 = true from c7), fst, if_pos (show kdP ta tm b 1 = true from c21)]; rfl) | (unfold kdT; rw [fst, if_neg (show ¬ kdP ta tm b 0 = true from c7), fst, if_neg (show ¬ kdP ta tm b 1 = true from c21), fst, if_pos (show kdP ta tm b 2 = true from c35)]; rfl) | (unfold kdT; rw [fst, if_neg (show ¬ kdP ta tm b 0 = true from c7), fst, if_neg (show ¬ kdP ta tm b 1 = true from c21), fst, if_neg (show ¬ kdP ta tm b 2 = true from c35), fst, if_pos (show kdP ta tm b 3 = true from c49)]; rfl) | (unfold kdT; rw [fst, if_neg (show ¬ kdP ta tm b 0 = true from c7), fst, if_neg (show ¬ kdP ta tm b 1 = true from c21), fst, if_neg (show ¬ kdP ta tm b 2 = true from c35), fst, if_neg (show ¬ kdP ta tm b 3 = true from c49), fst, if_pos (show kdP ta tm b 4 = true from c63)]; rfl) | (unfold kdT; rw [fst, if_neg (show ¬ kdP ta tm b 0 = true from c7), fst, if_neg (show ¬ kdP ta tm b 1 = true from c21), fst, if_neg (show ¬ kdP ta tm b 2 = true from c35), fst, if_neg (show ¬ kdP ta tm b 3 = true from c49), fst, if_neg (show ¬ kdP ta tm b 4 = true from c63), fst, if_pos (show kdP ta tm b 5 = true from c77)]; rfl) | (unfold kdT; rw [fst, if_neg (show ¬ kdP ta tm b 0 = true from c7), fst, if_neg (show ¬ kdP ta tm b 1 = true from c21), fst, if_neg (show ¬ kdP ta tm b 2 = true from c35), fst, if_neg (show ¬ kdP ta tm b 3 = true from c49), fst, if_neg (show ¬ kdP ta tm b 4 = true from c63), fst, if_neg (show ¬ kdP ta tm b 5 = true from c77), fst]; rfl))
      · refine v_iconst (pc := 38) (v := 2) g dX5_kindHere_38 (by decide) ?_
        refine v_goto (pc := 39) 85 g dX5_kindHere_39 rfl ?_
        exact v_iret (pc := 85) g hret dX5_kindHere_85 (by refine ⟨so_i ?_, rfl⟩; first | (unfold kdT; rw [fst, if_pos (show kdP ta tm b 0 = true from c7)]; rfl) | (unfold kdT; rw [fst, if_neg (show ¬ kdP ta tm b 0 = true from c7), fst, if_pos (show kdP ta tm b 1 = true from c21)]; rfl) | (unfold kdT; rw [fst, if_neg (show ¬ kdP ta tm b 0 = true from c7), fst, if_neg (show ¬ kdP ta tm b 1 = true from c21), fst, if_pos (show kdP ta tm b 2 = true from c35)]; rfl) | (unfold kdT; rw [fst, if_neg (show ¬ kdP ta tm b 0 = true from c7), fst, if_neg (show ¬ kdP ta tm b 1 = true from c21), fst, if_neg (show ¬ kdP ta tm b 2 = true from c35), fst, if_pos (show kdP ta tm b 3 = true from c49)]; rfl) | (unfold kdT; rw [fst, if_neg (show ¬ kdP ta tm b 0 = true from c7), fst, if_neg (show ¬ kdP ta tm b 1 = true from c21), fst, if_neg (show ¬ kdP ta tm b 2 = true from c35), fst, if_neg (show ¬ kdP ta tm b 3 = true from c49), fst, if_pos (show kdP ta tm b 4 = true from c63)]; rfl) | (unfold kdT; rw [fst, if_neg (show ¬ kdP ta tm b 0 = true from c7), fst, if_neg (show ¬ kdP ta tm b 1 = true from c21), fst, if_neg (show ¬ kdP ta tm b 2 = true from c35), fst, if_neg (show ¬ kdP ta tm b 3 = true from c49), fst, if_neg (show ¬ kdP ta tm b 4 = true from c63), fst, if_pos (show kdP ta tm b 5 = true from c77)]; rfl) | (unfold kdT; rw [fst, if_neg (show ¬ kdP ta tm b 0 = true from c7), fst, if_neg (show ¬ kdP ta tm b 1 = true from c21), fst, if_neg (show ¬ kdP ta tm b 2 = true from c35), fst, if_neg (show ¬ kdP ta tm b 3 = true from c49), fst, if_neg (show ¬ kdP ta tm b 4 = true from c63), fst, if_neg (show ¬ kdP ta tm b 5 = true from c77), fst]; rfl))
    · refine v_iconst (pc := 24) (v := 1) g dX5_kindHere_24 (by decide) ?_
      refine v_goto (pc := 25) 85 g dX5_kindHere_25 rfl ?_
      exact v_iret (pc := 85) g hret dX5_kindHere_85 (by refine ⟨so_i ?_, rfl⟩; first | (unfold kdT; rw [fst, if_pos (show kdP ta tm b 0 = true from c7)]; rfl) | (unfold kdT; rw [fst, if_neg (show ¬ kdP ta tm b 0 = true from c7), fst, if_pos (show kdP ta tm b 1 = true from c21)]; rfl) | (unfold kdT; rw [fst, if_neg (show ¬ kdP ta tm b 0 = true from c7), fst, if_neg (show ¬ kdP ta tm b 1 = true from c21), fst, if_pos (show kdP ta tm b 2 = true from c35)]; rfl) | (unfold kdT; rw [fst, if_neg (show ¬ kdP ta tm b 0 = true from c7), fst, if_neg (show ¬ kdP ta tm b 1 = true from c21), fst, if_neg (show ¬ kdP ta tm b 2 = true from c35), fst, if_pos (show kdP ta tm b 3 = true from c49)]; rfl) | (unfold kdT; rw [fst, if_neg (show ¬ kdP ta tm b 0 = true from c7), fst, if_neg (show ¬ kdP ta tm b 1 = true from c21), fst, if_neg (show ¬ kdP ta tm b 2 = true from c35), fst, if_neg (show ¬ kdP ta tm b 3 = true from c49), fst, if_pos (show kdP ta tm b 4 = true from c63)]; rfl) | (unfold kdT; rw [fst, if_neg (show ¬ kdP ta tm b 0 = true from c7), fst, if_neg (show ¬ kdP ta tm b 1 = true from c21), fst, if_neg (show ¬ kdP ta tm b 2 = true from c35), fst, if_neg (show ¬ kdP ta tm b 3 = true from c49), fst, if_neg (show ¬ kdP ta tm b 4 = true from c63), fst, if_pos (show kdP ta tm b 5 = true from c77)]; rfl) | (unfold kdT; rw [fst, if_neg (show ¬ kdP ta tm b 0 = true from c7), fst, if_neg (show ¬ kdP ta tm b 1 = true from c21), fst, if_neg (show ¬ kdP ta tm b 2 = true from c35), fst, if_neg (show ¬ kdP ta tm b 3 = true from c49), fst, if_neg (show ¬ kdP ta tm b 4 = true from c63), fst, if_neg (show ¬ kdP ta tm b 5 = true from c77), fst]; rfl))
  · refine v_iconst (pc := 10) (v := 0) g dX5_kindHere_10 (by decide) ?_
    refine v_goto (pc := 11) 85 g dX5_kindHere_11 rfl ?_
    exact v_iret (pc := 85) g hret dX5_kindHere_85 (by refine ⟨so_i ?_, rfl⟩; first | (unfold kdT; rw [fst, if_pos (show kdP ta tm b 0 = true from c7)]; rfl) | (unfold kdT; rw [fst, if_neg (show ¬ kdP ta tm b 0 = true from c7), fst, if_pos (show kdP ta tm b 1 = true from c21)]; rfl) | (unfold kdT; rw [fst, if_neg (show ¬ kdP ta tm b 0 = true from c7), fst, if_neg (show ¬ kdP ta tm b 1 = true from c21), fst, if_pos (show kdP ta tm b 2 = true from c35)]; rfl) | (unfold kdT; rw [fst, if_neg (show ¬ kdP ta tm b 0 = true from c7), fst, if_neg (show ¬ kdP ta tm b 1 = true from c21), fst, if_neg (show ¬ kdP ta tm b 2 = true from c35), fst, if_pos (show kdP ta tm b 3 = true from c49)]; rfl) | (unfold kdT; rw [fst, if_neg (show ¬ kdP ta tm b 0 = true from c7), fst, if_neg (show ¬ kdP ta tm b 1 = true from c21), fst, if_neg (show ¬ kdP ta tm b 2 = true from c35), fst, if_neg (show ¬ kdP ta tm b 3 = true from c49), fst, if_pos (show kdP ta tm b 4 = true from c63)]; rfl) | (unfold kdT; rw [fst, if_neg (show ¬ kdP ta tm b 0 = true from c7), fst, if_neg (show ¬ kdP ta tm b 1 = true from c21), fst, if_neg (show ¬ kdP ta tm b 2 = true from c35), fst, if_neg (show ¬ kdP ta tm b 3 = true from c49), fst, if_neg (show ¬ kdP ta tm b 4 = true from c63), fst, if_pos (show kdP ta tm b 5 = true from c77)]; rfl) | (unfold kdT; rw [fst, if_neg (show ¬ kdP ta tm b 0 = true from c7), fst, if_neg (show ¬ kdP ta tm b 1 = true from c21), fst, if_neg (show ¬ kdP ta tm b 2 = true from c35), fst, if_neg (show ¬ kdP ta tm b 3 = true from c49), fst, if_neg (show ¬ kdP ta tm b 4 = true from c63), fst, if_neg (show ¬ kdP ta tm b 5 = true from c77), fst]; rfl))
def p1T (ta : Nat → Int32) (tm b : Nat) : Nat := wnB ta tm (nxT ta tm b) 11
abbrev isS1 (ta : Nat → Int32) (tm b : Nat) : Prop := numT ta tm (nxT ta tm b) 11 ∧ isW ta tm (p1T ta tm b) 6 = true
def p2T (ta : Nat → Int32) (tm b : Nat) : Nat := if isS1 ta tm b then nxT ta tm (p1T ta tm b) else p1T ta tm b
abbrev P3 (ta : Nat → Int32) (tm b : Nat) : Prop := numT ta tm (nxT ta tm b) 11 ∧ ptOk ta tm (p2T ta tm b) 7
def p3T (ta : Nat → Int32) (tm b : Nat) : Nat := mwB (numT ta tm (nxT ta tm b) 11) ta tm (p2T ta tm b) 7
abbrev P4 (ta : Nat → Int32) (tm b : Nat) : Prop := P3 ta tm b ∧ ptOk ta tm (p3T ta tm b) 8
def p4T (ta : Nat → Int32) (tm b : Nat) : Nat := mwB (P3 ta tm b) ta tm (p3T ta tm b) 8
theorem wo_z {ta : Nat → Int32} {tm b : Nat} {S : St} {k : Int32} (h8 : sN S < 8) (h1 : ¬ numT ta tm (nxT ta tm b) 11) : sz1 ta tm S k b = (none, p4T ta tm b) := by
  have e1 : p1T ta tm b = nxT ta tm b := wnB_f h1
  have e2 : p2T ta tm b = nxT ta tm b := (if_neg (fun z => h1 z.1)).trans e1
  have e3 : p3T ta tm b = nxT ta tm b := (if_neg h1).trans e2
  have e4 : p4T ta tm b = nxT ta tm b := (if_neg (fun z => h1 z.1)).trans e3
  unfold sz1
  rw [if_pos h8, if_neg h1, e4]
theorem wo_s {ta : Nat → Int32} {tm b : Nat} {S : St} {k : Int32} (h8 : sN S < 8) (h1 : numT ta tm (nxT ta tm b) 11) : sz1 ta tm S k b = sz3 ta tm S k (nvT ta tm (nxT ta tm b)) (if isS1 ta tm b then 0 else 1) (p2T ta tm b) := by
  have e1 : p1T ta tm b = nxT ta tm (nxT ta tm b) := wnB_t h1
  unfold sz1 sz2 p2T isS1
  rw [if_pos h8, if_pos h1, e1]
  by_cases hw : isW ta tm (nxT ta tm (nxT ta tm b)) 6 = true
  · rw [if_pos hw, if_pos ⟨h1, hw⟩, if_pos ⟨h1, hw⟩]
  · rw [if_neg hw, if_neg (fun z => hw z.2), if_neg (fun z => hw z.2)]
theorem mwV_pt {P : Prop} [Decidable P] {ta : Nat → Int32} {tm b i : Nat} {o : Int32} (hP : P) (h : ptOk ta tm b i) : mwV P ta tm b i o = ptV ta tm b i o := by
  unfold mwV ptV
  by_cases hw : isW ta tm b i = true
  · rw [if_pos ⟨hP, hw⟩, if_pos hw, num_va (by decide) (h hw)]
  · rw [if_neg (fun z => hw z.2), if_neg hw]
theorem wo_no {ta : Nat → Int32} {tm b : Nat} {S : St} {k : Int32} (h8 : sN S < 8) (h : ¬ P4 ta tm b) : sz1 ta tm S k b = (none, p4T ta tm b) := by
  by_cases h1 : numT ta tm (nxT ta tm b) 11
  · rw [wo_s h8 h1]
    unfold sz3
    by_cases h2 : ptOk ta tm (p2T ta tm b) 7
    · have e3 : p3T ta tm b = ptB ta tm (p2T ta tm b) 7 := if_pos h1
      have e4 : p4T ta tm b = ptB ta tm (p3T ta tm b) 8 := if_pos ⟨h1, h2⟩
      rw [if_pos h2, ← e3]
      unfold sz4
      rw [if_neg (fun z => h ⟨⟨h1, h2⟩, z⟩), e4]
    · have e3 : p3T ta tm b = ptB ta tm (p2T ta tm b) 7 := if_pos h1
      have e4 : p4T ta tm b = p3T ta tm b := if_neg (fun z => h2 z.2)
      rw [if_neg h2, e4, e3]
  · exact wo_z h8 h1
theorem wo_ok {ta : Nat → Int32} {tm b : Nat} {S : St} {k : Int32} (h8 : sN S < 8) (h : P4 ta tm b) : sz1 ta tm S k b = (some (addS S k (vaT ta tm (nxT ta tm b)) (if isS1 ta tm b then 0 else 1) (mwV (numT ta tm (nxT ta tm b) 11) ta tm (p2T ta tm b) 7 20) (mwV (P3 ta tm b) ta tm (p3T ta tm b) 8 0)), p4T ta tm b) := by
  have h1 := h.1.1
  have h2 := h.1.2
  have h3 := h.2
  have e3 : p3T ta tm b = ptB ta tm (p2T ta tm b) 7 := if_pos h1
  have e4 : p4T ta tm b = ptB ta tm (p3T ta tm b) 8 := if_pos h.1
  rw [wo_s h8 h1]
  unfold sz3
  rw [if_pos h2, ← e3]
  unfold sz4
  rw [if_pos h3, e4, mwV_pt h1 h2, mwV_pt h.1 h3, num_va (by decide) h1]
set_option maxRecDepth 20000 in
set_option maxHeartbeats 2000000 in
theorem c_X5_wantOne (S : St) {fo : Nat → Int32} {of : Int32} {tr : Nat → Int32} {b1 : Nat → Int32} {ta : Nat → Int32} {tm : Nat} {gd : Int32} {bi : Nat → Int32} {si : Nat → Int32} {sh : Nat → Int64} {le : Nat → Int64} {im : Nat → Int32} {bf : Nat → Int32} {kp : Int32} (b : Nat) (k : Int32) (hR : tpR ta) (hl : tm ≤ 120) (hb : b ≤ tm) (h8 : sN S ≤ 8) : RunD 5 yX5_wantOne cX5_wantOne 6 none [.ref 0, .int k] (mW (rowOf S) fo of tr b1 ta tm (nI (soT ta tm b)) (nI b) (nI (enT ta tm b)) (woT ta tm b) (vaT ta tm b) gd bi si sh le im bf kp) (none) (mW (rowOf ((sz1 ta tm S k b).1.getD S)) fo of tr b1 ta tm (nI (soT ta tm ((sz1 ta tm S k b).2))) (nI ((sz1 ta tm S k b).2)) (nI (enT ta tm ((sz1 ta tm S k b).2))) (woT ta tm ((sz1 ta tm S k b).2)) (vaT ta tm ((sz1 ta tm S k b).2)) (bI ((sz1 ta tm S k b).1.isSome = true)) bi si sh le im bf kp) := by
  refine Runs.of (by decide) (Nat.le_of_ble_eq_true rfl) rfl ?_
  intro X g hret hnL
  have hn0 := en_rng hR hb
  have hn1 := nx_rng hR hb
  have he1 := en_rng hR hn1.2.1
  have hn2 := nx_rng hR hn1.2.1
  have he2 := en_rng hR hn2.2.1
  have hq1 : p1T ta tm b ≤ tm := wnB_rg hR hn1.2.1
  have hq2 : p2T ta tm b ≤ tm := by unfold p2T; split; exact (nx_rng hR hq1).2.1; exact hq1
  have hq3 : p3T ta tm b ≤ tm := mwB_rg hR hq2
  have J71 : sN S < 8 → V X 71 [some (.ref 0), some (.int k), some (.int (vaT ta tm (nxT ta tm b))), some (.int (bI (isS1 ta tm b))), none, none] [] (mW (rowOf S) fo of tr b1 ta tm (nI (soT ta tm (p2T ta tm b))) (nI (p2T ta tm b)) (nI (enT ta tm (p2T ta tm b))) (woT ta tm (p2T ta tm b)) (vaT ta tm (p2T ta tm b)) (bI (numT ta tm (nxT ta tm b) 11)) bi si sh le im bf kp) := by
    intro e9
    refine v_aload_n (pc := 71) 0 g dX5_wantOne_71 rfl rfl ?_
    refine v_ldc2 (pc := 72) g dX5_wantOne_72 co_X5_232 ?_
    refine v_iconst (pc := 75) (v := 0) g dX5_wantOne_75 (by decide) ?_
    refine v_bipush (pc := 76) (v := 99) g dX5_wantOne_76 (by decide) ?_
    refine v_bipush (pc := 78) (v := 20) g dX5_wantOne_78 (by decide) ?_
    refine v_cVd (pc := 80) g dX5_wantOne_80 lk_X5_234 (c_X5_mayWant (rowOf S) (numT ta tm (nxT ta tm b) 11) (p2T ta tm b) 7 _ 20 hR hl hq2 (by decide) rfl) (Nat.le_of_ble_eq_true rfl) rfl rfl rfl rfl (Nat.le_of_ble_eq_true rfl) ?_
    refine v_w (mW (rowOf S) fo of tr b1 ta tm (nI (soT ta tm (p3T ta tm b))) (nI (p3T ta tm b)) (nI (enT ta tm (p3T ta tm b))) (woT ta tm (p3T ta tm b)) (vaT ta tm (p3T ta tm b)) (bI (P3 ta tm b)) bi si sh le im bf kp) rfl ?_
    refine v_istore (pc := 83) _ g dX5_wantOne_83 (Nat.le_of_ble_eq_true rfl) hnL.symm rfl ?_
    refine v_aload_n (pc := 85) 0 g dX5_wantOne_85 rfl rfl ?_
    refine v_ldc2 (pc := 86) g dX5_wantOne_86 co_X5_238 ?_
    refine v_iconst (pc := 89) (v := 0) g dX5_wantOne_89 (by decide) ?_
    refine v_bipush (pc := 90) (v := 99) g dX5_wantOne_90 (by decide) ?_
    refine v_iconst (pc := 92) (v := 0) g dX5_wantOne_92 (by decide) ?_
    refine v_cVd (pc := 93) g dX5_wantOne_93 lk_X5_234 (c_X5_mayWant (rowOf S) (P3 ta tm b) (p3T ta tm b) 8 _ 0 hR hl hq3 (by decide) rfl) (Nat.le_of_ble_eq_true rfl) rfl rfl rfl rfl (Nat.le_of_ble_eq_true rfl) ?_
    refine v_w (mW (rowOf S) fo of tr b1 ta tm (nI (soT ta tm (p4T ta tm b))) (nI (p4T ta tm b)) (nI (enT ta tm (p4T ta tm b))) (woT ta tm (p4T ta tm b)) (vaT ta tm (p4T ta tm b)) (bI (P4 ta tm b)) bi si sh le im bf kp) rfl ?_
    refine v_istore (pc := 96) _ g dX5_wantOne_96 (Nat.le_of_ble_eq_true rfl) hnL.symm rfl ?_
    refine v_aload_n (pc := 98) 0 g dX5_wantOne_98 rfl rfl ?_
    refine v_get (pc := 99) g dX5_wantOne_99 fl_X5_220 rfl rfl ?_
    refine v_ifb_eq (pc := 102) 124 g dX5_wantOne_102 rfl (fun c102 => ?_) (fun c102 => ?_)
    · have hE := wo_no (k := k) e9 c102
      exact v_vret (pc := 124) g hret dX5_wantOne_124 (by first | exact ⟨rfl, by rw [hE, if_pos c109, bI_1 c102]; rfl⟩ | exact ⟨rfl, by rw [hE, if_neg c109, bI_1 c102]; rfl⟩ | exact ⟨rfl, by rw [hE, bI_0 c102]; rfl⟩)
    · have hE := wo_ok (k := k) e9 c102
      refine v_aload_n (pc := 105) 0 g dX5_wantOne_105 rfl rfl ?_
      refine v_iload_n (pc := 106) 1 g dX5_wantOne_106 rfl rfl ?_
      refine v_iload_n (pc := 107) 2 g dX5_wantOne_107 rfl rfl ?_
      refine v_iload_n (pc := 108) 3 g dX5_wantOne_108 rfl rfl ?_
      refine v_ifb_eq (pc := 109) 116 g dX5_wantOne_109 rfl (fun c109 => ?_) (fun c109 => ?_)
      · refine v_iconst (pc := 116) (v := 1) g dX5_wantOne_116 (by decide) ?_
        refine v_iload (pc := 117) g dX5_wantOne_117 rfl ?_
        refine v_iload (pc := 119) g dX5_wantOne_119 rfl ?_
        refine v_cVd (pc := 121) g dX5_wantOne_121 lk_X5_107 (c_X5_adds S k _ _ _ _ e9) (Nat.le_of_ble_eq_true rfl) rfl rfl rfl rfl (Nat.le_of_ble_eq_true rfl) ?_
        exact v_vret (pc := 124) g hret dX5_wantOne_124 (by first | exact ⟨rfl, by rw [hE, if_pos c109, bI_1 c102]; rfl⟩ | exact ⟨rfl, by rw [hE, if_neg c109, bI_1 c102]; rfl⟩ | exact ⟨rfl, by rw [hE, bI_0 c102]; rfl⟩)
      · refine v_iconst (pc := 112) (v := 0) g dX5_wantOne_112 (by decide) ?_
        refine v_goto (pc := 113) 117 g dX5_wantOne_113 rfl ?_
        refine v_iload (pc := 117) g dX5_wantOne_117 rfl ?_
        refine v_iload (pc := 119) g dX5_wantOne_119 rfl ?_
        refine v_cVd (pc := 121) g dX5_wantOne_121 lk_X5_107 (c_X5_adds S k _ _ _ _ e9) (Nat.le_of_ble_eq_true rfl) rfl rfl rfl rfl (Nat.le_of_ble_eq_true rfl) ?_
        exact v_vret (pc := 124) g hret dX5_wantOne_124 (by first | exact ⟨rfl, by rw [hE, if_pos c109, bI_1 c102]; rfl⟩ | exact ⟨rfl, by rw [hE, if_neg c109, bI_1 c102]; rfl⟩ | exact ⟨rfl, by rw [hE, bI_0 c102]; rfl⟩)
  have J62 : sN S < 8 → V X 62 [some (.ref 0), some (.int k), some (.int (vaT ta tm (nxT ta tm b))), none, none, none] [.int (bI (isS1 ta tm b))] (mW (rowOf S) fo of tr b1 ta tm (nI (soT ta tm (p1T ta tm b))) (nI (p1T ta tm b)) (nI (enT ta tm (p1T ta tm b))) (woT ta tm (p1T ta tm b)) (vaT ta tm (p1T ta tm b)) (bI (numT ta tm (nxT ta tm b) 11)) bi si sh le im bf kp) := by
    intro e9
    refine v_istore_n (pc := 62) 3 _ g dX5_wantOne_62 rfl (Nat.le_of_ble_eq_true rfl) hnL.symm rfl ?_
    refine v_iload_n (pc := 63) 3 g dX5_wantOne_63 rfl rfl ?_
    refine v_ifb_eq (pc := 64) 71 g dX5_wantOne_64 rfl (fun c64 => ?_) (fun c64 => ?_)
    · refine v_w (mW (rowOf S) fo of tr b1 ta tm (nI (soT ta tm (p2T ta tm b))) (nI (p2T ta tm b)) (nI (enT ta tm (p2T ta tm b))) (woT ta tm (p2T ta tm b)) (vaT ta tm (p2T ta tm b)) (bI (numT ta tm (nxT ta tm b) 11)) bi si sh le im bf kp) (by unfold p2T; first | rw [if_pos c64] | rw [if_neg c64]) ?_
      exact J71 e9
    · refine v_aload_n (pc := 67) 0 g dX5_wantOne_67 rfl rfl ?_
      refine v_cVd (pc := 68) g dX5_wantOne_68 lk_X5_224 (c_X5_advance (rowOf S) (enT ta tm (p1T ta tm b)) (nxT ta tm (p1T ta tm b)) hl (en_rng hR hq1).2.1 rfl) (Nat.le_of_ble_eq_true rfl) rfl rfl rfl rfl (Nat.le_of_ble_eq_true rfl) ?_
      refine v_w (mW (rowOf S) fo of tr b1 ta tm (nI (soT ta tm (p2T ta tm b))) (nI (p2T ta tm b)) (nI (enT ta tm (p2T ta tm b))) (woT ta tm (p2T ta tm b)) (vaT ta tm (p2T ta tm b)) (bI (numT ta tm (nxT ta tm b) 11)) bi si sh le im bf kp) (by unfold p2T; first | rw [if_pos c64] | rw [if_neg c64]) ?_
      exact J71 e9
  have J17 : V X 17 [some (.ref 0), some (.int k), none, none, none, none] [.int (bI (sN S < 8)), .ref 0] (mW (rowOf S) fo of tr b1 ta tm (nI (soT ta tm b)) (nI b) (nI (enT ta tm b)) (woT ta tm b) (vaT ta tm b) gd bi si sh le im bf kp) := by
    refine v_put (pc := 17) _ g dX5_wantOne_17 fp_X5_220 rfl (Nat.le_of_ble_eq_true rfl) nbI ftI rfl rfl ?_
    refine v_w (mW (rowOf S) fo of tr b1 ta tm (nI (soT ta tm b)) (nI b) (nI (enT ta tm b)) (woT ta tm b) (vaT ta tm b) (bI (sN S < 8)) bi si sh le im bf kp) rfl ?_
    refine v_aload_n (pc := 20) 0 g dX5_wantOne_20 rfl rfl ?_
    refine v_get (pc := 21) g dX5_wantOne_21 fl_X5_220 rfl rfl ?_
    refine v_ifb_ne (pc := 24) 28 g dX5_wantOne_24 rfl (fun c24 => ?_) (fun c24 => ?_)
    · have e9 := c24
      rw [bI_1 c24]
      refine v_aload_n (pc := 28) 0 g dX5_wantOne_28 rfl rfl ?_
      refine v_cVd (pc := 29) g dX5_wantOne_29 lk_X5_224 (c_X5_advance (rowOf S) (enT ta tm (b)) (nxT ta tm (b)) hl hn0.2.1 rfl) (Nat.le_of_ble_eq_true rfl) rfl rfl rfl rfl (Nat.le_of_ble_eq_true rfl) ?_
      refine v_aload_n (pc := 32) 0 g dX5_wantOne_32 rfl rfl ?_
      refine v_iconst (pc := 33) (v := 0) g dX5_wantOne_33 (by decide) ?_
      refine v_bipush (pc := 34) (v := 11) g dX5_wantOne_34 (by decide) ?_
      refine v_cVd (pc := 36) g dX5_wantOne_36 lk_X5_227 (c_X5_wantNumber (rowOf S) (nxT ta tm b) 11 11 hR hl hn1.2.1 rfl (by decide)) (Nat.le_of_ble_eq_true rfl) rfl rfl rfl rfl (Nat.le_of_ble_eq_true rfl) ?_
      refine v_w (mW (rowOf S) fo of tr b1 ta tm (nI (soT ta tm (p1T ta tm b))) (nI (p1T ta tm b)) (nI (enT ta tm (p1T ta tm b))) (woT ta tm (p1T ta tm b)) (vaT ta tm (p1T ta tm b)) (bI (numT ta tm (nxT ta tm b) 11)) bi si sh le im bf kp) rfl ?_
      refine v_istore_n (pc := 39) 2 _ g dX5_wantOne_39 rfl (Nat.le_of_ble_eq_true rfl) hnL.symm rfl ?_
      refine v_aload_n (pc := 40) 0 g dX5_wantOne_40 rfl rfl ?_
      refine v_get (pc := 41) g dX5_wantOne_41 fl_X5_220 rfl rfl ?_
      refine v_ifb_eq (pc := 44) 61 g dX5_wantOne_44 rfl (fun c44 => ?_) (fun c44 => ?_)
      · refine v_iconst (pc := 61) (v := 0) g dX5_wantOne_61 (by decide) ?_
        refine v_stE [.int (bI (isS1 ta tm b))] (by first | (rw [bI_1 (P := isS1 ta tm b) ⟨c44, c54⟩]; first | done | rfl) | (rw [bI_0 (P := isS1 ta tm b) (fun z => c54 z.2)]; first | done | rfl) | (rw [bI_0 (P := isS1 ta tm b) (fun z => c44 z.1)]; first | done | rfl)) ?_
        exact J62 e9
      · refine v_aload_n (pc := 47) 0 g dX5_wantOne_47 rfl rfl ?_
        refine v_ldc2 (pc := 48) g dX5_wantOne_48 co_X5_230 ?_
        refine v_cVd (pc := 51) g dX5_wantOne_51 lk_X5_206 (c_iw (rowOf S) (p1T ta tm b) 6 _ hR hq1 (by decide) rfl) (Nat.le_of_ble_eq_true rfl) rfl rfl rfl rfl (Nat.le_of_ble_eq_true rfl) ?_
        refine v_ifb_eq (pc := 54) 61 g dX5_wantOne_54 rfl (fun c54 => ?_) (fun c54 => ?_)
        · refine v_iconst (pc := 61) (v := 0) g dX5_wantOne_61 (by decide) ?_
          refine v_stE [.int (bI (isS1 ta tm b))] (by first | (rw [bI_1 (P := isS1 ta tm b) ⟨c44, c54⟩]; first | done | rfl) | (rw [bI_0 (P := isS1 ta tm b) (fun z => c54 z.2)]; first | done | rfl) | (rw [bI_0 (P := isS1 ta tm b) (fun z => c44 z.1)]; first | done | rfl)) ?_
          exact J62 e9
        · refine v_iconst (pc := 57) (v := 1) g dX5_wantOne_57 (by decide) ?_
          refine v_goto (pc := 58) 62 g dX5_wantOne_58 rfl ?_
          refine v_stE [.int (bI (isS1 ta tm b))] (by first | (rw [bI_1 (P := isS1 ta tm b) ⟨c44, c54⟩]; first | done | rfl) | (rw [bI_0 (P := isS1 ta tm b) (fun z => c54 z.2)]; first | done | rfl) | (rw [bI_0 (P := isS1 ta tm b) (fun z => c44 z.1)]; first | done | rfl)) ?_
          exact J62 e9
    · have hE : sz1 ta tm S k b = (none, b) := by unfold sz1; rw [if_neg c24]
      exact v_vret (pc := 27) g hret dX5_wantOne_27 (⟨rfl, by rw [hE, bI_0 c24]; rfl⟩)
  refine v_aload_n (pc := 0) 0 g dX5_wantOne_0 rfl rfl ?_
  refine v_aload_n (pc := 1) 0 g dX5_wantOne_1 rfl rfl ?_
  refine v_get (pc := 2) g dX5_wantOne_2 fl_X5_7 rfl rfl ?_
  refine v_iconst (pc := 5) (v := 2) g dX5_wantOne_5 (by decide) ?_
  refine v_ialdN (pc := 6) _ g dX5_wantOne_6 rfl rfl (Nat.le_of_ble_eq_true rfl) (Nat.le_of_ble_eq_true rfl) ?_
  rw [row_N]
  refine v_bipush (pc := 7) (v := 8) g dX5_wantOne_7 (by decide) ?_
  refine v_icmp_ge (pc := 9) 16 g dX5_wantOne_9 rfl (fun c9 => ?_) (fun c9 => ?_)
  · have e9 : ¬ sN S < 8 := Nat.not_lt.mpr ((nI_leI (a := 8) (by omega) (by omega)).mp c9)
    refine v_iconst (pc := 16) (v := 0) g dX5_wantOne_16 (by decide) ?_
    refine v_stE [.int (bI (sN S < 8)), .ref 0] (by first | (rw [bI_1 e9]; first | done | rfl) | (rw [bI_0 e9]; first | done | rfl)) ?_
    exact J17
  · have e9 : sN S < 8 := Nat.not_le.mp (fun z => c9 ((nI_leI (a := 8) (by omega) (by omega)).mpr z))
    refine v_iconst (pc := 12) (v := 1) g dX5_wantOne_12 (by decide) ?_
    refine v_goto (pc := 13) 17 g dX5_wantOne_13 rfl ?_
    refine v_stE [.int (bI (sN S < 8)), .ref 0] (by first | (rw [bI_1 e9]; first | done | rfl) | (rw [bI_0 e9]; first | done | rfl)) ?_
    exact J17
set_option maxRecDepth 20000 in
set_option maxHeartbeats 2000000 in
theorem c_X5_wantBook (S : St) {fo : Nat → Int32} {of : Int32} {tr : Nat → Int32} {b1 : Nat → Int32} {ta : Nat → Int32} {tm : Nat} {bi : Nat → Int32} {si : Nat → Int32} {sh : Nat → Int64} {le : Nat → Int64} {im : Nat → Int32} {bf : Nat → Int32} {kp : Int32} (b : Nat) (o : Int32) (hR : tpR ta) (hl : tm ≤ 120) (hb : b ≤ tm) : RunD 4 yX5_wantBook cX5_wantBook 3 none [.ref 0, .int o] (mW (rowOf S) fo of tr b1 ta tm (nI (soT ta tm b)) (nI b) (nI (enT ta tm b)) (woT ta tm b) (vaT ta tm b) 1 bi si sh le im bf kp) (none) (mW (rowOf ((bk1 ta tm S o b).1.getD S)) fo of tr b1 ta tm (nI (soT ta tm ((bk1 ta tm S o b).2))) (nI ((bk1 ta tm S o b).2)) (nI (enT ta tm ((bk1 ta tm S o b).2))) (woT ta tm ((bk1 ta tm S o b).2)) (vaT ta tm ((bk1 ta tm S o b).2)) (bI ((bk1 ta tm S o b).1.isSome = true)) bi si sh le im bf kp) := by
  refine Runs.of (by decide) (Nat.le_of_ble_eq_true rfl) rfl ?_
  intro X g hret hnL
  have hn0 := en_rng hR hb
  have hn1 := nx_rng hR hb
  have he1 := en_rng hR hn1.2.1
  have hn2 := nx_rng hR hn1.2.1
  have he2 := en_rng hR hn2.2.1
  refine v_aload_n (pc := 0) 0 g dX5_wantBook_0 rfl rfl ?_
  refine v_cVd (pc := 1) g dX5_wantBook_1 lk_X5_224 (c_X5_advance (rowOf S) (enT ta tm (b)) (nxT ta tm (b)) hl hn0.2.1 rfl) (Nat.le_of_ble_eq_true rfl) rfl rfl rfl rfl (Nat.le_of_ble_eq_true rfl) ?_
  refine v_aload_n (pc := 4) 0 g dX5_wantBook_4 rfl rfl ?_
  refine v_iconst (pc := 5) (v := 0) g dX5_wantBook_5 (by decide) ?_
  refine v_bipush (pc := 6) (v := 11) g dX5_wantBook_6 (by decide) ?_
  refine v_cVd (pc := 8) g dX5_wantBook_8 lk_X5_227 (c_X5_wantNumber (rowOf S) (nxT ta tm b) 11 11 hR hl hn1.2.1 rfl (by decide)) (Nat.le_of_ble_eq_true rfl) rfl rfl rfl rfl (Nat.le_of_ble_eq_true rfl) ?_
  refine v_istore_n (pc := 11) 2 _ g dX5_wantBook_11 rfl (Nat.le_of_ble_eq_true rfl) hnL.symm rfl ?_
  refine v_aload_n (pc := 12) 0 g dX5_wantBook_12 rfl rfl ?_
  refine v_get (pc := 13) g dX5_wantBook_13 fl_X5_220 rfl rfl ?_
  refine v_ifb_eq (pc := 16) 26 g dX5_wantBook_16 rfl (fun c16 => ?_) (fun c16 => ?_)
  · have hE : bk1 ta tm S o b = (none, nxT ta tm b) := by unfold bk1; rw [if_neg c16]
    have hG : (bI (numT ta tm (nxT ta tm b) 11) : Int32) = 0 := bI_0 c16
    have hW := wnB_f c16
    exact v_vret (pc := 26) g hret dX5_wantBook_26 (⟨rfl, by rw [hE, hG, hW]; rfl⟩)
  · obtain ⟨j, hj, ej⟩ := c16.2.nat (m := 11) (by omega)
    have ev : vaT ta tm (nxT ta tm b) = nI j := by rw [num_va (by decide) c16, ej]
    have hE : bk1 ta tm S o b = (some (pBo S (upd (sBo S) j o)), nxT ta tm (nxT ta tm b)) := by unfold bk1; rw [if_pos c16, ej, nI_clamp (by omega)]
    have hG : (bI (numT ta tm (nxT ta tm b) 11) : Int32) = 1 := bI_1 c16
    have hW := wnB_t c16
    refine v_loE [some (.ref 0), some (.int o), some (.int (nI j))] (by rw [← ev]; rfl) ?_
    refine v_aload_n (pc := 19) 0 g dX5_wantBook_19 rfl rfl ?_
    refine v_iload_n (pc := 20) 2 g dX5_wantBook_20 rfl rfl ?_
    refine v_iconst (pc := 21) (v := 1) g dX5_wantBook_21 (by decide) ?_
    refine v_iload_n (pc := 22) 1 g dX5_wantBook_22 rfl rfl ?_
    refine v_cVd (pc := 23) g dX5_wantBook_23 lk_X5_128 (c_re_Bo S j o (by omega)) (Nat.le_of_ble_eq_true rfl) rfl rfl rfl rfl (Nat.le_of_ble_eq_true rfl) ?_
    exact v_vret (pc := 26) g hret dX5_wantBook_26 (⟨rfl, by rw [hE, hG, hW]; rfl⟩)
def q2T (ta : Nat → Int32) (tm b : Nat) : Nat := if numT ta tm (nxT ta tm b) 11 then wnB ta tm (nxT ta tm (nxT ta tm b)) 99 else nxT ta tm b
set_option maxRecDepth 20000 in
set_option maxHeartbeats 2000000 in
theorem c_X5_wantLamp (S : St) {fo : Nat → Int32} {of : Int32} {tr : Nat → Int32} {b1 : Nat → Int32} {ta : Nat → Int32} {tm : Nat} {bi : Nat → Int32} {si : Nat → Int32} {sh : Nat → Int64} {le : Nat → Int64} {im : Nat → Int32} {bf : Nat → Int32} {kp : Int32} (b : Nat) (hR : tpR ta) (hl : tm ≤ 120) (hb : b ≤ tm) : RunD 4 yX5_wantLamp cX5_wantLamp 3 none [.ref 0] (mW (rowOf S) fo of tr b1 ta tm (nI (soT ta tm b)) (nI b) (nI (enT ta tm b)) (woT ta tm b) (vaT ta tm b) 1 bi si sh le im bf kp) (none) (mW (rowOf ((lm1 ta tm S b).1.getD S)) fo of tr b1 ta tm (nI (soT ta tm ((lm1 ta tm S b).2))) (nI ((lm1 ta tm S b).2)) (nI (enT ta tm ((lm1 ta tm S b).2))) (woT ta tm ((lm1 ta tm S b).2)) (vaT ta tm ((lm1 ta tm S b).2)) (bI ((lm1 ta tm S b).1.isSome = true)) bi si sh le im bf kp) := by
  refine Runs.of (by decide) (Nat.le_of_ble_eq_true rfl) rfl ?_
  intro X g hret hnL
  have hn0 := en_rng hR hb
  have hn1 := nx_rng hR hb
  have he1 := en_rng hR hn1.2.1
  have hn2 := nx_rng hR hn1.2.1
  have he2 := en_rng hR hn2.2.1
  have J30 : ∀ v2 : Int32, (numT ta tm (nxT ta tm b) 11 ∧ numT ta tm (nxT ta tm (nxT ta tm b)) 99 → v2 = vaT ta tm (nxT ta tm (nxT ta tm b))) → V X 30 [some (.ref 0), some (.int (vaT ta tm (nxT ta tm b))), none] [.int v2] (mW (rowOf S) fo of tr b1 ta tm (nI (soT ta tm (q2T ta tm b))) (nI (q2T ta tm b)) (nI (enT ta tm (q2T ta tm b))) (woT ta tm (q2T ta tm b)) (vaT ta tm (q2T ta tm b)) (bI (numT ta tm (nxT ta tm b) 11 ∧ numT ta tm (nxT ta tm (nxT ta tm b)) 99)) bi si sh le im bf kp) := by
    intro v2 hv2
    refine v_istore_n (pc := 30) 2 _ g dX5_wantLamp_30 rfl (Nat.le_of_ble_eq_true rfl) hnL.symm rfl ?_
    refine v_aload_n (pc := 31) 0 g dX5_wantLamp_31 rfl rfl ?_
    refine v_get (pc := 32) g dX5_wantLamp_32 fl_X5_220 rfl rfl ?_
    refine v_ifb_eq (pc := 35) 45 g dX5_wantLamp_35 rfl (fun c35 => ?_) (fun c35 => ?_)
    · have hE : lm1 ta tm S b = (none, q2T ta tm b) := by unfold lm1 lm2 q2T; by_cases c : numT ta tm (nxT ta tm b) 11; rw [if_pos c, if_pos c, if_neg (fun h => c35 ⟨c, h⟩), wnB_f (fun h => c35 ⟨c, h⟩)]; rw [if_neg c, if_neg c]
      have hG : (bI (numT ta tm (nxT ta tm b) 11 ∧ numT ta tm (nxT ta tm (nxT ta tm b)) 99) : Int32) = 0 := bI_0 c35
      exact v_vret (pc := 45) g hret dX5_wantLamp_45 (⟨rfl, by rw [hE, hG]; rfl⟩)
    · obtain ⟨j, hj, ej⟩ := c35.1.2.nat (m := 11) (by omega)
      have ev : vaT ta tm (nxT ta tm b) = nI j := by rw [num_va (by decide) c35.1, ej]
      have ev2 : v2 = nvT ta tm (nxT ta tm (nxT ta tm b)) := (hv2 c35).trans (num_va (by decide) c35.2)
      subst ev2
      have hE : lm1 ta tm S b = (some (pLa S (upd (sLa S) j (nvT ta tm (nxT ta tm (nxT ta tm b))))), q2T ta tm b) := by unfold lm1 lm2 q2T; rw [if_pos c35.1, if_pos c35.1, if_pos c35.2, wnB_t c35.2, ej, nI_clamp (by omega)]
      have hG : (bI (numT ta tm (nxT ta tm b) 11 ∧ numT ta tm (nxT ta tm (nxT ta tm b)) 99) : Int32) = 1 := bI_1 c35
      refine v_loE [some (.ref 0), some (.int (nI j)), some (.int (nvT ta tm (nxT ta tm (nxT ta tm b))))] (by rw [← ev]; rfl) ?_
      refine v_aload_n (pc := 38) 0 g dX5_wantLamp_38 rfl rfl ?_
      refine v_iload_n (pc := 39) 1 g dX5_wantLamp_39 rfl rfl ?_
      refine v_iconst (pc := 40) (v := 0) g dX5_wantLamp_40 (by decide) ?_
      refine v_iload_n (pc := 41) 2 g dX5_wantLamp_41 rfl rfl ?_
      refine v_cVd (pc := 42) g dX5_wantLamp_42 lk_X5_128 (c_re_La S j _ (by omega)) (Nat.le_of_ble_eq_true rfl) rfl rfl rfl rfl (Nat.le_of_ble_eq_true rfl) ?_
      exact v_vret (pc := 45) g hret dX5_wantLamp_45 (⟨rfl, by rw [hE, hG]; rfl⟩)
  refine v_aload_n (pc := 0) 0 g dX5_wantLamp_0 rfl rfl ?_
  refine v_cVd (pc := 1) g dX5_wantLamp_1 lk_X5_224 (c_X5_advance (rowOf S) (enT ta tm (b)) (nxT ta tm (b)) hl hn0.2.1 rfl) (Nat.le_of_ble_eq_true rfl) rfl rfl rfl rfl (Nat.le_of_ble_eq_true rfl) ?_
  refine v_aload_n (pc := 4) 0 g dX5_wantLamp_4 rfl rfl ?_
  refine v_iconst (pc := 5) (v := 0) g dX5_wantLamp_5 (by decide) ?_
  refine v_bipush (pc := 6) (v := 11) g dX5_wantLamp_6 (by decide) ?_
  refine v_cVd (pc := 8) g dX5_wantLamp_8 lk_X5_227 (c_X5_wantNumber (rowOf S) (nxT ta tm b) 11 11 hR hl hn1.2.1 rfl (by decide)) (Nat.le_of_ble_eq_true rfl) rfl rfl rfl rfl (Nat.le_of_ble_eq_true rfl) ?_
  refine v_istore_n (pc := 11) 1 _ g dX5_wantLamp_11 rfl (Nat.le_of_ble_eq_true rfl) hnL.symm rfl ?_
  refine v_aload_n (pc := 12) 0 g dX5_wantLamp_12 rfl rfl ?_
  refine v_get (pc := 13) g dX5_wantLamp_13 fl_X5_220 rfl rfl ?_
  refine v_ifb_eq (pc := 16) 29 g dX5_wantLamp_16 rfl (fun c16 => ?_) (fun c16 => ?_)
  · refine v_iconst (pc := 29) (v := 0) g dX5_wantLamp_29 (by decide) ?_
    first | (refine v_w (mW (rowOf S) fo of tr b1 ta tm (nI (soT ta tm (q2T ta tm b))) (nI (q2T ta tm b)) (nI (enT ta tm (q2T ta tm b))) (woT ta tm (q2T ta tm b)) (vaT ta tm (q2T ta tm b)) (bI (numT ta tm (nxT ta tm b) 11 ∧ numT ta tm (nxT ta tm (nxT ta tm b)) 99)) bi si sh le im bf kp) (by rw [show q2T ta tm b = wnB ta tm (nxT ta tm (nxT ta tm b)) 99 from if_pos c16, bI_cong (show numT ta tm (nxT ta tm (nxT ta tm b)) 99 ↔ (numT ta tm (nxT ta tm b) 11 ∧ numT ta tm (nxT ta tm (nxT ta tm b)) 99) from ⟨fun h => ⟨c16, h⟩, fun h => h.2⟩)]) ?_; exact J30 _ (fun _ => rfl)) | (refine v_w (mW (rowOf S) fo of tr b1 ta tm (nI (soT ta tm (q2T ta tm b))) (nI (q2T ta tm b)) (nI (enT ta tm (q2T ta tm b))) (woT ta tm (q2T ta tm b)) (vaT ta tm (q2T ta tm b)) (bI (numT ta tm (nxT ta tm b) 11 ∧ numT ta tm (nxT ta tm (nxT ta tm b)) 99)) bi si sh le im bf kp) (by rw [show q2T ta tm b = nxT ta tm b from if_neg c16, wnB_f c16, bI_0 c16, bI_0 (fun h => c16 h.1)]) ?_; exact J30 _ (fun h => absurd h.1 c16))
  · rw [wnB_t c16, bI_1 c16]
    refine v_aload_n (pc := 19) 0 g dX5_wantLamp_19 rfl rfl ?_
    refine v_iconst (pc := 20) (v := 0) g dX5_wantLamp_20 (by decide) ?_
    refine v_bipush (pc := 21) (v := 99) g dX5_wantLamp_21 (by decide) ?_
    refine v_cVd (pc := 23) g dX5_wantLamp_23 lk_X5_227 (c_X5_wantNumber (rowOf S) (nxT ta tm (nxT ta tm b)) 99 99 hR hl hn2.2.1 rfl (by decide)) (Nat.le_of_ble_eq_true rfl) rfl rfl rfl rfl (Nat.le_of_ble_eq_true rfl) ?_
    refine v_goto (pc := 26) 30 g dX5_wantLamp_26 rfl ?_
    first | (refine v_w (mW (rowOf S) fo of tr b1 ta tm (nI (soT ta tm (q2T ta tm b))) (nI (q2T ta tm b)) (nI (enT ta tm (q2T ta tm b))) (woT ta tm (q2T ta tm b)) (vaT ta tm (q2T ta tm b)) (bI (numT ta tm (nxT ta tm b) 11 ∧ numT ta tm (nxT ta tm (nxT ta tm b)) 99)) bi si sh le im bf kp) (by rw [show q2T ta tm b = wnB ta tm (nxT ta tm (nxT ta tm b)) 99 from if_pos c16, bI_cong (show numT ta tm (nxT ta tm (nxT ta tm b)) 99 ↔ (numT ta tm (nxT ta tm b) 11 ∧ numT ta tm (nxT ta tm (nxT ta tm b)) 99) from ⟨fun h => ⟨c16, h⟩, fun h => h.2⟩)]) ?_; exact J30 _ (fun _ => rfl)) | (refine v_w (mW (rowOf S) fo of tr b1 ta tm (nI (soT ta tm (q2T ta tm b))) (nI (q2T ta tm b)) (nI (enT ta tm (q2T ta tm b))) (woT ta tm (q2T ta tm b)) (vaT ta tm (q2T ta tm b)) (bI (numT ta tm (nxT ta tm b) 11 ∧ numT ta tm (nxT ta tm (nxT ta tm b)) 99)) bi si sh le im bf kp) (by rw [show q2T ta tm b = nxT ta tm b from if_neg c16, wnB_f c16, bI_0 c16, bI_0 (fun h => c16 h.1)]) ?_; exact J30 _ (fun h => absurd h.1 c16))
