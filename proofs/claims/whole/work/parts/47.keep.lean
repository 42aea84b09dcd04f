/-! ===== what the calls keep ===== -/
theorem sMi_burn1 (s : St) (k : Nat) : sMi (burn1 s k) = sMi s := by unfold burn1; split <;> rfl
theorem sMi_burnN (s : St) : ∀ k, sMi (burnN s k) = sMi s
  | 0 => rfl
  | k + 1 => by rw [burnN, sMi_burn1, sMi_burnN s k]
theorem sMi_tickN (s : St) : ∀ k, sMi (tickN s k) = sMi s
  | 0 => rfl
  | k + 1 => by rw [tickN]; exact sMi_tickN s k
theorem sMi_lgt1 (s : St) (h l : Int32) : sMi (lgt1 s h l) = sMi s := by unfold lgt1; split <;> rfl
theorem sMi_lgtN (s : St) (a st l : Int32) : ∀ k, sMi (lgtN s a st l k) = sMi s
  | 0 => rfl
  | k + 1 => by rw [lgtN, sMi_lgt1, sMi_lgtN s a st l k]
theorem sMi_lights (s : St) (i : Nat) : sMi (lights s i) = sMi s := sMi_lgtN _ _ _ _ _
theorem sMi_giv1 (s : St) (i j : Nat) : sMi (giv1 s i j) = sMi s := by unfold giv1; split <;> rfl
theorem sMi_givN (s : St) (i : Nat) : ∀ k, sMi (givN s i k) = sMi s
  | 0 => rfl
  | k + 1 => by rw [givN, sMi_giv1, sMi_givN s i k]
theorem sMi_goesOff (s : St) (i : Nat) : sMi (goesOff s i) = sMi s := by unfold goesOff; rw [sMi_givN, sMi_lights]; rfl
theorem sMi_offN (s : St) (d : Int32) : ∀ k, sMi (offN s d k) = sMi s
  | 0 => rfl
  | k + 1 => by
    rw [offN]
    split
    · rw [sMi_goesOff, sMi_offN s d k]
    · exact sMi_offN s d k
theorem sMi_healN (s : St) : ∀ k, sMi (healN s k) = sMi s
  | 0 => rfl
  | k + 1 => by rw [healN]; exact sMi_healN s k
theorem sMi_ticked (s : St) : sMi (ticked s) = sMi s := by unfold ticked; rw [sMi_tickN, sMi_burnN]
theorem sMi_minute (s : St) : sMi (minute s) = sMi s + 1 := by
  show sMi (coreM s) + 1 = sMi s + 1
  show sMi (healN (offN (ticked s) (mdue s) (sN s)) (sN s)) + 1 = _
  rw [sMi_healN, sMi_offN, sMi_ticked]
theorem sMi_minN (s : St) : ∀ k, sMi (minN s k) = sMi s + nI k
  | 0 => by rw [minN, nI_0, Int32.add_zero]
  | k + 1 => by rw [minN, sMi_minute, sMi_minN s k, nI_succ, Int32.add_assoc]
def Gd (S : St) : Prop := Inv S ∧ inR (sMi S) 0 99999
theorem Inv.addS {S : St} (h : Inv S) (h8 : sN S < 8) {k x f c t : Int32} (hk : inR k 0 5) (hx : inR x 0 11) (hf : inR f 0 1) (hc : inR c 0 99) (ht : inR t 0 99) : Inv (addS S k x f c t) :=
  ⟨h8, h.2.1, h.2.2.1, fun i => ⟨updR h.ki hk i, updR h.at hx i, updR h.fa hf i, updR h.co hc i, updR h.ti ht i, updR h.go (by show inR 0 0 9999; decide) i⟩⟩
theorem Gd.s_0 {S : St} (h : Gd S) (x w v : Int32) : Gd (s_0 S x w v) := by
  unfold Jvm.Pilot.@@N@@.s_0
  split
  · next c =>
    have hv := c.2.2
    unfold moH at hv
    unfold hSet
    split at hv
    · next e => rw [if_pos e]; exact ⟨h.1.pLa (updR h.1.la hv), h.2⟩
    · next e =>
      rw [if_neg e]
      split at hv
      · next e2 => rw [if_pos e2]; exact ⟨h.1.pBo (updR h.1.bo hv), h.2⟩
      · next e2 => rw [if_neg e2]; exact ⟨h.1.pRe (updR h.1.re hv), h.2⟩
  · exact h
theorem Gd.s_2 {S : St} (h : Gd S) (v : Int32) : Gd (s_2 S v) := by
  unfold Jvm.Pilot.@@N@@.s_2
  split
  · next c => exact ⟨h.1.pDr c, h.2⟩
  · exact h
theorem Gd.s_4 {S : St} (h : Gd S) (k x : Int32) : Gd (s_4 S k x) := by
  unfold Jvm.Pilot.@@N@@.s_4
  split
  · next c => exact ⟨h.1.addS c.2 c.1.1 c.1.2 (by decide) (by decide) (by decide), h.2⟩
  · exact h
theorem Gd.s_6 {S : St} (h : Gd S) (p w v : Int32) : Gd (s_6 S p w v) := by
  unfold Jvm.Pilot.@@N@@.s_6
  split
  · next c =>
    have hv := c.2.2
    have hw := c.2.1
    unfold moS at hv
    unfold pSet
    by_cases e1 : w.toInt = 1
    · rw [if_pos e1] at hv ⊢; exact ⟨h.1.pAt (updR h.1.at hv), h.2⟩
    · rw [if_neg e1] at hv ⊢
      by_cases e2 : w.toInt = 2
      · rw [if_pos e2] at hv ⊢; exact ⟨h.1.pFa (updR h.1.fa hv), h.2⟩
      · rw [if_neg e2] at hv ⊢
        by_cases e5 : w.toInt = 5
        · rw [if_pos e5] at hv
          rw [if_neg (by omega), if_neg (by omega)]
          exact ⟨h.1.pGo (updR h.1.go hv), h.2⟩
        · rw [if_neg e5] at hv
          by_cases e3 : w.toInt = 3
          · rw [if_pos e3]; exact ⟨h.1.pCo (updR h.1.co hv), h.2⟩
          · rw [if_neg e3, if_pos (by have := hw.1; have := hw.2; omega)]; exact ⟨h.1.pTi (updR h.1.ti hv), h.2⟩
  · exact h
theorem Gd.s_7 {S : St} (h : Gd S) (p k : Int32) : Gd (s_7 S p k) := by
  unfold Jvm.Pilot.@@N@@.s_7
  split
  · next c => exact ⟨h.1.pKi (updR h.1.ki c.2), h.2⟩
  · exact h
theorem Gd.s_9 {S : St} (h : Gd S) (n : Int32) : Gd (s_9 S n) := by
  unfold Jvm.Pilot.@@N@@.s_9
  split
  · next c =>
    refine ⟨h.1.minN _, ?_⟩
    obtain ⟨m, hm, rfl⟩ := (show inR n 0 ((100 : Nat) : Int) from ⟨by have := c.1.1; omega, c.1.2⟩).nat (by omega)
    obtain ⟨a, ha, ea⟩ := h.2.nat (m := 99999) (by omega)
    have hc : (sMi S).toInt + (nI m).toInt ≤ 99999 := c.2
    rw [sMi_minN, nI_clamp (by omega), ea, nI_add]
    rw [ea, nI_toInt (by omega), nI_toInt (by omega)] at hc
    exact inR_nI (m := 99999) (by omega) (by omega)
  · exact h
theorem layS_Gd {S : St} (h : Gd S) (nu : Nat → Int64) (z : Nat) : ∀ k, Gd (layS S nu z k).1
  | 0 => h
  | k + 1 => by
    rw [layS]
    split
    · next c =>
      have ih := layS_Gd h nu z k
      refine ⟨ih.1.pCo (updR ih.1.co ?_), ih.2⟩
      obtain ⟨c1, c2⟩ := c
      have d1 := Int64.le_iff_toInt_le.mp c1
      have d2 := Int64.le_iff_toInt_le.mp c2
      have z0 : (0 : Int64).toInt = 0 := rfl
      have z9 : (99 : Int64).toInt = 99 := rfl
      unfold inR
      rw [Int64.toInt_toInt32]
      obtain ⟨q, e, a, b⟩ := bmE (nu (40 * z + k)).toInt 2147483648 (by omega)
      have e2 : (nu (40 * z + k)).toInt.bmod (2 ^ 32) = (nu (40 * z + k)).toInt.bmod (2 * 2147483648) := rfl
      rw [e2]
      omega
    · exact layS_Gd h nu z k
theorem Gd.s_28 {S : St} (h : Gd S) (wi si : Nat → Int32) (nu : Nat → Int64) (s : Int32) : Gd (s_28 S wi si nu s) := by
  unfold Jvm.Pilot.@@N@@.s_28 s28k
  split
  · split
    · exact h
    · exact layS_Gd h nu _ _
  · exact h
theorem Gd.s_32 {S K : St} (h : Gd S) (hK : Gd K) (kp : Int32) : Gd (s_32 S K kp) := by
  unfold Jvm.Pilot.@@N@@.s_32
  split
  · exact h
  · exact hK
/-! the text -/
theorem ptV_in {tb : Nat → Int32} {tl b i : Nat} {v : Int32} (h : ptOk tb tl b i) (hv : inR v 0 99) : inR (ptV tb tl b i v) 0 99 := by
  unfold ptV
  split
  · next c => exact (h c).2
  · exact hv
theorem sz1_Gd {tb : Nat → Int32} {tl : Nat} {S S1 : St} {k : Int32} {b : Nat} (hG : Gd S) (hk : inR k 0 5) (h : (sz1 tb tl S k b).1 = some S1) : Gd S1 := by
  unfold sz1 at h
  split at h
  · next h8 =>
    split at h
    · next hn =>
      unfold sz2 at h
      have key : ∀ x fa b3, inR x 0 11 → inR fa 0 1 → (sz3 tb tl S k x fa b3).1 = some S1 → Gd S1 := by
        intro x fa b3 hx hf h
        unfold sz3 at h
        split at h
        · next p7 =>
          unfold sz4 at h
          split at h
          · next p8 =>
            have e := Option.some.inj h
            rw [← e]
            exact ⟨hG.1.addS h8 hk hx hf (ptV_in p7 (by decide)) (ptV_in p8 (by decide)), hG.2⟩
          · cases h
        · cases h
      split at h
      · exact key _ _ _ hn.2 (by decide) h
      · exact key _ _ _ hn.2 (by decide) h
    · cases h
  · cases h
theorem kd_lt {tb : Nat → Int32} {tl b k : Nat} (h : kdT tb tl b = some k) : k < 6 := by
  have key : ∀ (P : Nat → Bool) (f n : Nat) (k : Nat), fst P f n = some k → k < n + f := by
    intro P f
    induction f with
    | zero => intro n k h; cases h
    | succ f ih =>
      intro n k h
      rw [fst] at h
      split at h
      · have := Option.some.inj h; omega
      · have := ih (n + 1) k h; omega
  have := key _ 6 0 k h
  omega
theorem it1_Gd {tb : Nat → Int32} {tl : Nat} {S S1 : St} {b : Nat} (hG : Gd S) (h : (it1 tb tl S b).1 = some S1) : Gd S1 := by
  unfold it1 at h
  cases hk : kdT tb tl b with
  | some k => rw [hk] at h; exact sz1_Gd hG (inR_nI (m := 5) (by have := kd_lt hk; omega) (by omega)) h
  | none =>
    rw [hk] at h
    have h : (ot1 tb tl S b).1 = some S1 := h
    unfold ot1 at h
    split at h
    · unfold bk1 at h
      split at h
      · have e := Option.some.inj h
        rw [← e]
        exact ⟨hG.1.pBo (updR hG.1.bo (by decide)), hG.2⟩
      · cases h
    · split at h
      · unfold bk1 at h
        split at h
        · have e := Option.some.inj h
          rw [← e]
          exact ⟨hG.1.pBo (updR hG.1.bo (by decide)), hG.2⟩
        · cases h
      · split at h
        · unfold dr1 at h
          split at h
          · next c =>
            have e := Option.some.inj h
            rw [← e]
            exact ⟨hG.1.pDr c.2, hG.2⟩
          · cases h
        · split at h
          · unfold lm1 lm2 at h
            split at h
            · split at h
              · next c =>
                have e := Option.some.inj h
                rw [← e]
                exact ⟨hG.1.pLa (updR hG.1.la c.2), hG.2⟩
              · cases h
            · cases h
          · cases h
theorem prs_Gd {tb : Nat → Int32} {tl : Nat} {S1 : St} : ∀ (f : Nat) (S : St) (b n : Nat), Gd S → (prs tb tl f S b n).1 = some S1 → Gd S1
  | 0, S, b, n, _, h => by cases h
  | f + 1, S, b, n, hG, h => by
    rw [prs] at h
    by_cases hs : (it1 tb tl S b).1.isSome = true
    · obtain ⟨S2, hS2⟩ := itm_some hs
      have h2 := it1_Gd hG (congrArg Prod.fst hS2)
      rw [nx1_some hS2] at h
      unfold nx2 at h
      split at h
      · have e := Option.some.inj h
        rw [← e]; exact h2
      · split at h
        · exact prs_Gd f S2 _ _ h2 h
        · cases h
    · rw [nx1_none (itm_none hs)] at h
      cases h
theorem Gd.s_24 {S : St} (h : Gd S) (tb : Nat → Int32) (tl : Nat) : Gd (s_24 S tb tl) := by
  unfold Jvm.Pilot.@@N@@.s_24
  cases ha : (a_24 S tb tl).1 with
  | none => exact h
  | some S1 => exact prs_Gd 121 S _ 0 h ha
/-! tape, sheets -/
theorem and255 (x : Int32) : inR (x &&& 255) 0 255 := by
  have h : (x &&& 255).toInt = ((x &&& 255).toBitVec.toNat : Int) := by
    have : (x &&& 255).toBitVec.toNat ≤ 255 := by
      show (x.toBitVec &&& (255 : Int32).toBitVec).toNat ≤ 255
      rw [BitVec.toNat_and]
      exact Nat.and_le_right
    show (x &&& 255).toBitVec.toInt = _
    exact BitVec.toInt_eq_toNat_of_lt (by omega)
  have h2 : (x &&& 255).toBitVec.toNat ≤ 255 := by
    show (x.toBitVec &&& (255 : Int32).toBitVec).toNat ≤ 255
    rw [BitVec.toNat_and]
    exact Nat.and_le_right
  unfold inR
  rw [h]
  omega
theorem fdT_R {tb : Nat → Int32} (h : tpR tb) (tl : Nat) (b : Int32) (m : Nat) : ∀ k, tpR (fdT tb tl b m k)
  | 0 => h
  | k + 1 => fun j => updR (fdT_R h tl b m k) (and255 _) j
theorem t22_R {tb : Nat → Int32} (h : tpR tb) (tl : Nat) (b n : Int32) : tpR (t_22 tb tl b n) := by
  unfold t_22
  split
  · exact fdT_R h _ _ _ _
  · exact h
theorem l22_le {tl : Nat} (h : tl ≤ 120) (n : Int32) : l_22 tl n ≤ 120 := by
  unfold l_22
  split
  · next c =>
    have c2 : (tl : Int) + n.toInt ≤ 120 := c.2
    obtain ⟨m, hm, rfl⟩ := (show inR n 0 ((4 : Nat) : Int) from ⟨by have := c.1.1; omega, c.1.2⟩).nat (by omega)
    rw [nI_toInt (by omega)] at c2
    rw [nI_clamp (by omega)]
    omega
  · exact h
theorem z25_in {si : Nat → Int32} (h : ∀ k, inR (si k) 0 40) (s b n : Int32) : ∀ k, inR (z_25 si s b n k) 0 40 := by
  unfold z_25
  split
  · next c =>
    refine updR h ?_
    unfold n_25
    split
    · decide
    · exact c.2
  · exact h
