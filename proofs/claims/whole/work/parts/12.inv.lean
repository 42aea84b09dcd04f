/-! ===== the ranges stay ===== -/
theorem updR {f : Nat → Int32} {k : Nat} {x : Int32} {a b : Int} (hf : ∀ j, inR (f j) a b) (hx : inR x a b) : ∀ j, inR (upd f k x j) a b := by
  intro j
  unfold upd
  split
  · exact hx
  · exact hf j
theorem Inv.pMi {s : St} (h : Inv s) (v : Int32) : Inv (pMi s v) := h
theorem Inv.pDr {s : St} (h : Inv s) {v : Int32} (hv : inR v 0 9) : Inv (pDr s v) := ⟨h.1, hv, h.2.2⟩
theorem Inv.pLa {s : St} (h : Inv s) {f : Nat → Int32} (hf : ∀ k, inR (f k) 0 99) : Inv (pLa s f) := ⟨h.1, h.2.1, fun k => ⟨hf k, (h.2.2.1 k).2⟩, h.2.2.2⟩
theorem Inv.pBo {s : St} (h : Inv s) {f : Nat → Int32} (hf : ∀ k, inR (f k) 0 1) : Inv (pBo s f) := ⟨h.1, h.2.1, fun k => ⟨h.la k, hf k, h.re k⟩, h.2.2.2⟩
theorem Inv.pRe {s : St} (h : Inv s) {f : Nat → Int32} (hf : ∀ k, inR (f k) 0 9999) : Inv (pRe s f) := ⟨h.1, h.2.1, fun k => ⟨h.la k, h.bo k, hf k⟩, h.2.2.2⟩
theorem Inv.pN {s : St} (h : Inv s) {n : Nat} (hn : n ≤ 8) : Inv (pN s n) := ⟨hn, h.2⟩
theorem Inv.pKi {s : St} (h : Inv s) {f : Nat → Int32} (hf : ∀ k, inR (f k) 0 5) : Inv (pKi s f) := ⟨h.1, h.2.1, h.2.2.1, fun k => ⟨hf k, (h.2.2.2 k).2⟩⟩
theorem Inv.pAt {s : St} (h : Inv s) {f : Nat → Int32} (hf : ∀ k, inR (f k) 0 11) : Inv (pAt s f) := ⟨h.1, h.2.1, h.2.2.1, fun k => ⟨h.ki k, hf k, (h.2.2.2 k).2.2⟩⟩
theorem Inv.pFa {s : St} (h : Inv s) {f : Nat → Int32} (hf : ∀ k, inR (f k) 0 1) : Inv (pFa s f) := ⟨h.1, h.2.1, h.2.2.1, fun k => ⟨h.ki k, h.at k, hf k, (h.2.2.2 k).2.2.2⟩⟩
theorem Inv.pCo {s : St} (h : Inv s) {f : Nat → Int32} (hf : ∀ k, inR (f k) 0 99) : Inv (pCo s f) := ⟨h.1, h.2.1, h.2.2.1, fun k => ⟨h.ki k, h.at k, h.fa k, hf k, (h.2.2.2 k).2.2.2.2⟩⟩
theorem Inv.pTi {s : St} (h : Inv s) {f : Nat → Int32} (hf : ∀ k, inR (f k) 0 99) : Inv (pTi s f) := ⟨h.1, h.2.1, h.2.2.1, fun k => ⟨h.ki k, h.at k, h.fa k, h.co k, hf k, h.go k⟩⟩
theorem Inv.pGo {s : St} (h : Inv s) {f : Nat → Int32} (hf : ∀ k, inR (f k) 0 9999) : Inv (pGo s f) := ⟨h.1, h.2.1, h.2.2.1, fun k => ⟨h.ki k, h.at k, h.fa k, h.co k, h.ti k, hf k⟩⟩
theorem mn_nI {a b : Nat} (ha : a < 2 ^ 31) (hb : b < 2 ^ 31) : mn (nI a) (nI b) = nI (if b < a then b else a) := by
  unfold mn
  by_cases h : b < a
  · rw [if_pos ((nI_ltI hb ha).mpr h), if_pos h]
  · rw [if_neg (fun z => h ((nI_ltI hb ha).mp z)), if_neg h]
theorem mx_nI {a b : Nat} (ha : a < 2 ^ 31) (hb : b < 2 ^ 31) : mx (nI a) (nI b) = nI (if a < b then b else a) := by
  unfold mx
  by_cases h : a < b
  · rw [if_pos ((nI_ltI ha hb).mpr h), if_pos h]
  · rw [if_neg (fun z => h ((nI_ltI ha hb).mp z)), if_neg h]
theorem mx_sub {a b : Nat} (ha : a < 2 ^ 30) (hb : b < 2 ^ 30) : mx 0 (nI a - nI b) = nI (a - b) := by
  unfold mx
  by_cases h : b < a
  · rw [pk_sub (by omega), if_pos]
    exact (nI_ltI (a := 0) (b := a - b) (by omega) (by omega)).mpr (by omega)
  · rw [if_neg, show a - b = 0 by omega]
    · rfl
    · rw [i_lt, pk_sub_toInt ha hb]
      have : (0 : Int32).toInt = 0 := rfl
      omega
theorem cntN_nat (p : Nat → Bool) : ∀ n, n < 1000 → ∃ k, k ≤ n ∧ cntN p n = nI k
  | 0, _ => ⟨0, Nat.le_refl _, rfl⟩
  | n + 1, hn => by
    obtain ⟨k, h1, h2⟩ := cntN_nat p n (by omega)
    rw [cntN, h2]
    split
    · exact ⟨k + 1, by omega, (nI_succ k).symm⟩
    · exact ⟨k, by omega, rfl⟩
theorem plainT_nat {s : St} (h : Inv s) (i : Nat) : ∃ t, t ≤ 24 ∧ plainT s i = nI t := by
  obtain ⟨c, hc, ec⟩ := (h.co i).nat (m := 99) (by omega)
  obtain ⟨d, hd, ed⟩ := h.dr.nat (m := 9) (by omega)
  refine ⟨c / 4 - d, by omega, ?_⟩
  unfold plainT
  rw [ec, ed, show (4 : Int32) = nI 4 from rfl, pk_div (by omega) (by omega) (by omega), mx_sub (by omega) (by omega)]
theorem kSel_P {P : Int32 → Prop} {k s b c d bi ba : Int32} (h0 : P s) (h1 : P b) (h2 : P c) (h3 : P d) (h4 : P bi) (h5 : P ba) : P (kSel k s b c d bi ba) := by
  unfold kSel
  (repeat' split) <;> assumption
theorem tkl_nat {s : St} (h : Inv s) (i : Nat) : ∃ t, t ≤ 54 ∧ tkl s i = nI t := by
  obtain ⟨a, ha, ea⟩ := plainT_nat h i
  unfold tkl
  rw [ea]
  have e3 : nI a + 3 = nI (a + 3) := nI_add a 3
  have e2 : nI a / 2 = nI (a / 2) := pk_div (d := 2) (by omega) (by omega) (by omega)
  have e4 : nI (a / 2) + 1 = nI (a / 2 + 1) := nI_1 _
  have e5 : 2 * nI (a + 3) = nI (2 * (a + 3)) := pk_mul 2 (a + 3)
  rw [e2, e3, e4, e5]
  refine kSel_P (P := fun v => ∃ t, t ≤ 54 ∧ v = nI t) ⟨_, by omega, rfl⟩ ⟨_, by omega, rfl⟩ ⟨_, by omega, rfl⟩ ⟨0, by omega, rfl⟩ ⟨_, by omega, rfl⟩ ?_
  split
  · exact ⟨_, by omega, rfl⟩
  · exact ⟨_, by omega, rfl⟩
theorem blw_nat {s : St} (h : Inv s) (i : Nat) : ∃ t, t ≤ 9 ∧ blw s i = nI t := by
  obtain ⟨c, hc, ec⟩ := (h.co i).nat (m := 99) (by omega)
  unfold blw
  rw [ec]
  have e1 : nI c / 25 = nI (c / 25) := pk_div (d := 25) (by omega) (by omega) (by omega)
  have e2 : nI c / 50 = nI (c / 50) := pk_div (d := 50) (by omega) (by omega) (by omega)
  have e3 : ∀ z, 1 + nI z = nI (1 + z) := fun z => nI_add 1 z
  have e4 : ∀ z, 2 * nI z = nI (2 * z) := fun z => pk_mul 2 z
  have e5 : ∀ z, nI z + 1 = nI (z + 1) := fun z => nI_1 z
  rw [e1, e2, e3, e3, e4, e5]
  exact kSel_P (P := fun v => ∃ t, t ≤ 9 ∧ v = nI t) ⟨_, by omega, rfl⟩ ⟨_, by omega, rfl⟩ ⟨1, by omega, rfl⟩ ⟨0, by omega, rfl⟩ ⟨_, by omega, rfl⟩ ⟨_, by omega, rfl⟩
theorem hea_nat {s : St} (h : Inv s) (i : Nat) : ∃ t, t ≤ 9 ∧ hea s i = nI t := by
  obtain ⟨d, hd, ed⟩ := h.dr.nat (m := 9) (by omega)
  unfold hea
  have e1 : nI d / 3 = nI (d / 3) := pk_div (d := 3) (by omega) (by omega) (by omega)
  rw [ed, e1]
  exact kSel_P (P := fun v => ∃ t, t ≤ 9 ∧ v = nI t) ⟨1, by omega, rfl⟩ ⟨0, by omega, rfl⟩ ⟨2, by omega, rfl⟩ ⟨9, by omega, rfl⟩ ⟨_, by omega, rfl⟩ ⟨1, by omega, rfl⟩
theorem sN_burn1 (s : St) (k : Nat) : sN (burn1 s k) = sN s := by unfold burn1; split <;> rfl
theorem sN_burnN (s : St) : ∀ k, sN (burnN s k) = sN s
  | 0 => rfl
  | k + 1 => by rw [burnN, sN_burn1, sN_burnN s k]
theorem sN_tickN (s : St) : ∀ k, sN (tickN s k) = sN s
  | 0 => rfl
  | k + 1 => by rw [tickN]; exact sN_tickN s k
theorem sN_lgt1 (s : St) (h l : Int32) : sN (lgt1 s h l) = sN s := by unfold lgt1; split <;> rfl
theorem sN_lgtN (s : St) (a st l : Int32) : ∀ k, sN (lgtN s a st l k) = sN s
  | 0 => rfl
  | k + 1 => by rw [lgtN, sN_lgt1, sN_lgtN s a st l k]
theorem sN_lights (s : St) (i : Nat) : sN (lights s i) = sN s := sN_lgtN _ _ _ _ _
theorem sN_giv1 (s : St) (i j : Nat) : sN (giv1 s i j) = sN s := by unfold giv1; split <;> rfl
theorem sN_givN (s : St) (i : Nat) : ∀ k, sN (givN s i k) = sN s
  | 0 => rfl
  | k + 1 => by rw [givN, sN_giv1, sN_givN s i k]
theorem sN_goesOff (s : St) (i : Nat) : sN (goesOff s i) = sN s := by unfold goesOff; rw [sN_givN, sN_lights]; rfl
theorem sN_offN (s : St) (d : Int32) : ∀ k, sN (offN s d k) = sN s
  | 0 => rfl
  | k + 1 => by
    rw [offN]
    split
    · rw [sN_goesOff, sN_offN s d k]
    · exact sN_offN s d k
theorem sN_healN (s : St) : ∀ k, sN (healN s k) = sN s
  | 0 => rfl
  | k + 1 => by rw [healN]; exact sN_healN s k
theorem sN_ticked (s : St) : sN (ticked s) = sN s := by unfold ticked; rw [sN_tickN, sN_burnN]
theorem sN_minute (s : St) : sN (minute s) = sN s := by
  show sN (healN (offN (ticked s) (mdue s) (sN s)) (sN s)) = sN s
  rw [sN_healN, sN_offN, sN_ticked]
theorem sN_minN (s : St) : ∀ k, sN (minN s k) = sN s
  | 0 => rfl
  | k + 1 => by rw [minN, sN_minute, sN_minN s k]
theorem Inv.burn1 {s : St} (h : Inv s) (k : Nat) : Inv (burn1 s k) := by
  unfold Jvm.Pilot.@@N@@.burn1
  split
  · next hl =>
    obtain ⟨a, ha, ea⟩ := (h.la k).nat (m := 99) (by omega)
    obtain ⟨b, hb, eb⟩ := (h.re k).nat (m := 9999) (by omega)
    have ha0 : 0 < a := by
      rw [ea] at hl
      exact (nI_ltI (a := 0) (b := a) (by omega) (by omega)).mp hl
    refine Inv.pLa (Inv.pRe h (updR h.re ?_)) (updR h.la ?_)
    · have e : nI b + 1 = nI (b + 1) := nI_1 b
      rw [eb, e, show (9999 : Int32) = nI 9999 from rfl, mn_nI (by omega) (by omega)]
      refine inR_nI (m := 9999) ?_ (by omega)
      split <;> omega
    · rw [ea, show (1 : Int32) = nI 1 from rfl, pk_sub (by omega)]
      exact inR_nI (m := 99) (by omega) (by omega)
  · exact h
theorem Inv.burnN {s : St} (h : Inv s) : ∀ k, Inv (burnN s k)
  | 0 => h
  | k + 1 => (h.burnN k).burn1 k
theorem Inv.tick1 {s : St} (h : Inv s) (i : Nat) : Inv (tick1 s i) := by
  obtain ⟨a, ha, ea⟩ := (h.ti i).nat (m := 99) (by omega)
  obtain ⟨t, ht, et⟩ := tkl_nat h i
  refine Inv.pTi h (updR h.ti ?_)
  rw [ea, et, nI_add, show (99 : Int32) = nI 99 from rfl, mn_nI (by omega) (by omega)]
  refine inR_nI (m := 99) ?_ (by omega)
  split <;> omega
theorem Inv.tickN {s : St} (h : Inv s) : ∀ k, Inv (tickN s k)
  | 0 => h
  | k + 1 => (h.tickN k).tick1 k
theorem Inv.lgt1 {s : St} (h : Inv s) (a : Int32) {l : Int32} (hl : inR l 0 99) : Inv (lgt1 s a l) := by
  unfold Jvm.Pilot.@@N@@.lgt1
  split
  · refine Inv.pLa h (updR h.la ?_)
    unfold mx
    split
    · exact hl
    · exact h.la _
  · exact h
theorem Inv.lgtN {s : St} (h : Inv s) (a st : Int32) {l : Int32} (hl : inR l 0 99) : ∀ k, Inv (lgtN s a st l k)
  | 0 => h
  | k + 1 => (h.lgtN a st hl k).lgt1 _ hl
theorem light_in {s : St} (h : Inv s) (i : Nat) : inR (5 + sCo s i / 10) 0 99 := by
  obtain ⟨c, hc, ec⟩ := (h.co i).nat (m := 99) (by omega)
  have e1 : nI c / 10 = nI (c / 10) := pk_div (d := 10) (by omega) (by omega) (by omega)
  have e3 : 5 + nI (c / 10) = nI (5 + c / 10) := nI_add 5 _
  rw [ec, e1, e3]
  exact inR_nI (m := 99) (by omega) (by omega)
theorem Inv.lights {s : St} (h : Inv s) (i : Nat) : Inv (lights s i) := h.lgtN _ _ (light_in h i) _
theorem Inv.giv1 {s : St} (h : Inv s) (i j : Nat) : Inv (giv1 s i j) := by
  unfold Jvm.Pilot.@@N@@.giv1
  split
  · obtain ⟨c, hc, ec⟩ := (h.co j).nat (m := 99) (by omega)
    have e3 : nI c + 6 = nI (c + 6) := nI_add c 6
    refine Inv.pCo h (updR h.co ?_)
    rw [ec, e3, show (99 : Int32) = nI 99 from rfl, mn_nI (by omega) (by omega)]
    refine inR_nI (m := 99) ?_ (by omega)
    split <;> omega
  · exact h
theorem Inv.givN {s : St} (h : Inv s) (i : Nat) : ∀ k, Inv (givN s i k)
  | 0 => h
  | k + 1 => (h.givN i k).giv1 i k
theorem Inv.off1 {s : St} (h : Inv s) (i : Nat) : Inv (off1 s i) := by
  obtain ⟨b, hb, eb⟩ := (h.go i).nat (m := 9999) (by omega)
  refine Inv.pGo (Inv.pTi h (updR h.ti (by show inR 0 0 99; decide))) (updR h.go ?_)
  have e : nI b + 1 = nI (b + 1) := nI_1 b
  rw [eb, e, show (9999 : Int32) = nI 9999 from rfl, mn_nI (by omega) (by omega)]
  refine inR_nI (m := 9999) ?_ (by omega)
  split <;> omega
theorem Inv.goesOff {s : St} (h : Inv s) (i : Nat) : Inv (goesOff s i) := ((h.off1 i).lights i).givN i _
theorem Inv.offN {s : St} (h : Inv s) (d : Int32) : ∀ k, Inv (offN s d k)
  | 0 => h
  | k + 1 => by
    rw [Jvm.Pilot.@@N@@.offN]
    split
    · exact (h.offN d k).goesOff k
    · exact h.offN d k
theorem Inv.heal1 {s : St} (h : Inv s) (i : Nat) : Inv (heal1 s i) := by
  obtain ⟨c, hc, ec⟩ := (h.co i).nat (m := 99) (by omega)
  obtain ⟨t, ht, et⟩ := hea_nat h i
  refine Inv.pCo h (updR h.co ?_)
  rw [ec, et, mx_sub (by omega) (by omega)]
  exact inR_nI (m := 99) (by omega) (by omega)
theorem Inv.healN {s : St} (h : Inv s) : ∀ k, Inv (healN s k)
  | 0 => h
  | k + 1 => (h.healN k).heal1 k
theorem Inv.ticked {s : St} (h : Inv s) : Inv (ticked s) := (h.burnN 12).tickN _
theorem Inv.minute {s : St} (h : Inv s) : Inv (minute s) := ((h.ticked.offN _ _).healN _).pMi _
theorem Inv.minN {s : St} (h : Inv s) : ∀ k, Inv (minN s k)
  | 0 => h
  | k + 1 => (h.minN k).minute
