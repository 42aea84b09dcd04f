/-! ===== THE TEXT: tokens and the winter that it tells, in numbers ===== -/
abbrev isL (b : Int32) : Prop := inR b 97 122
abbrev isD (b : Int32) : Prop := inR b 48 57
def scF (q : Nat → Bool) : Nat → Nat → Nat
  | 0, p => p
  | f + 1, p => if q p = true then scF q f (p + 1) else p
def sc (q : Nat → Bool) (tl p : Nat) : Nat := scF q (tl - p) p
theorem sc_t {q : Nat → Bool} {tl p : Nat} (hp : p < tl) (h : q p = true) : sc q tl p = sc q tl (p + 1) := by
  unfold sc
  rw [show tl - p = (tl - (p + 1)) + 1 by omega, scF, if_pos h]
theorem sc_f {q : Nat → Bool} {tl p : Nat} (h : q p = false) : sc q tl p = p := by
  unfold sc
  cases tl - p with
  | zero => rfl
  | succ f => rw [scF, if_neg (by rw [h]; exact Bool.false_ne_true)]
theorem sc_e {q : Nat → Bool} {tl p : Nat} (hp : tl ≤ p) : sc q tl p = p := by
  unfold sc
  rw [show tl - p = 0 by omega]; rfl
theorem scF_ge (q : Nat → Bool) : ∀ f p, p ≤ scF q f p ∧ scF q f p ≤ p + f
  | 0, p => ⟨Nat.le_refl _, Nat.le_refl _⟩
  | f + 1, p => by
    rw [scF]
    split
    · have := scF_ge q f (p + 1)
      omega
    · omega
theorem sc_ge (q : Nat → Bool) (tl p : Nat) : p ≤ sc q tl p := (scF_ge q _ p).1
theorem sc_le {q : Nat → Bool} {tl p : Nat} (hp : p ≤ tl) : sc q tl p ≤ tl := by
  have := (scF_ge q (tl - p) p).2
  unfold sc
  omega
theorem scF_all (q : Nat → Bool) : ∀ f p k, p ≤ k → k < scF q f p → q k = true
  | 0, p, k, h1, h2 => absurd h2 (by rw [scF]; omega)
  | f + 1, p, k, h1, h2 => by
    rw [scF] at h2
    by_cases h : q p = true
    · rw [if_pos h] at h2
      rcases Nat.lt_or_ge p k with z | z
      · exact scF_all q f (p + 1) k z h2
      · rw [show k = p by omega]; exact h
    · rw [if_neg h] at h2
      omega
theorem sc_all {q : Nat → Bool} {tl p k : Nat} (h1 : p ≤ k) (h2 : k < sc q tl p) : q k = true := scF_all q _ p k h1 h2
def qS (tb : Nat → Int32) (tl k : Nat) : Bool := decide (byt tb tl k = 32)
def qL (tb : Nat → Int32) (tl k : Nat) : Bool := decide (isL (byt tb tl k))
def qD (tb : Nat → Int32) (tl k : Nat) : Bool := decide (isD (byt tb tl k))
def tk0 (b : Int32) : Nat := if b.toInt < 0 then 0 else if isL b then 1 else if isD b then 2 else if b = 59 then 3 else 4
def tkT (tb : Nat → Int32) (tl b : Nat) : Nat := tk0 (byt tb tl b)
def en0 (tb : Nat → Int32) (tl b t : Nat) : Nat := if t = 0 then b else if t = 1 then sc (qL tb tl) tl b else if t = 2 then sc (qD tb tl) tl b else b + 1
def enT (tb : Nat → Int32) (tl b : Nat) : Nat := en0 tb tl b (tkT tb tl b)
def bgT (tb : Nat → Int32) (tl p : Nat) : Nat := sc (qS tb tl) tl p
def nxT (tb : Nat → Int32) (tl b : Nat) : Nat := bgT tb tl (enT tb tl b)
def cvN (f : Nat → Int32) (b : Nat) : Nat → Int32
  | 0 => 0
  | k + 1 => mn 1000 (10 * cvN f b k + f (b + k) - 48)
def nvT (tb : Nat → Int32) (tl b : Nat) : Int32 := cvN (byt tb tl) b (enT tb tl b - b)
def nvU (tb : Nat → Int32) (tl b : Nat) (v : Int32) : Int32 := if tkT tb tl b = 2 then nvT tb tl b else v
def okV (tb : Nat → Int32) (tl b : Nat) (v : Int32) : Prop := tkT tb tl b = 2 → v = nvT tb tl b
theorem okV_U (tb : Nat → Int32) (tl b : Nat) (v : Int32) : okV tb tl b (nvU tb tl b v) := fun h => if_pos h
def eqW (f g : Nat → Int32) : Nat → Bool
  | 0 => true
  | k + 1 => eqW f g k && decide (f k = g k)
theorem eqW_no {f g : Nat → Int32} {k : Nat} (h : eqW f g k = false) : ∀ m, k ≤ m → eqW f g m = false
  | 0, hm => by rw [show k = 0 by omega] at h; exact h
  | m + 1, hm => by
    rcases Nat.lt_or_ge k (m + 1) with q | q
    · rw [eqW, eqW_no h m (by omega)]; rfl
    · rw [show m + 1 = k by omega]; exact h
theorem eqW_iff {f g : Nat → Int32} : ∀ n, eqW f g n = true ↔ ∀ k, k < n → f k = g k
  | 0 => ⟨fun _ k hk => absurd hk (Nat.not_lt_zero _), fun _ => rfl⟩
  | n + 1 => by
    rw [eqW, Bool.and_eq_true, eqW_iff n, decide_eq_true_iff]
    constructor
    · rintro ⟨h1, h2⟩ k hk
      rcases Nat.lt_or_ge k n with q | q
      · exact h1 k q
      · rw [show k = n by omega]; exact h2
    · exact fun h => ⟨fun k hk => h k (by omega), h n (by omega)⟩
def lnS (i : Nat) : Nat := lenS.getD i 0
def chS (i j : Nat) : Int32 := (bytS.getD i []).getD j 0
def isW (tb : Nat → Int32) (tl b i : Nat) : Bool := decide (tkT tb tl b = 1 ∧ enT tb tl b = b + lnS i) && eqW (fun k => byt tb tl (b + k)) (chS i) (lnS i)
abbrev numT (tb : Nat → Int32) (tl b : Nat) (m : Int) : Prop := tkT tb tl b = 2 ∧ inR (nvT tb tl b) 0 m
/-- a word with a number behind it, or neither -/
abbrev ptOk (tb : Nat → Int32) (tl b i : Nat) : Prop := isW tb tl b i = true → numT tb tl (nxT tb tl b) 99
def ptB (tb : Nat → Int32) (tl b i : Nat) : Nat := if isW tb tl b i = true then (if numT tb tl (nxT tb tl b) 99 then nxT tb tl (nxT tb tl b) else nxT tb tl b) else b
def ptV (tb : Nat → Int32) (tl b i : Nat) (v : Int32) : Int32 := if isW tb tl b i = true then nvT tb tl (nxT tb tl b) else v
abbrev Itm : Type := Option St × Nat
def sz4 (tb : Nat → Int32) (tl : Nat) (S : St) (k h fa co : Int32) (b : Nat) : Itm := if ptOk tb tl b 8 then (some (addS S k h fa co (ptV tb tl b 8 0)), ptB tb tl b 8) else (none, ptB tb tl b 8)
def sz3 (tb : Nat → Int32) (tl : Nat) (S : St) (k h fa : Int32) (b : Nat) : Itm := if ptOk tb tl b 7 then sz4 tb tl S k h fa (ptV tb tl b 7 20) (ptB tb tl b 7) else (none, ptB tb tl b 7)
def sz2 (tb : Nat → Int32) (tl : Nat) (S : St) (k h : Int32) (b : Nat) : Itm := if isW tb tl b 6 = true then sz3 tb tl S k h 0 (nxT tb tl b) else sz3 tb tl S k h 1 b
def sz1 (tb : Nat → Int32) (tl : Nat) (S : St) (k : Int32) (b : Nat) : Itm := if sN S < 8 then (if numT tb tl (nxT tb tl b) 11 then sz2 tb tl S k (nvT tb tl (nxT tb tl b)) (nxT tb tl (nxT tb tl b)) else (none, nxT tb tl b)) else (none, b)
def bk1 (tb : Nat → Int32) (tl : Nat) (S : St) (v : Int32) (b : Nat) : Itm := if numT tb tl (nxT tb tl b) 11 then (some (pBo S (upd (sBo S) (nvT tb tl (nxT tb tl b)).toNatClampNeg v)), nxT tb tl (nxT tb tl b)) else (none, nxT tb tl b)
def dr1 (tb : Nat → Int32) (tl : Nat) (S : St) (b : Nat) : Itm := if numT tb tl (nxT tb tl b) 9 then (some (pDr S (nvT tb tl (nxT tb tl b))), nxT tb tl (nxT tb tl b)) else (none, nxT tb tl b)
def lm2 (tb : Nat → Int32) (tl : Nat) (S : St) (h : Int32) (b : Nat) : Itm := if numT tb tl b 99 then (some (pLa S (upd (sLa S) h.toNatClampNeg (nvT tb tl b))), nxT tb tl b) else (none, b)
def lm1 (tb : Nat → Int32) (tl : Nat) (S : St) (b : Nat) : Itm := if numT tb tl (nxT tb tl b) 11 then lm2 tb tl S (nvT tb tl (nxT tb tl b)) (nxT tb tl (nxT tb tl b)) else (none, nxT tb tl b)
def kS (k : Nat) : Nat := if k = 0 then 5 else k - 1
def kdP (tb : Nat → Int32) (tl b : Nat) : Nat → Bool := fun k => isW tb tl b (kS k)
def kdT (tb : Nat → Int32) (tl b : Nat) : Option Nat := fst (kdP tb tl b) 6 0
def ot1 (tb : Nat → Int32) (tl : Nat) (S : St) (b : Nat) : Itm := if isW tb tl b 9 = true then bk1 tb tl S 1 b else if isW tb tl b 10 = true then bk1 tb tl S 0 b else if isW tb tl b 11 = true then dr1 tb tl S b else if isW tb tl b 12 = true then lm1 tb tl S b else (none, b)
def it2 (tb : Nat → Int32) (tl : Nat) (S : St) (b : Nat) (o : Option Nat) : Itm := match o with
  | some k => sz1 tb tl S (nI k) b
  | none => ot1 tb tl S b
def it1 (tb : Nat → Int32) (tl : Nat) (S : St) (b : Nat) : Itm := it2 tb tl S b (kdT tb tl b)
/-- what is told behind an ITEM -/
def nx2 (tb : Nat → Int32) (tl : Nat) (f : St → Nat → Nat → Option St × Int32) (n : Nat) (S : St) (b : Nat) : Option St × Int32 := if tkT tb tl b = 0 then (some S, nI (n + 1)) else if tkT tb tl b = 3 then f S (nxT tb tl b) (n + 1) else (none, -1 - nI b)
def nx1 (tb : Nat → Int32) (tl : Nat) (f : St → Nat → Nat → Option St × Int32) (n : Nat) (x : Itm) : Option St × Int32 := match x with
  | (none, b) => (none, -1 - nI b)
  | (some S, b) => nx2 tb tl f n S b
def prs (tb : Nat → Int32) (tl : Nat) : Nat → St → Nat → Nat → Option St × Int32
  | 0, _, _, _ => (none, 0)
  | f + 1, S, b, n => nx1 tb tl (prs tb tl f) n (it1 tb tl S b)
def a_24 (S : St) (tb : Nat → Int32) (tl : Nat) : Option St × Int32 := prs tb tl 121 S (bgT tb tl 0) 0
def r_24 (S : St) (tb : Nat → Int32) (tl : Nat) : Int32 := (a_24 S tb tl).2
def s_24 (S : St) (tb : Nat → Int32) (tl : Nat) : St := (a_24 S tb tl).1.getD S
/-! what is known of tokens -/
def tpR (tb : Nat → Int32) : Prop := ∀ k, inR (tb k) 0 255
theorem byt_lt {tb : Nat → Int32} {tl k : Nat} (h : k < tl) : byt tb tl k = tb k := if_pos h
theorem byt_ge {tb : Nat → Int32} {tl k : Nat} (h : tl ≤ k) : byt tb tl k = -1 := if_neg (by omega)
theorem byt_neg {tb : Nat → Int32} (hR : tpR tb) {tl k : Nat} : (byt tb tl k).toInt < 0 ↔ tl ≤ k := by
  rcases Nat.lt_or_ge k tl with h | h
  · rw [byt_lt h]
    have := (hR k).1
    omega
  · rw [byt_ge h]
    exact ⟨fun _ => h, fun _ => by decide⟩
theorem tk_0 {tb : Nat → Int32} (hR : tpR tb) {tl b : Nat} : tkT tb tl b = 0 ↔ tl ≤ b := by
  rw [← byt_neg hR (tl := tl) (k := b)]
  unfold tkT tk0
  by_cases h : (byt tb tl b).toInt < 0
  · rw [if_pos h]; exact ⟨fun _ => h, fun _ => rfl⟩
  · rw [if_neg h]
    refine ⟨fun z => ?_, fun z => absurd z h⟩
    (repeat' split at z) <;> cases z
theorem qS_ge {tb : Nat → Int32} {tl k : Nat} (h : tl ≤ k) : qS tb tl k = false := by
  unfold qS; rw [byt_ge h]; decide
theorem qL_ge {tb : Nat → Int32} {tl k : Nat} (h : tl ≤ k) : qL tb tl k = false := by
  unfold qL; rw [byt_ge h]; decide
theorem qD_ge {tb : Nat → Int32} {tl k : Nat} (h : tl ≤ k) : qD tb tl k = false := by
  unfold qD; rw [byt_ge h]; decide
theorem tk_1 {tb : Nat → Int32} {tl b : Nat} : tkT tb tl b = 1 ↔ qL tb tl b = true := by
  unfold tkT tk0 qL
  rw [decide_eq_true_iff]
  by_cases h : (byt tb tl b).toInt < 0
  · rw [if_pos h]
    refine ⟨fun z => (by cases z), fun z => absurd z.1 (by omega)⟩
  · rw [if_neg h]
    by_cases h2 : isL (byt tb tl b)
    · rw [if_pos h2]; exact ⟨fun _ => h2, fun _ => rfl⟩
    · rw [if_neg h2]
      refine ⟨fun z => ?_, fun z => absurd z h2⟩
      (repeat' split at z) <;> cases z
theorem tk_2 {tb : Nat → Int32} {tl b : Nat} : tkT tb tl b = 2 ↔ qD tb tl b = true := by
  unfold tkT tk0 qD
  rw [decide_eq_true_iff]
  by_cases h : (byt tb tl b).toInt < 0
  · rw [if_pos h]
    refine ⟨fun z => (by cases z), fun z => absurd z.1 (by omega)⟩
  · rw [if_neg h]
    by_cases h2 : isL (byt tb tl b)
    · rw [if_pos h2]
      refine ⟨fun z => (by cases z), fun z => absurd z.2 (by have := h2.1; omega)⟩
    · rw [if_neg h2]
      by_cases h3 : isD (byt tb tl b)
      · rw [if_pos h3]; exact ⟨fun _ => h3, fun _ => rfl⟩
      · rw [if_neg h3]
        refine ⟨fun z => ?_, fun z => absurd z h3⟩
        (repeat' split at z) <;> cases z
theorem tk_lt (tb : Nat → Int32) (tl b : Nat) : tkT tb tl b < 5 := by
  unfold tkT tk0
  (repeat' split) <;> decide
theorem en_0 {tb : Nat → Int32} {tl b : Nat} (h : tkT tb tl b = 0) : enT tb tl b = b := by unfold enT en0; rw [h]; rfl
theorem en_1 {tb : Nat → Int32} {tl b : Nat} (h : tkT tb tl b = 1) : enT tb tl b = sc (qL tb tl) tl b := by unfold enT en0; rw [h]; rfl
theorem en_2 {tb : Nat → Int32} {tl b : Nat} (h : tkT tb tl b = 2) : enT tb tl b = sc (qD tb tl) tl b := by unfold enT en0; rw [h]; rfl
theorem en_3 {tb : Nat → Int32} {tl b : Nat} (h : 3 ≤ tkT tb tl b) : enT tb tl b = b + 1 := by
  unfold enT en0
  rw [if_neg (by omega), if_neg (by omega), if_neg (by omega)]
theorem en_rng {tb : Nat → Int32} (hR : tpR tb) {tl b : Nat} (hb : b ≤ tl) : b ≤ enT tb tl b ∧ enT tb tl b ≤ tl ∧ (¬ tkT tb tl b = 0 → b < enT tb tl b) := by
  by_cases h0 : tkT tb tl b = 0
  · rw [en_0 h0]; exact ⟨Nat.le_refl _, hb, fun h => absurd h0 h⟩
  · have hl : b < tl := Nat.not_le.mp (fun z => h0 ((tk_0 hR).mpr z))
    by_cases h1 : tkT tb tl b = 1
    · rw [en_1 h1]
      refine ⟨sc_ge _ _ _, sc_le hb, fun _ => ?_⟩
      rw [sc_t hl (tk_1.mp h1)]
      exact sc_ge _ _ (b + 1)
    · by_cases h2 : tkT tb tl b = 2
      · rw [en_2 h2]
        refine ⟨sc_ge _ _ _, sc_le hb, fun _ => ?_⟩
        rw [sc_t hl (tk_2.mp h2)]
        exact sc_ge _ _ (b + 1)
      · rw [en_3 (by omega)]
        exact ⟨by omega, by omega, fun _ => by omega⟩
theorem bg_rng {tb : Nat → Int32} {tl p : Nat} (hp : p ≤ tl) : p ≤ bgT tb tl p ∧ bgT tb tl p ≤ tl := ⟨sc_ge _ _ _, sc_le hp⟩
theorem nx_rng {tb : Nat → Int32} (hR : tpR tb) {tl b : Nat} (hb : b ≤ tl) : b ≤ nxT tb tl b ∧ nxT tb tl b ≤ tl ∧ (¬ tkT tb tl b = 0 → b < nxT tb tl b) := by
  have h1 := en_rng hR hb
  have h2 := bg_rng (tb := tb) h1.2.1
  unfold nxT
  exact ⟨by omega, by omega, fun h => by have := h1.2.2 h; omega⟩
theorem cv_nat {f : Nat → Int32} {b : Nat} : ∀ k, (∀ j, j < k → isD (f (b + j))) → ∃ c, c ≤ 1000 ∧ cvN f b k = nI c
  | 0, _ => ⟨0, by omega, rfl⟩
  | k + 1, h => by
    obtain ⟨c, hc, ec⟩ := cv_nat k (fun j hj => h j (by omega))
    have hd := h k (by omega)
    obtain ⟨d, hd2, ed⟩ := (show inR (f (b + k)) 0 ((57 : Nat) : Int) from ⟨by have := hd.1; omega, hd.2⟩).nat (by omega)
    have hd3 : 48 ≤ d := by have := hd.1; rw [ed, nI_toInt (by omega)] at this; omega
    rw [cvN, ec, ed, show (10 : Int32) = nI 10 from rfl, pk_mul, nI_add, show (48 : Int32) = nI 48 from rfl, pk_sub (by omega), show (1000 : Int32) = nI 1000 from rfl, mn_nI (by omega) (by omega)]
    refine ⟨_, ?_, rfl⟩
    split <;> omega
theorem nI_inj {a b : Nat} (ha : a < 2 ^ 31) (hb : b < 2 ^ 31) (h : nI a = nI b) : a = b := (nI_eq ha hb).mp h
def rg (tl b : Nat) (x : Nat) : Prop := b ≤ x ∧ x ≤ tl
theorem nx_rg {tb : Nat → Int32} (hR : tpR tb) {tl b c : Nat} (h : rg tl b c) : rg tl b (nxT tb tl c) := by
  have := nx_rng hR h.2
  exact ⟨Nat.le_trans h.1 this.1, this.2.1⟩
theorem ptB_rg {tb : Nat → Int32} (hR : tpR tb) {tl b c : Nat} (i : Nat) (h : rg tl b c) : rg tl b (ptB tb tl c i) := by
  unfold ptB
  split
  · split
    · exact nx_rg hR (nx_rg hR h)
    · exact nx_rg hR h
  · exact h
theorem sz4_rg {tb : Nat → Int32} (hR : tpR tb) {tl b c : Nat} {S : St} {k x fa co : Int32} (h : rg tl b c) : rg tl b (sz4 tb tl S k x fa co c).2 := by
  unfold sz4
  split <;> exact ptB_rg hR _ h
theorem sz3_rg {tb : Nat → Int32} (hR : tpR tb) {tl b c : Nat} {S : St} {k x fa : Int32} (h : rg tl b c) : rg tl b (sz3 tb tl S k x fa c).2 := by
  unfold sz3
  split
  · exact sz4_rg hR (ptB_rg hR _ h)
  · exact ptB_rg hR _ h
theorem sz2_rg {tb : Nat → Int32} (hR : tpR tb) {tl b c : Nat} {S : St} {k x : Int32} (h : rg tl b c) : rg tl b (sz2 tb tl S k x c).2 := by
  unfold sz2
  split
  · exact sz3_rg hR (nx_rg hR h)
  · exact sz3_rg hR h
theorem sz1_rg {tb : Nat → Int32} (hR : tpR tb) {tl b c : Nat} {S : St} {k : Int32} (h : rg tl b c) : rg tl b (sz1 tb tl S k c).2 := by
  unfold sz1
  split
  · split
    · exact sz2_rg hR (nx_rg hR (nx_rg hR h))
    · exact nx_rg hR h
  · exact h
theorem bk1_rg {tb : Nat → Int32} (hR : tpR tb) {tl b c : Nat} {S : St} {v : Int32} (h : rg tl b c) : rg tl b (bk1 tb tl S v c).2 := by
  unfold bk1
  split
  · exact nx_rg hR (nx_rg hR h)
  · exact nx_rg hR h
theorem dr1_rg {tb : Nat → Int32} (hR : tpR tb) {tl b c : Nat} {S : St} (h : rg tl b c) : rg tl b (dr1 tb tl S c).2 := by
  unfold dr1
  split
  · exact nx_rg hR (nx_rg hR h)
  · exact nx_rg hR h
theorem lm1_rg {tb : Nat → Int32} (hR : tpR tb) {tl b c : Nat} {S : St} (h : rg tl b c) : rg tl b (lm1 tb tl S c).2 := by
  unfold lm1 lm2
  split
  · split
    · exact nx_rg hR (nx_rg hR (nx_rg hR h))
    · exact nx_rg hR (nx_rg hR h)
  · exact nx_rg hR h
theorem it1_rg {tb : Nat → Int32} (hR : tpR tb) {tl b : Nat} {S : St} (hb : b ≤ tl) : rg tl b (it1 tb tl S b).2 := by
  have h : rg tl b b := ⟨Nat.le_refl _, hb⟩
  unfold it1
  cases kdT tb tl b with
  | some k => exact sz1_rg hR h
  | none =>
    show rg tl b (ot1 tb tl S b).2
    unfold ot1
    split
    · exact bk1_rg hR h
    · split
      · exact bk1_rg hR h
      · split
        · exact dr1_rg hR h
        · split
          · exact lm1_rg hR h
          · exact h
theorem upd_upd (f : Nat → Int32) (n : Nat) (a b : Int32) : upd (upd f n a) n b = upd f n b := by
  funext j
  unfold upd
  split <;> rfl
theorem addS_Fa (S : St) (k h f c t f' : Int32) : pFa (addS S k h f c t) (upd (sFa (addS S k h f c t)) (sN S) f') = addS S k h f' c t := by
  show mkS _ _ _ _ _ _ _ _ (upd (upd (sFa S) (sN S) f) (sN S) f') _ _ _ = _
  rw [upd_upd]; rfl
theorem addS_Co (S : St) (k h f c t c' : Int32) : pCo (addS S k h f c t) (upd (sCo (addS S k h f c t)) (sN S) c') = addS S k h f c' t := by
  show mkS _ _ _ _ _ _ _ _ _ (upd (upd (sCo S) (sN S) c) (sN S) c') _ _ = _
  rw [upd_upd]; rfl
theorem addS_Ti (S : St) (k h f c t t' : Int32) : pTi (addS S k h f c t) (upd (sTi (addS S k h f c t)) (sN S) t') = addS S k h f c t' := by
  show mkS _ _ _ _ _ _ _ _ _ _ (upd (upd (sTi S) (sN S) t) (sN S) t') _ = _
  rw [upd_upd]; rfl
