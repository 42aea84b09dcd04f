/-! ===== THE STATE in numbers: a street ===== -/
abbrev St : Type := Int32 × Int32 × (Nat → Int32) × (Nat → Int32) × (Nat → Int32) × Nat × (Nat → Int32) × (Nat → Int32) × (Nat → Int32) × (Nat → Int32) × (Nat → Int32) × (Nat → Int32)
def sMi (s : St) : Int32 := s.1
def sDr (s : St) : Int32 := s.2.1
def sLa (s : St) : Nat → Int32 := s.2.2.1
def sBo (s : St) : Nat → Int32 := s.2.2.2.1
def sRe (s : St) : Nat → Int32 := s.2.2.2.2.1
def sN (s : St) : Nat := s.2.2.2.2.2.1
def sKi (s : St) : Nat → Int32 := s.2.2.2.2.2.2.1
def sAt (s : St) : Nat → Int32 := s.2.2.2.2.2.2.2.1
def sFa (s : St) : Nat → Int32 := s.2.2.2.2.2.2.2.2.1
def sCo (s : St) : Nat → Int32 := s.2.2.2.2.2.2.2.2.2.1
def sTi (s : St) : Nat → Int32 := s.2.2.2.2.2.2.2.2.2.2.1
def sGo (s : St) : Nat → Int32 := s.2.2.2.2.2.2.2.2.2.2.2
def mkS (mi dr : Int32) (la bo re : Nat → Int32) (n : Nat) (ki hh fa co ti go : Nat → Int32) : St := (mi, dr, la, bo, re, n, ki, hh, fa, co, ti, go)
def pMi (s : St) (v : Int32) : St := mkS v (sDr s) (sLa s) (sBo s) (sRe s) (sN s) (sKi s) (sAt s) (sFa s) (sCo s) (sTi s) (sGo s)
def pDr (s : St) (v : Int32) : St := mkS (sMi s) v (sLa s) (sBo s) (sRe s) (sN s) (sKi s) (sAt s) (sFa s) (sCo s) (sTi s) (sGo s)
def pLa (s : St) (v : Nat → Int32) : St := mkS (sMi s) (sDr s) v (sBo s) (sRe s) (sN s) (sKi s) (sAt s) (sFa s) (sCo s) (sTi s) (sGo s)
def pBo (s : St) (v : Nat → Int32) : St := mkS (sMi s) (sDr s) (sLa s) v (sRe s) (sN s) (sKi s) (sAt s) (sFa s) (sCo s) (sTi s) (sGo s)
def pRe (s : St) (v : Nat → Int32) : St := mkS (sMi s) (sDr s) (sLa s) (sBo s) v (sN s) (sKi s) (sAt s) (sFa s) (sCo s) (sTi s) (sGo s)
def pN (s : St) (v : Nat) : St := mkS (sMi s) (sDr s) (sLa s) (sBo s) (sRe s) v (sKi s) (sAt s) (sFa s) (sCo s) (sTi s) (sGo s)
def pKi (s : St) (v : Nat → Int32) : St := mkS (sMi s) (sDr s) (sLa s) (sBo s) (sRe s) (sN s) v (sAt s) (sFa s) (sCo s) (sTi s) (sGo s)
def pAt (s : St) (v : Nat → Int32) : St := mkS (sMi s) (sDr s) (sLa s) (sBo s) (sRe s) (sN s) (sKi s) v (sFa s) (sCo s) (sTi s) (sGo s)
def pFa (s : St) (v : Nat → Int32) : St := mkS (sMi s) (sDr s) (sLa s) (sBo s) (sRe s) (sN s) (sKi s) (sAt s) v (sCo s) (sTi s) (sGo s)
def pCo (s : St) (v : Nat → Int32) : St := mkS (sMi s) (sDr s) (sLa s) (sBo s) (sRe s) (sN s) (sKi s) (sAt s) (sFa s) v (sTi s) (sGo s)
def pTi (s : St) (v : Nat → Int32) : St := mkS (sMi s) (sDr s) (sLa s) (sBo s) (sRe s) (sN s) (sKi s) (sAt s) (sFa s) (sCo s) v (sGo s)
def pGo (s : St) (v : Nat → Int32) : St := mkS (sMi s) (sDr s) (sLa s) (sBo s) (sRe s) (sN s) (sKi s) (sAt s) (sFa s) (sCo s) (sTi s) v
/-- the cells of a Street -/
def stW (s : St) (we : Int32) : PW := [.inr (1, [.int (sMi s), .int (sDr s), .ref 1, .ref 2, .ref 3, .int (nI (sN s)), .ref 4, .ref 5, .ref 6, .ref 7, .ref 8, .ref 9, .int we]), .inl (12, .inl (sLa s)), .inl (12, .inl (sBo s)), .inl (12, .inl (sRe s)), .inl (8, .inl (sKi s)), .inl (8, .inl (sAt s)), .inl (8, .inl (sFa s)), .inl (8, .inl (sCo s)), .inl (8, .inl (sTi s)), .inl (8, .inl (sGo s))]
/-! what the promises compute -/
def bitsN (p : Nat → Bool) : Nat → Int32
  | 0 => 0
  | n + 1 => if p n = true then bitsN p n ||| ((1 : Int32) <<< (nI n &&& 31)) else bitsN p n
def cntN (p : Nat → Bool) : Nat → Int32
  | 0 => 0
  | n + 1 => if p n = true then cntN p n + 1 else cntN p n
def sumN (f : Nat → Int32) : Nat → Int32
  | 0 => 0
  | n + 1 => sumN f n + f n
def mx (x y : Int32) : Int32 := if x < y then y else x
def mn (x y : Int32) : Int32 := if y < x then y else x
def kSel (k s b c d bi ba : Int32) : Int32 := if k.toInt = 1 then b else if k.toInt = 2 then c else if k.toInt = 3 then d else if k.toInt = 4 then bi else if k.toInt = 5 then ba else s
def fBur (s : St) (h : Nat) : Bool := decide (0 < sLa s h)
def fOpn (s : St) (h : Nat) : Bool := decide (sBo s h = 1)
def lampsN (s : St) : Int32 := cntN (fBur s) 12
def burning (s : St) : Int32 := bitsN (fBur s) 12
def openB (s : St) : Int32 := bitsN (fOpn s) 12
def whoAt (s : St) (h : Int32) : Int32 := bitsN (fun i => decide (sAt s i = h)) (sN s)
def readAll (s : St) : Int32 := sumN (sRe s) 12
def coldAll (s : St) : Int32 := sumN (sCo s) (sN s)
def goneAll (s : St) : Int32 := sumN (sGo s) (sN s)
def plainT (s : St) (i : Nat) : Int32 := mx 0 (sCo s i / 4 - sDr s)
def tkl (s : St) (i : Nat) : Int32 := kSel (sKi s i) (plainT s i) (plainT s i / 2) (plainT s i + 3) 0 (plainT s i / 2 + 1) (if 0 < sLa s (sAt s i).toNatClampNeg then 2 * (plainT s i + 3) else plainT s i + 3)
def hld (s : St) (i : Nat) : Int32 := kSel (sKi s i) 30 90 20 99 (90 - 5 * lampsN s) 20
def blw (s : St) (i : Nat) : Int32 := kSel (sKi s i) (1 + sCo s i / 25) (2 * (1 + sCo s i / 25)) 1 0 (2 * (1 + sCo s i / 25) + 1) (1 + sCo s i / 50)
def hea (s : St) (i : Nat) : Int32 := kSel (sKi s i) 1 0 2 9 (sDr s / 3) 1
def fDue (s : St) (i : Nat) : Bool := decide (hld s i ≤ sTi s i)
def dueN (s : St) : Int32 := bitsN (fDue s) (sN s)
def burn1 (s : St) (h : Nat) : St := if 0 < sLa s h then pLa (pRe s (upd (sRe s) h (mn 9999 (sRe s h + 1)))) (upd (sLa s) h (sLa s h - 1)) else s
def burnN (s : St) : Nat → St
  | 0 => s
  | k + 1 => burn1 (burnN s k) k
def tick1 (s : St) (i : Nat) : St := pTi s (upd (sTi s) i (mn 99 (sTi s i + tkl s i)))
def tickN (s : St) : Nat → St
  | 0 => s
  | k + 1 => tick1 (tickN s k) k
def lgt1 (s : St) (h light : Int32) : St := if inR h 0 11 ∧ sBo s h.toNatClampNeg = 1 then pLa s (upd (sLa s) h.toNatClampNeg (mx (sLa s h.toNatClampNeg) light)) else s
def lgtN (s : St) (a st light : Int32) : Nat → St
  | 0 => s
  | b + 1 => lgt1 (lgtN s a st light b) (a + nI (b + 1) * st) light
def stepF (s : St) (i : Nat) : Int32 := if sFa s i = 1 then 1 else -1
def lights (s : St) (i : Nat) : St := lgtN s (sAt s i) (stepF s i) (5 + sCo s i / 10) (blw s i).toNatClampNeg
abbrev near (s : St) (i j : Nat) : Prop := ¬ j = i ∧ ¬ (sKi s j).toInt = 3 ∧ -1 ≤ (sAt s j).toInt - (sAt s i).toInt ∧ (sAt s j).toInt - (sAt s i).toInt ≤ 1
def giv1 (s : St) (i j : Nat) : St := if near s i j then pCo s (upd (sCo s) j (mn 99 (sCo s j + 6))) else s
def givN (s : St) (i : Nat) : Nat → St
  | 0 => s
  | j + 1 => giv1 (givN s i j) i j
def off1 (s : St) (i : Nat) : St := pGo (pTi s (upd (sTi s) i 0)) (upd (sGo s) i (mn 9999 (sGo s i + 1)))
def goesOff (s : St) (i : Nat) : St := givN (lights (off1 s i) i) i (sN s)
def offN (s : St) (due : Int32) : Nat → St
  | 0 => s
  | i + 1 => if bitK due (nI i) then goesOff (offN s due i) i else offN s due i
def heal1 (s : St) (i : Nat) : St := pCo s (upd (sCo s) i (mx 0 (sCo s i - hea s i)))
def healN (s : St) : Nat → St
  | 0 => s
  | k + 1 => heal1 (healN s k) k
def ticked (s : St) : St := tickN (burnN s 12) (sN s)
def mdue (s : St) : Int32 := dueN (ticked s)
def coreM (s : St) : St := healN (offN (ticked s) (mdue s) (sN s)) (sN s)
def minute (s : St) : St := pMi (coreM s) (sMi (coreM s) + 1)
def minN (s : St) : Nat → St
  | 0 => s
  | k + 1 => minute (minN s k)
def Inv (s : St) : Prop := sN s ≤ 8 ∧ inR (sDr s) 0 9 ∧ (∀ h, inR (sLa s h) 0 99 ∧ inR (sBo s h) 0 1 ∧ inR (sRe s h) 0 9999) ∧ ∀ i, inR (sKi s i) 0 5 ∧ inR (sAt s i) 0 11 ∧ inR (sFa s i) 0 1 ∧ inR (sCo s i) 0 99 ∧ inR (sTi s i) 0 99 ∧ inR (sGo s i) 0 9999
theorem Inv.n {s : St} (h : Inv s) : sN s ≤ 8 := h.1
theorem Inv.dr {s : St} (h : Inv s) : inR (sDr s) 0 9 := h.2.1
theorem Inv.la {s : St} (h : Inv s) (k : Nat) : inR (sLa s k) 0 99 := (h.2.2.1 k).1
theorem Inv.bo {s : St} (h : Inv s) (k : Nat) : inR (sBo s k) 0 1 := (h.2.2.1 k).2.1
theorem Inv.re {s : St} (h : Inv s) (k : Nat) : inR (sRe s k) 0 9999 := (h.2.2.1 k).2.2
theorem Inv.ki {s : St} (h : Inv s) (k : Nat) : inR (sKi s k) 0 5 := (h.2.2.2 k).1
theorem Inv.at {s : St} (h : Inv s) (k : Nat) : inR (sAt s k) 0 11 := (h.2.2.2 k).2.1
theorem Inv.fa {s : St} (h : Inv s) (k : Nat) : inR (sFa s k) 0 1 := (h.2.2.2 k).2.2.1
theorem Inv.co {s : St} (h : Inv s) (k : Nat) : inR (sCo s k) 0 99 := (h.2.2.2 k).2.2.2.1
theorem Inv.ti {s : St} (h : Inv s) (k : Nat) : inR (sTi s k) 0 99 := (h.2.2.2 k).2.2.2.2.1
theorem Inv.go {s : St} (h : Inv s) (k : Nat) : inR (sGo s k) 0 9999 := (h.2.2.2 k).2.2.2.2.2
/-- a number in a range is a small one -/
theorem inR.nat {v : Int32} {m : Nat} (h : inR v 0 m) (hm : m < 2147483647) : ∃ j : Nat, j ≤ m ∧ v = nI j := by
  refine ⟨v.toInt.toNat, by have := h.2; omega, ?_⟩
  rw [i_eq, nI_toInt (by have := h.2; omega)]
  have := h.1
  omega
theorem inR_nI {j m : Nat} (h : j ≤ m) (hm : m < 2147483647) : inR (nI j) 0 m := by
  unfold inR
  rw [nI_toInt (by omega)]
  omega
theorem upd_all {P : Int32 → Prop} {f : Nat → Int32} {k : Nat} {x : Int32} (hf : ∀ j, P (f j)) (hx : P x) : ∀ j, P (upd f k x j) := by
  intro j
  unfold upd
  split
  · exact hx
  · exact hf j
