/-! ===== WHAT EACH CALL ANSWERS: in the state's words (both sides are held against these) ===== -/
def hGet (S : St) (w : Int32) (k : Nat) : Int32 := if w.toInt = 0 then sLa S k else if w.toInt = 1 then sBo S k else sRe S k
def hSet (S : St) (w : Int32) (k : Nat) (v : Int32) : St := if w.toInt = 0 then pLa S (upd (sLa S) k v) else if w.toInt = 1 then pBo S (upd (sBo S) k v) else pRe S (upd (sRe S) k v)
def pGet (S : St) (w : Int32) (k : Nat) : Int32 := if w.toInt = 1 then sAt S k else if w.toInt = 2 then sFa S k else if w.toInt = 3 then sCo S k else if w.toInt = 4 then sTi S k else sGo S k
def pSet (S : St) (w : Int32) (k : Nat) (v : Int32) : St := if w.toInt = 1 then pAt S (upd (sAt S) k v) else if w.toInt = 2 then pFa S (upd (sFa S) k v) else if w.toInt = 3 then pCo S (upd (sCo S) k v) else if w.toInt = 4 then pTi S (upd (sTi S) k v) else pGo S (upd (sGo S) k v)
def fdI (c : Prop) [Decidable c] (fn : Nat → Int32) (k : Nat) : Nat → Int32 := if c then fn else fdn fn k
abbrev C0 (h w v : Int32) : Prop := inR h 0 11 ∧ inR w 0 2 ∧ inR v 0 (moH w).toInt
def r_0 (S : St) (h w v : Int32) : Int32 := if C0 h w v then hGet S w h.toNatClampNeg else -1000000001
def s_0 (S : St) (h w v : Int32) : St := if C0 h w v then hSet S w h.toNatClampNeg v else S
abbrev C1 (h w : Int32) : Prop := inR h 0 11 ∧ inR w 0 3
def r_1 (S : St) (h w : Int32) : Int32 := if C1 h w then (if w.toInt = 3 then whoAt S h else hGet S w h.toNatClampNeg) else -1000000001
def r_2 (S : St) (v : Int32) : Int32 := if inR v 0 9 then sDr S else -1000000001
def s_2 (S : St) (v : Int32) : St := if inR v 0 9 then pDr S v else S
def r_3 (S : St) (w : Int32) : Int32 := if w.toInt = 0 then sMi S else if w.toInt = 1 then sDr S else if w.toInt = 2 then burning S else if w.toInt = 3 then openB S else if w.toInt = 4 then dueN S else if w.toInt = 5 then coldAll S else if w.toInt = 6 then readAll S else -1000000001
abbrev C4 (k h : Int32) : Prop := inR k 0 5 ∧ inR h 0 11
def r_4 (S : St) (k h : Int32) : Int32 := if C4 k h then (if sN S < 8 then nI (sN S) else -1000000002) else -1000000001
def s_4 (S : St) (k h : Int32) : St := if C4 k h ∧ sN S < 8 then addS S k h 1 20 0 else S
def f_4 (S : St) (fn : Nat → Int32) (k h : Int32) : Nat → Int32 := if C4 k h then (if sN S < 8 then fn else fdn fn 1) else fdn fn 0
abbrev isP (S : St) (p : Int32) : Prop := inR p 0 ((sN S : Int) - 1)
def ofG (S : St) (w : Int32) (i : Nat) : Int32 := if w.toInt = 0 then sKi S i else if w.toInt = 1 then sAt S i else if w.toInt = 2 then sFa S i else if w.toInt = 3 then sCo S i else if w.toInt = 4 then sTi S i else if w.toInt = 5 then sGo S i else if w.toInt = 6 then tkl S i else if w.toInt = 7 then hld S i else if w.toInt = 8 then blw S i else hea S i
abbrev C5 (S : St) (p w : Int32) : Prop := isP S p ∧ inR w 0 9
def r_5 (S : St) (p w : Int32) : Int32 := if C5 S p w then ofG S w p.toNatClampNeg else -1000000001
abbrev C6 (S : St) (p w v : Int32) : Prop := isP S p ∧ inR w 1 5 ∧ inR v 0 (moS w).toInt
def r_6 (S : St) (p w v : Int32) : Int32 := if C6 S p w v then pGet S w p.toNatClampNeg else -1000000001
def s_6 (S : St) (p w v : Int32) : St := if C6 S p w v then pSet S w p.toNatClampNeg v else S
abbrev C7 (S : St) (p k : Int32) : Prop := isP S p ∧ inR k 0 5
def r_7 (S : St) (p k : Int32) : Int32 := if C7 S p k then sKi S p.toNatClampNeg else -1000000001
def s_7 (S : St) (p k : Int32) : St := if C7 S p k then pKi S (upd (sKi S) p.toNatClampNeg k) else S
def r_8 (S : St) (p k : Int32) : Int32 := if C7 S p k then (if undK (sKi S p.toNatClampNeg) k then sCo S p.toNatClampNeg else -1000000003) else -1000000001
def f_8 (S : St) (fn : Nat → Int32) (p k : Int32) : Nat → Int32 := if C7 S p k then (if undK (sKi S p.toNatClampNeg) k then fn else fdn fn 2) else fdn fn 0
abbrev C9 (S : St) (n : Int32) : Prop := (sMi S).toInt + n.toInt ≤ 99999
def r_9 (S : St) (n : Int32) : Int32 := if inR n 1 100 then (if C9 S n then burning (minN S n.toNatClampNeg) else -1000000005) else -1000000001
def s_9 (S : St) (n : Int32) : St := if inR n 1 100 ∧ C9 S n then minN S n.toNatClampNeg else S
def f_9 (S : St) (fn : Nat → Int32) (n : Int32) : Nat → Int32 := if inR n 1 100 then (if C9 S n then fn else fdn fn 4) else fdn fn 0
abbrev C10 (S : St) (p n w : Int32) : Prop := isP S p ∧ inR n 0 200 ∧ inR w 0 2
def r_10 (S : St) (p n w : Int32) : Int32 := if C10 S p n w then (if w.toInt = 0 then sCo (minN S n.toNatClampNeg) p.toNatClampNeg else if w.toInt = 1 then sTi (minN S n.toNatClampNeg) p.toNatClampNeg else sGo (minN S n.toNatClampNeg) p.toNatClampNeg) else -1000000001
abbrev C11 (h n w : Int32) : Prop := inR h 0 11 ∧ inR n 0 200 ∧ inR w 0 1
def r_11 (S : St) (h n w : Int32) : Int32 := if C11 h n w then (if w.toInt = 0 then sLa (minN S n.toNatClampNeg) h.toNatClampNeg else sRe (minN S n.toNatClampNeg) h.toNatClampNeg) else -1000000001
def r_34 (S : St) (tl : Nat) (w : Int32) : Int32 := if w.toInt = 0 then nI (sN S) else if w.toInt = 1 then nI tl else if w.toInt = 2 then lampsN S else if w.toInt = 3 then goneAll S else -1000000001
def r_35 (fn : Nat → Int32) (w : Int32) : Int32 := if inR w (-1) 6 then (if w.toInt < 0 then sumN fn 7 else fn w.toNatClampNeg) else -1000000001
theorem isP.nat {S : St} {p : Int32} (h : isP S p) (hn : sN S ≤ 8) : ∃ i : Nat, i < sN S ∧ p = nI i := by
  obtain ⟨j, hj, e⟩ := (show inR p 0 ((7 : Nat) : Int) from ⟨h.1, by have := h.2; omega⟩).nat (by omega)
  refine ⟨j, ?_, e⟩
  have := h.2
  rw [e, nI_toInt (by omega)] at this
  omega
