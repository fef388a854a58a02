/-! the pure words of the contracts: the search -/
def prO (w s : Int32) : Nat → Int32 := sI (fun k => if hs w (nI k) = true then s else 0)
def prF (fs : Nat → Int32) (w s : Int32) : Nat → Nat → Int32
  | 0 => fs
  | k + 1 => upd (prF fs w s k) k (if hs w (nI k) = true then s else 0)
def shK (kn tr sk : Nat → Int32) : Nat → Nat → Int32
  | 0 => fillA sk 5 31
  | k + 1 => if inB (tr k) 5 = true then upd (shK kn tr sk k) (tr k).toNatClampNeg (shK kn tr sk k (tr k).toNatClampNeg &&& kn k) else shK kn tr sk k
def rcC (wa : Int32) (sk : Nat → Int32) (t : Int32) (k : Nat) : Bool := !decide (nI k = t) && (hs wa (nI k) && hs (sk t.toNatClampNeg) (nI k))
def rch (wa : Int32) (sk : Nat → Int32) (t : Int32) : Nat → Int32
  | 0 => sk t.toNatClampNeg ||| ((1 : Int32) <<< (t &&& 31))
  | k + 1 => if rcC wa sk t k = true then rch wa sk t k ||| sk k else rch wa sk t k
def rcF (fl wa : Int32) (sk : Nat → Int32) (t : Int32) : Bool := decide (fl &&& (rch wa sk t 5 ^^^ (-1)) = 0)
def kcC (fo lp v : Int32) : Bool := decide (fo = 0) || !decide (lp ≤ v)
def knC (fo fm pn mv v : Int32) : Bool := decide (fo = 0) || (decide (mv < fm) || (decide (mv = fm) && !decide (pn ≤ v)))
abbrev Acc : Type := Int32 × Int32 × Int32 × Int32 × Int32 × (Nat → Int32) × (Nat → Int32)
def paS (py tr : Nat → Int32) : Nat → Int32 := sI (fun k => if tr k = 5 then 0 else py k)
def mvS (bo tr : Nat → Int32) : Nat → Int32 := sI (fun k => if tr k = bo k then 0 else 1)
def sbS (tr : Nat → Int32) (sb : Int32) : Nat → Int32
  | 0 => sb
  | k + 1 => if tr k = 5 then sbS tr sb k ||| ((1 : Int32) <<< (nI k &&& 31)) else sbS tr sb k
def wgA (n : Nat) (py bo tr : Nat → Int32) (a : Acc) : Acc := (a.1 + 1, sbS tr a.2.1 n, (if kcC a.1 a.2.2.1 (paS py tr n) = true then paS py tr n else a.2.2.1), (if knC a.1 a.2.2.2.1 a.2.2.2.2.1 (mvS bo tr n) (paS py tr n) = true then mvS bo tr n else a.2.2.2.1), (if knC a.1 a.2.2.2.1 a.2.2.2.2.1 (mvS bo tr n) (paS py tr n) = true then paS py tr n else a.2.2.2.2.1), (if kcC a.1 a.2.2.1 (paS py tr n) = true then va_cpy tr a.2.2.2.2.2.1 0 0 6 else a.2.2.2.2.2.1), (if knC a.1 a.2.2.2.1 a.2.2.2.2.1 (mvS bo tr n) (paS py tr n) = true then va_cpy tr a.2.2.2.2.2.2 0 0 6 else a.2.2.2.2.2.2))
def alR (fl wa : Int32) (sk : Nat → Int32) : Nat → Bool
  | 0 => true
  | k + 1 => alR fl wa sk k && (!hs wa (nI k) || rcF fl wa sk (nI k))
def wwA (n : Nat) (kn py bo : Nat → Int32) (fl wa : Int32) (sk tr : Nat → Int32) (a : Acc) : Acc := if alR fl wa (shK kn tr sk n) 5 = true then wgA n py bo tr a else a
theorem alR_step {fl wa : Int32} {sk : Nat → Int32} {k : Nat} (h : alR fl wa sk (k + 1) = false) : ∀ j, k < j → alR fl wa sk j = false := by
  intro j hj
  induction j with
  | zero => omega
  | succ j ih =>
    by_cases e : j = k
    · subst e; exact h
    · simp [alR, ih (by omega)]
def wwB (n : Nat) (kn py bo : Nat → Int32) (fl wa : Int32) (sk tr : Nat → Int32) (a : Acc) : Int32 × Int32 × Int32 × Int32 × Int32 × (Nat → Int32) × (Nat → Int32) × (Nat → Int32) := ((wwA n kn py bo fl wa sk tr a).1, (wwA n kn py bo fl wa sk tr a).2.1, (wwA n kn py bo fl wa sk tr a).2.2.1, (wwA n kn py bo fl wa sk tr a).2.2.2.1, (wwA n kn py bo fl wa sk tr a).2.2.2.2.1, shK kn tr sk n, (wwA n kn py bo fl wa sk tr a).2.2.2.2.2.1, (wwA n kn py bo fl wa sk tr a).2.2.2.2.2.2)
/-- os fo sb lp fm pn tr fs sk ct nt -/
abbrev PS : Type := Int32 × Int32 × Int32 × Int32 × Int32 × Int32 × (Nat → Int32) × (Nat → Int32) × (Nat → Int32) × (Nat → Int32) × (Nat → Int32)
def pTr (x : PS) : Nat → Int32 := x.2.2.2.2.2.2.1
def pFs (x : PS) : Nat → Int32 := x.2.2.2.2.2.2.2.1
def pSk (x : PS) : Nat → Int32 := x.2.2.2.2.2.2.2.2.1
def pAc (x : PS) : Acc := (x.2.1, x.2.2.1, x.2.2.2.1, x.2.2.2.2.1, x.2.2.2.2.2.1, x.2.2.2.2.2.2.2.2.2.1, x.2.2.2.2.2.2.2.2.2.2)
def mkP (os : Int32) (a : Acc) (tr fs sk : Nat → Int32) : PS := (os, a.1, a.2.1, a.2.2.1, a.2.2.2.1, a.2.2.2.2.1, tr, fs, sk, a.2.2.2.2.2.1, a.2.2.2.2.2.2)
def wwP (n : Nat) (kn py bo : Nat → Int32) (fl wa : Int32) (x : PS) : PS := mkP x.1 (wwA n kn py bo fl wa (pSk x) (pTr x) (pAc x)) (pTr x) (pFs x) (shK kn (pTr x) (pSk x) n)
def pinG (g : PS → PS) (can : Bool) (k : Nat) (t : Int32) (x : PS) : PS := if (decide (pFs x t.toNatClampNeg = 0) || !can) = true then x else
  (fun y : PS => mkP (y.1 + 1) (pAc y) (pTr y) (upd (pFs y) t.toNatClampNeg (pFs y t.toNatClampNeg + 1)) (pSk y)) (g (mkP (x.1 - 1) (pAc x) (upd (pTr x) k t) (upd (pFs x) t.toNatClampNeg (pFs x t.toNatClampNeg - 1)) (pSk x)))
def l5 (f : Nat → PS → PS) : Nat → PS → PS
  | 0, x => x
  | t + 1, x => f t (l5 f t x)
def setT (k : Nat) (x : PS) : PS := mkP x.1 (pAc x) (upd (pTr x) k 5) (pFs x) (pSk x)
def pf (n : Nat) (il : Int32) (kn sp py bo : Nat → Int32) (fl wa : Int32) : Nat → Nat → PS → PS
  | 0, k, x => if x.1 ≤ nI n - nI k then wwP n kn py bo fl wa x else x
  | d + 1, k, x => if x.1 ≤ nI n - nI k then pf n il kn sp py bo fl wa d (k + 1) (setT k (l5 (fun t => pinG (pf n il kn sp py bo fl wa d (k + 1)) (canT n il sp (nI k) (nI t)) k (nI t)) 5 x)) else x
def piF (n : Nat) (il : Int32) (kn sp py bo : Nat → Int32) (fl wa : Int32) (d k : Nat) (t : Int32) (x : PS) : PS := pinG (pf n il kn sp py bo fl wa (d - 1) (k + 1)) (canT n il sp (nI k) t) k t x
abbrev rF (d : Nat) : Room := { frames := 8 * d + 20, cells := 0, slots := 0, locals := 200 * d + 600 }
