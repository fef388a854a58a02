/-! the pure words of the contracts: the day -/
def silF (so : Nat → Int32) (h : Int32) : Bool := !inB h 16 || decide (so h.toNatClampNeg = -1)
def frF (n : Nat) (ti : Nat → Int32) (a b : Int32) : Bool := !inB b (nI n) || !decide (ti b.toNatClampNeg ≤ ti a.toNatClampNeg)
def chO (n : Nat) (bo ti on : Nat → Int32) : Nat → Nat → Int32
  | 0 => fillA on 5 (-1)
  | k + 1 => if (inB (bo k) 5 && frF n ti (nI k) (chO n bo ti on k (bo k).toNatClampNeg)) = true then upd (chO n bo ti on k) (bo k).toNatClampNeg (nI k) else chO n bo ti on k
def wyC (n : Nat) (kn on : Nat → Int32) (f t kt : Int32) (r : Nat) : Bool := !decide (nI r = f) && (!decide (nI r = t) && (hs kt (nI r) && hs (atP n kn 0 (on r)) f))
def wyL (c : Nat → Bool) : Nat → Nat → Int32
  | 0, _ => -1
  | d + 1, r => if c r = true then nI r else wyL c d (r + 1)
def wyF (n : Nat) (kn on : Nat → Int32) (f t : Int32) : Int32 := if f = -1 then -1 else if f = t then -1 else if on t.toNatClampNeg = -1 then -1 else if hs (atP n kn 0 (on t.toNatClampNeg)) f = true then t else wyL (wyC n kn on f t (atP n kn 0 (on t.toNatClampNeg))) 5 0
def tuF (n : Nat) (bo on he : Nat → Int32) (v : Int32) : Bool := inB (atP n bo 5 v) 5 && (decide (on (atP n bo 5 v).toNatClampNeg = v) && !decide (he (atP n bo 5 v).toNatClampNeg = -1))
def tiF (n : Nat) (bo on he : Nat → Int32) (w : Int32) (ti : Nat → Int32) : Nat → Nat → Int32
  | 0 => ti
  | k + 1 => upd (tiF n bo on he w ti k) k (if tuF n bo on he (nI k) = true then tiF n bo on he w ti k k + w else (if (0 : Int32) < tiF n bo on he w ti k k - 2 then tiF n bo on he w ti k k - 2 else 0))
def laF (sd he : Nat → Int32) (h t : Int32) : Int32 := if (inB h 16 && inB t 5) = true then (if he t.toNatClampNeg = -1 then 0 else if he t.toNatClampNeg = t then (if sd h.toNatClampNeg ≤ 5 then 1 else 2) else 2 * (if sd h.toNatClampNeg ≤ 5 then 1 else 2) + 1) else 0
def taF (ti : Nat → Int32) (a : Int32) : Nat → Int32
  | 0 => 0
  | k + 1 => if ti k ≤ a then taF ti a k else taF ti a k ||| ((1 : Int32) <<< (nI k &&& 31))
abbrev DS : Type := (Nat → Int32) × (Nat → Int32) × (Nat → Int32)
def heF (n : Nat) (kn on : Nat → Int32) (f : Int32) (he : Nat → Int32) : Nat → Nat → Int32
  | 0 => he
  | k + 1 => upd (heF n kn on f he k) k (wyF n kn on f (nI k))
def plG (n : Nat) (kn bo : Nat → Int32) (f w : Int32) (x : DS) : DS := (tiF n bo (chO n bo x.1 x.2.1 n) (heF n kn (chO n bo x.1 x.2.1 n) f x.2.2 5) w x.1 n, chO n bo x.1 x.2.1 n, heF n kn (chO n bo x.1 x.2.1 n) f x.2.2 5)
def plH (n : Nat) (kn bo so sd : Nat → Int32) (h : Int32) (x : DS) : DS := if inB h 16 = true then plG n kn bo (so h.toNatClampNeg) (sd h.toNatClampNeg) x else x
def plT (n : Nat) (kn bo so sd : Nat → Int32) (x : DS) : Nat → DS
  | 0 => (fillA x.1 6 0, x.2.1, x.2.2)
  | k + 1 => plH n kn bo so sd (nI k) (plT n kn bo so sd x k)
def laO (n : Nat) (kn bo so sd : Nat → Int32) (x : DS) (t : Int32) : Nat → Int32
  | 0 => 0
  | k + 1 => laO n kn bo so sd x t k + laF sd (plT n kn bo so sd x (k + 1)).2.2 (nI k) t
def woO (n : Nat) (kn bo so sd : Nat → Int32) (x : DS) (a : Int32) : Nat → Int32
  | 0 => 0
  | k + 1 => woO n kn bo so sd x a k ||| taF (plT n kn bo so sd x (k + 1)).1 a n
