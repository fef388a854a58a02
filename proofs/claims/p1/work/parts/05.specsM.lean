/-! the pure words of the contracts: the class's own -/
def bt1 (x : Int32) : Int32 := x - (((x.toUInt32 >>> ((1 : Int32).toUInt32 &&& Int32.toUInt32 31)).toInt32) &&& 1431655765)
def bt2 (x : Int32) : Int32 := (x &&& 858993459) + (((x.toUInt32 >>> ((2 : Int32).toUInt32 &&& Int32.toUInt32 31)).toInt32) &&& 858993459)
def bt3 (x : Int32) : Int32 := (x + ((x.toUInt32 >>> ((4 : Int32).toUInt32 &&& Int32.toUInt32 31)).toInt32)) &&& 252645135
def bt4 (x : Int32) : Int32 := x + ((x.toUInt32 >>> ((8 : Int32).toUInt32 &&& Int32.toUInt32 31)).toInt32)
def bt5 (x : Int32) : Int32 := x + ((x.toUInt32 >>> ((16 : Int32).toUInt32 &&& Int32.toUInt32 31)).toInt32)
def btC (x : Int32) : Int32 := bt5 (bt4 (bt3 (bt2 (bt1 x)))) &&& 63
/-- os fl wa fo sb lp fm pn tr fs sk ct nt -/
abbrev SS : Type := Int32 × Int32 × Int32 × Int32 × Int32 × Int32 × Int32 × Int32 × (Nat → Int32) × (Nat → Int32) × (Nat → Int32) × (Nat → Int32) × (Nat → Int32)
def ssO (f w : Int32) (y : PS) : SS := (y.1, f, w, y.2.1, y.2.2.1, y.2.2.2.1, y.2.2.2.2.1, y.2.2.2.2.2.1, y.2.2.2.2.2.2.1, y.2.2.2.2.2.2.2.1, y.2.2.2.2.2.2.2.2.1, y.2.2.2.2.2.2.2.2.2.1, y.2.2.2.2.2.2.2.2.2.2)
def stG (n : Nat) (il : Int32) (kn sp py bo : Nat → Int32) (f w se : Int32) (x : SS) : PS := pf n il kn sp py bo f w n 0 (prO w se 5, 0, 0, -1, -1, -1, x.2.2.2.2.2.2.2.2.1, prF x.2.2.2.2.2.2.2.2.2.1 w se 5, x.2.2.2.2.2.2.2.2.2.2.1, x.2.2.2.2.2.2.2.2.2.2.2.1, x.2.2.2.2.2.2.2.2.2.2.2.2)
def stF (n : Nat) (il : Int32) (kn sp py bo fO wI : Nat → Int32) (se a : Int32) (x : SS) : SS := if inB a 2 = true then ssO (fO a.toNatClampNeg) (wI a.toNatClampNeg) (stG n il kn sp py bo (fO a.toNatClampNeg) (wI a.toNatClampNeg) se x) else x
def pOk (k s v : Int32) : Bool := decide (k &&& (-32) = 0) && (decide (s &&& (-32) = 0) && (decide (s &&& (k ^^^ (-1)) = 0) && (!decide (v < 1) && decide (v ≤ 99))))
def tkR (a1 a2 : Int32) (y : SS) : Int32 := if inB a1 2 = true then (if (a2 = 0 ∨ a2 = 1) then (if y.2.2.2.1 = 0 then -4 else if a2 = 0 then y.2.2.2.2.2.1 else y.2.2.2.2.2.2.2.1) else -3) else -2
def tkF (a1 a2 : Int32) (y x : SS) (bo : Nat → Int32) : Int32 × Int32 × Int32 × Int32 × Int32 × Int32 × Int32 × Int32 × (Nat → Int32) × (Nat → Int32) × (Nat → Int32) × (Nat → Int32) × (Nat → Int32) × (Nat → Int32) :=
  if (inB a1 2 = true ∧ (a2 = 0 ∨ a2 = 1)) then (y.1, y.2.1, y.2.2.1, y.2.2.2.1, y.2.2.2.2.1, y.2.2.2.2.2.1, y.2.2.2.2.2.2.1, y.2.2.2.2.2.2.2.1, y.2.2.2.2.2.2.2.2.1, y.2.2.2.2.2.2.2.2.2.1, y.2.2.2.2.2.2.2.2.2.2.1, y.2.2.2.2.2.2.2.2.2.2.2.1, y.2.2.2.2.2.2.2.2.2.2.2.2, (if y.2.2.2.1 = 0 then bo else if a2 = 0 then va_cpy y.2.2.2.2.2.2.2.2.2.2.2.1 bo 0 0 6 else va_cpy y.2.2.2.2.2.2.2.2.2.2.2.2 bo 0 0 6))
  else (x.1, x.2.1, x.2.2.1, x.2.2.2.1, x.2.2.2.2.1, x.2.2.2.2.2.1, x.2.2.2.2.2.2.1, x.2.2.2.2.2.2.2.1, x.2.2.2.2.2.2.2.2.1, x.2.2.2.2.2.2.2.2.2.1, x.2.2.2.2.2.2.2.2.2.2.1, x.2.2.2.2.2.2.2.2.2.2.2.1, x.2.2.2.2.2.2.2.2.2.2.2.2, bo)
def lcF (n : Nat) (il : Int32) (sp : Nat → Int32) (w se : Int32) : Nat → Int32
  | 0 => 0
  | k + 1 => if (hs w (nI k) && !decide (se ≤ sI (fun j => bI (canT n il sp (nI j) (nI k))) n)) = true then lcF n il sp w se k ||| ((1 : Int32) <<< (nI k &&& 31)) else lcF n il sp w se k
def coR (n : Nat) (il : Int32) (bo so : Nat → Int32) (se a : Int32) : Int32 := if a = 0 then nI n else if a = 1 then btC il else if a = 2 then sI (fun k => bI (!decide (bo k = 5))) n else if a = 3 then sI (fun k => bI (!decide (so k = -1))) 16 else if a = 4 then se else -3
