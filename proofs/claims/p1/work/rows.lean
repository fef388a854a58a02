section
/-! pure words -/
def bI (b : Bool) : Int32 := if b = true then 1 else 0
def hs (x k : Int32) : Bool := decide ((x >>> (k &&& 31)) &&& 1 = 1)
def inN (v : Int32) (n : Nat) : Bool := decide (0 ≤ v) && decide (v < nI n)
def sI (f : Nat → Int32) : Nat → Int32
  | 0 => 0
  | k + 1 => sI f k + f k
theorem bI_nar (b : Bool) : narrow .boolean (.int (bI b)) = .int (bI b) := by cases b <;> rfl
theorem bI_t : bI true = 1 := rfl
theorem bI_f : bI false = 0 := rfl
theorem bI_0 (b : Bool) : bI b = 0 ↔ b = false := by cases b <;> decide
theorem bI_1 (b : Bool) : bI b = 1 ↔ b = true := by cases b <;> decide
/-! the pure words of the contracts: people -/
def inB (v m : Int32) : Bool := !decide (v < 0) && !decide (m ≤ v)
def fillA (f : Nat → Int32) (N : Nat) (v : Int32) : Nat → Int32 := fun j => if j < N then v else f j
def atP (n : Nat) (f : Nat → Int32) (z v : Int32) : Int32 := if inB v (nI n) = true then f v.toNatClampNeg else z
def canT (n : Nat) (il : Int32) (sp : Nat → Int32) (v t : Int32) : Bool := inB v (nI n) && (!hs il v && hs (sp v.toNatClampNeg) t)
theorem up_ind (P : Nat → Prop) (n : Nat) (h0 : P n) (hs : ∀ k, k < n → P (k + 1) → P k) : P 0 := by
  have key : ∀ d k, k + d = n → P k := by
    intro d
    induction d with
    | zero => intro k hk; have : k = n := by omega
              subst this; exact h0
    | succ d ih => intro k hk; exact hs k (by omega) (ih (k + 1) (by omega))
  exact key n 0 (by omega)
theorem inB_iff {v : Int32} {n : Nat} (hn : n < 2 ^ 31) : inB v (nI n) = true ↔ ∃ k, k < n ∧ v = nI k := by
  constructor
  · intro h
    simp only [inB, Bool.and_eq_true, Bool.not_eq_true', decide_eq_false_iff_not] at h
    obtain ⟨j, hj, rfl⟩ := nI_of h.1
    exact ⟨j, by
      rcases Nat.lt_or_ge j n with q | q
      · exact q
      · exact absurd (nI_le q hj) h.2, rfl⟩
  · rintro ⟨k, hk, rfl⟩
    simp only [inB, Bool.and_eq_true, Bool.not_eq_true', decide_eq_false_iff_not]
    exact ⟨nI_pos (by omega), nI_ge hk hn⟩
theorem inB_nI {k n : Nat} (h : k < n) (hn : n < 2 ^ 31) : inB (nI k) (nI n) = true := (inB_iff hn).mpr ⟨k, h, rfl⟩
theorem atP_nI {k n : Nat} {f : Nat → Int32} {z : Int32} (h : k < n) (hn : n < 2 ^ 31) : atP n f z (nI k) = f k := by
  rw [atP, inB_nI h hn, if_pos rfl, nI_clamp (by omega)]
theorem inB_in {v : Int32} {n N : Nat} (h : inB v (nI n) = true) (hn : n ≤ N) (hN : N < 2 ^ 31) : vp_in v N := by
  obtain ⟨k, hk, rfl⟩ := (inB_iff (by omega)).mp h
  exact vp_in_nI (by omega) hN
theorem bI_n0 (b : Bool) : ¬ bI b = 0 ↔ b = true := by cases b <;> decide
end
section
/-! the pure words of the contracts: the search -/
def prO (w s : Int32) : Nat → Int32 := sI (fun k => if hs w (nI k) = true then s else 0)
def prF (fs : Nat → Int32) (w s : Int32) : Nat → Nat → Int32
  | 0 => fs
  | k + 1 => upd (prF fs w s k) k (if hs w (nI k) = true then s else 0)
def shK (kn tr sk : Nat → Int32) : Nat → Nat → Int32
  | 0 => fillA sk 5 31
  | k + 1 => if inB (tr k) 5 = true then upd (shK kn tr sk k) (tr k).toNatClampNeg (shK kn tr sk k (tr k).toNatClampNeg &&& kn k) else shK kn tr sk k
def rcC (wa : Int32) (sk : Nat → Int32) (t : Int32) (k : Nat) : Bool := !decide (nI k = t) && (hs wa (nI k) && hs (sk t.toNatClampNeg) (nI k))
def rch (wa : Int32) (sk : Nat → Int32) (t : Int32) : Nat → Int32
  | 0 => sk t.toNatClampNeg ||| ((1 : Int32) <<< (t &&& 31))
  | k + 1 => if rcC wa sk t k = true then rch wa sk t k ||| sk k else rch wa sk t k
def rcF (fl wa : Int32) (sk : Nat → Int32) (t : Int32) : Bool := decide (fl &&& (rch wa sk t 5 ^^^ (-1)) = 0)
def kcC (fo lp v : Int32) : Bool := decide (fo = 0) || !decide (lp ≤ v)
def knC (fo fm pn mv v : Int32) : Bool := decide (fo = 0) || (decide (mv < fm) || (decide (mv = fm) && !decide (pn ≤ v)))
abbrev Acc : Type := Int32 × Int32 × Int32 × Int32 × Int32 × (Nat → Int32) × (Nat → Int32)
def paS (py tr : Nat → Int32) : Nat → Int32 := sI (fun k => if tr k = 5 then 0 else py k)
def mvS (bo tr : Nat → Int32) : Nat → Int32 := sI (fun k => if tr k = bo k then 0 else 1)
def sbS (tr : Nat → Int32) (sb : Int32) : Nat → Int32
  | 0 => sb
  | k + 1 => if tr k = 5 then sbS tr sb k ||| ((1 : Int32) <<< (nI k &&& 31)) else sbS tr sb k
def wgA (n : Nat) (py bo tr : Nat → Int32) (a : Acc) : Acc := (a.1 + 1, sbS tr a.2.1 n, (if kcC a.1 a.2.2.1 (paS py tr n) = true then paS py tr n else a.2.2.1), (if knC a.1 a.2.2.2.1 a.2.2.2.2.1 (mvS bo tr n) (paS py tr n) = true then mvS bo tr n else a.2.2.2.1), (if knC a.1 a.2.2.2.1 a.2.2.2.2.1 (mvS bo tr n) (paS py tr n) = true then paS py tr n else a.2.2.2.2.1), (if kcC a.1 a.2.2.1 (paS py tr n) = true then va_cpy tr a.2.2.2.2.2.1 0 0 6 else a.2.2.2.2.2.1), (if knC a.1 a.2.2.2.1 a.2.2.2.2.1 (mvS bo tr n) (paS py tr n) = true then va_cpy tr a.2.2.2.2.2.2 0 0 6 else a.2.2.2.2.2.2))
def alR (fl wa : Int32) (sk : Nat → Int32) : Nat → Bool
  | 0 => true
  | k + 1 => alR fl wa sk k && (!hs wa (nI k) || rcF fl wa sk (nI k))
def wwA (n : Nat) (kn py bo : Nat → Int32) (fl wa : Int32) (sk tr : Nat → Int32) (a : Acc) : Acc := if alR fl wa (shK kn tr sk n) 5 = true then wgA n py bo tr a else a
theorem alR_step {fl wa : Int32} {sk : Nat → Int32} {k : Nat} (h : alR fl wa sk (k + 1) = false) : ∀ j, k < j → alR fl wa sk j = false := by
  intro j hj
  induction j with
  | zero => omega
  | succ j ih =>
    by_cases e : j = k
    · subst e; exact h
    · simp [alR, ih (by omega)]
def wwB (n : Nat) (kn py bo : Nat → Int32) (fl wa : Int32) (sk tr : Nat → Int32) (a : Acc) : Int32 × Int32 × Int32 × Int32 × Int32 × (Nat → Int32) × (Nat → Int32) × (Nat → Int32) := ((wwA n kn py bo fl wa sk tr a).1, (wwA n kn py bo fl wa sk tr a).2.1, (wwA n kn py bo fl wa sk tr a).2.2.1, (wwA n kn py bo fl wa sk tr a).2.2.2.1, (wwA n kn py bo fl wa sk tr a).2.2.2.2.1, shK kn tr sk n, (wwA n kn py bo fl wa sk tr a).2.2.2.2.2.1, (wwA n kn py bo fl wa sk tr a).2.2.2.2.2.2)
/-- os fo sb lp fm pn tr fs sk ct nt -/
abbrev PS : Type := Int32 × Int32 × Int32 × Int32 × Int32 × Int32 × (Nat → Int32) × (Nat → Int32) × (Nat → Int32) × (Nat → Int32) × (Nat → Int32)
def pTr (x : PS) : Nat → Int32 := x.2.2.2.2.2.2.1
def pFs (x : PS) : Nat → Int32 := x.2.2.2.2.2.2.2.1
def pSk (x : PS) : Nat → Int32 := x.2.2.2.2.2.2.2.2.1
def pAc (x : PS) : Acc := (x.2.1, x.2.2.1, x.2.2.2.1, x.2.2.2.2.1, x.2.2.2.2.2.1, x.2.2.2.2.2.2.2.2.2.1, x.2.2.2.2.2.2.2.2.2.2)
def mkP (os : Int32) (a : Acc) (tr fs sk : Nat → Int32) : PS := (os, a.1, a.2.1, a.2.2.1, a.2.2.2.1, a.2.2.2.2.1, tr, fs, sk, a.2.2.2.2.2.1, a.2.2.2.2.2.2)
def wwP (n : Nat) (kn py bo : Nat → Int32) (fl wa : Int32) (x : PS) : PS := mkP x.1 (wwA n kn py bo fl wa (pSk x) (pTr x) (pAc x)) (pTr x) (pFs x) (shK kn (pTr x) (pSk x) n)
def pinG (g : PS → PS) (can : Bool) (k : Nat) (t : Int32) (x : PS) : PS := if (decide (pFs x t.toNatClampNeg = 0) || !can) = true then x else
  (fun y : PS => mkP (y.1 + 1) (pAc y) (pTr y) (upd (pFs y) t.toNatClampNeg (pFs y t.toNatClampNeg + 1)) (pSk y)) (g (mkP (x.1 - 1) (pAc x) (upd (pTr x) k t) (upd (pFs x) t.toNatClampNeg (pFs x t.toNatClampNeg - 1)) (pSk x)))
def l5 (f : Nat → PS → PS) : Nat → PS → PS
  | 0, x => x
  | t + 1, x => f t (l5 f t x)
def setT (k : Nat) (x : PS) : PS := mkP x.1 (pAc x) (upd (pTr x) k 5) (pFs x) (pSk x)
def pf (n : Nat) (il : Int32) (kn sp py bo : Nat → Int32) (fl wa : Int32) : Nat → Nat → PS → PS
  | 0, k, x => if x.1 ≤ nI n - nI k then wwP n kn py bo fl wa x else x
  | d + 1, k, x => if x.1 ≤ nI n - nI k then pf n il kn sp py bo fl wa d (k + 1) (setT k (l5 (fun t => pinG (pf n il kn sp py bo fl wa d (k + 1)) (canT n il sp (nI k) (nI t)) k (nI t)) 5 x)) else x
def piF (n : Nat) (il : Int32) (kn sp py bo : Nat → Int32) (fl wa : Int32) (d k : Nat) (t : Int32) (x : PS) : PS := pinG (pf n il kn sp py bo fl wa (d - 1) (k + 1)) (canT n il sp (nI k) t) k t x
abbrev rF (d : Nat) : Room := { frames := 8 * d + 20, cells := 0, slots := 0, locals := 200 * d + 600 }
end
section
/-! the pure words of the contracts: the day -/
def silF (so : Nat → Int32) (h : Int32) : Bool := !inB h 16 || decide (so h.toNatClampNeg = -1)
def frF (n : Nat) (ti : Nat → Int32) (a b : Int32) : Bool := !inB b (nI n) || !decide (ti b.toNatClampNeg ≤ ti a.toNatClampNeg)
def chO (n : Nat) (bo ti on : Nat → Int32) : Nat → Nat → Int32
  | 0 => fillA on 5 (-1)
  | k + 1 => if (inB (bo k) 5 && frF n ti (nI k) (chO n bo ti on k (bo k).toNatClampNeg)) = true then upd (chO n bo ti on k) (bo k).toNatClampNeg (nI k) else chO n bo ti on k
def wyC (n : Nat) (kn on : Nat → Int32) (f t kt : Int32) (r : Nat) : Bool := !decide (nI r = f) && (!decide (nI r = t) && (hs kt (nI r) && hs (atP n kn 0 (on r)) f))
def wyL (c : Nat → Bool) : Nat → Nat → Int32
  | 0, _ => -1
  | d + 1, r => if c r = true then nI r else wyL c d (r + 1)
def wyF (n : Nat) (kn on : Nat → Int32) (f t : Int32) : Int32 := if f = -1 then -1 else if f = t then -1 else if on t.toNatClampNeg = -1 then -1 else if hs (atP n kn 0 (on t.toNatClampNeg)) f = true then t else wyL (wyC n kn on f t (atP n kn 0 (on t.toNatClampNeg))) 5 0
def tuF (n : Nat) (bo on he : Nat → Int32) (v : Int32) : Bool := inB (atP n bo 5 v) 5 && (decide (on (atP n bo 5 v).toNatClampNeg = v) && !decide (he (atP n bo 5 v).toNatClampNeg = -1))
def tiF (n : Nat) (bo on he : Nat → Int32) (w : Int32) (ti : Nat → Int32) : Nat → Nat → Int32
  | 0 => ti
  | k + 1 => upd (tiF n bo on he w ti k) k (if tuF n bo on he (nI k) = true then tiF n bo on he w ti k k + w else (if (0 : Int32) < tiF n bo on he w ti k k - 2 then tiF n bo on he w ti k k - 2 else 0))
def laF (sd he : Nat → Int32) (h t : Int32) : Int32 := if (inB h 16 && inB t 5) = true then (if he t.toNatClampNeg = -1 then 0 else if he t.toNatClampNeg = t then (if sd h.toNatClampNeg ≤ 5 then 1 else 2) else 2 * (if sd h.toNatClampNeg ≤ 5 then 1 else 2) + 1) else 0
def taF (ti : Nat → Int32) (a : Int32) : Nat → Int32
  | 0 => 0
  | k + 1 => if ti k ≤ a then taF ti a k else taF ti a k ||| ((1 : Int32) <<< (nI k &&& 31))
abbrev DS : Type := (Nat → Int32) × (Nat → Int32) × (Nat → Int32)
def heF (n : Nat) (kn on : Nat → Int32) (f : Int32) (he : Nat → Int32) : Nat → Nat → Int32
  | 0 => he
  | k + 1 => upd (heF n kn on f he k) k (wyF n kn on f (nI k))
def plG (n : Nat) (kn bo : Nat → Int32) (f w : Int32) (x : DS) : DS := (tiF n bo (chO n bo x.1 x.2.1 n) (heF n kn (chO n bo x.1 x.2.1 n) f x.2.2 5) w x.1 n, chO n bo x.1 x.2.1 n, heF n kn (chO n bo x.1 x.2.1 n) f x.2.2 5)
def plH (n : Nat) (kn bo so sd : Nat → Int32) (h : Int32) (x : DS) : DS := if inB h 16 = true then plG n kn bo (so h.toNatClampNeg) (sd h.toNatClampNeg) x else x
def plT (n : Nat) (kn bo so sd : Nat → Int32) (x : DS) : Nat → DS
  | 0 => (fillA x.1 6 0, x.2.1, x.2.2)
  | k + 1 => plH n kn bo so sd (nI k) (plT n kn bo so sd x k)
def laO (n : Nat) (kn bo so sd : Nat → Int32) (x : DS) (t : Int32) : Nat → Int32
  | 0 => 0
  | k + 1 => laO n kn bo so sd x t k + laF sd (plT n kn bo so sd x (k + 1)).2.2 (nI k) t
def woO (n : Nat) (kn bo so sd : Nat → Int32) (x : DS) (a : Int32) : Nat → Int32
  | 0 => 0
  | k + 1 => woO n kn bo so sd x a k ||| taF (plT n kn bo so sd x (k + 1)).1 a n
end
section
/-! the pure words of the contracts: the class's own -/
def bt1 (x : Int32) : Int32 := x - (((x.toUInt32 >>> ((1 : Int32).toUInt32 &&& Int32.toUInt32 31)).toInt32) &&& 1431655765)
def bt2 (x : Int32) : Int32 := (x &&& 858993459) + (((x.toUInt32 >>> ((2 : Int32).toUInt32 &&& Int32.toUInt32 31)).toInt32) &&& 858993459)
def bt3 (x : Int32) : Int32 := (x + ((x.toUInt32 >>> ((4 : Int32).toUInt32 &&& Int32.toUInt32 31)).toInt32)) &&& 252645135
def bt4 (x : Int32) : Int32 := x + ((x.toUInt32 >>> ((8 : Int32).toUInt32 &&& Int32.toUInt32 31)).toInt32)
def bt5 (x : Int32) : Int32 := x + ((x.toUInt32 >>> ((16 : Int32).toUInt32 &&& Int32.toUInt32 31)).toInt32)
def btC (x : Int32) : Int32 := bt5 (bt4 (bt3 (bt2 (bt1 x)))) &&& 63
/-- os fl wa fo sb lp fm pn tr fs sk ct nt -/
abbrev SS : Type := Int32 × Int32 × Int32 × Int32 × Int32 × Int32 × Int32 × Int32 × (Nat → Int32) × (Nat → Int32) × (Nat → Int32) × (Nat → Int32) × (Nat → Int32)
def ssO (f w : Int32) (y : PS) : SS := (y.1, f, w, y.2.1, y.2.2.1, y.2.2.2.1, y.2.2.2.2.1, y.2.2.2.2.2.1, y.2.2.2.2.2.2.1, y.2.2.2.2.2.2.2.1, y.2.2.2.2.2.2.2.2.1, y.2.2.2.2.2.2.2.2.2.1, y.2.2.2.2.2.2.2.2.2.2)
def stG (n : Nat) (il : Int32) (kn sp py bo : Nat → Int32) (f w se : Int32) (x : SS) : PS := pf n il kn sp py bo f w n 0 (prO w se 5, 0, 0, -1, -1, -1, x.2.2.2.2.2.2.2.2.1, prF x.2.2.2.2.2.2.2.2.2.1 w se 5, x.2.2.2.2.2.2.2.2.2.2.1, x.2.2.2.2.2.2.2.2.2.2.2.1, x.2.2.2.2.2.2.2.2.2.2.2.2)
def stF (n : Nat) (il : Int32) (kn sp py bo fO wI : Nat → Int32) (se a : Int32) (x : SS) : SS := if inB a 2 = true then ssO (fO a.toNatClampNeg) (wI a.toNatClampNeg) (stG n il kn sp py bo (fO a.toNatClampNeg) (wI a.toNatClampNeg) se x) else x
def pOk (k s v : Int32) : Bool := decide (k &&& (-32) = 0) && (decide (s &&& (-32) = 0) && (decide (s &&& (k ^^^ (-1)) = 0) && (!decide (v < 1) && decide (v ≤ 99))))
def tkR (a1 a2 : Int32) (y : SS) : Int32 := if inB a1 2 = true then (if (a2 = 0 ∨ a2 = 1) then (if y.2.2.2.1 = 0 then -4 else if a2 = 0 then y.2.2.2.2.2.1 else y.2.2.2.2.2.2.2.1) else -3) else -2
def tkF (a1 a2 : Int32) (y x : SS) (bo : Nat → Int32) : Int32 × Int32 × Int32 × Int32 × Int32 × Int32 × Int32 × Int32 × (Nat → Int32) × (Nat → Int32) × (Nat → Int32) × (Nat → Int32) × (Nat → Int32) × (Nat → Int32) :=
  if (inB a1 2 = true ∧ (a2 = 0 ∨ a2 = 1)) then (y.1, y.2.1, y.2.2.1, y.2.2.2.1, y.2.2.2.2.1, y.2.2.2.2.2.1, y.2.2.2.2.2.2.1, y.2.2.2.2.2.2.2.1, y.2.2.2.2.2.2.2.2.1, y.2.2.2.2.2.2.2.2.2.1, y.2.2.2.2.2.2.2.2.2.2.1, y.2.2.2.2.2.2.2.2.2.2.2.1, y.2.2.2.2.2.2.2.2.2.2.2.2, (if y.2.2.2.1 = 0 then bo else if a2 = 0 then va_cpy y.2.2.2.2.2.2.2.2.2.2.2.1 bo 0 0 6 else va_cpy y.2.2.2.2.2.2.2.2.2.2.2.2 bo 0 0 6))
  else (x.1, x.2.1, x.2.2.1, x.2.2.2.1, x.2.2.2.2.1, x.2.2.2.2.2.1, x.2.2.2.2.2.2.1, x.2.2.2.2.2.2.2.1, x.2.2.2.2.2.2.2.2.1, x.2.2.2.2.2.2.2.2.2.1, x.2.2.2.2.2.2.2.2.2.2.1, x.2.2.2.2.2.2.2.2.2.2.2.1, x.2.2.2.2.2.2.2.2.2.2.2.2, bo)
def lcF (n : Nat) (il : Int32) (sp : Nat → Int32) (w se : Int32) : Nat → Int32
  | 0 => 0
  | k + 1 => if (hs w (nI k) && !decide (se ≤ sI (fun j => bI (canT n il sp (nI j) (nI k))) n)) = true then lcF n il sp w se k ||| ((1 : Int32) <<< (nI k &&& 31)) else lcF n il sp w se k
def coR (n : Nat) (il : Int32) (bo so : Nat → Int32) (se a : Int32) : Int32 := if a = 0 then nI n else if a = 1 then btC il else if a = 2 then sI (fun k => bI (!decide (bo k = 5))) n else if a = 3 then sI (fun k => bI (!decide (so k = -1))) 16 else if a = 4 then se else -3
end
section
/-! the pure words of the contracts: the reference -/
def inR (v l m : Int32) : Bool := !decide (v < l) && !decide (m < v)
def rOk (k s v : Int32) : Bool := inR k 0 31 && (inR s 0 31 && (decide (s &&& (k ^^^ (-1)) = 0) && inR v 1 99))
def fillN (f : Nat → Int32) (N : Nat) (g : Nat → Int32) : Nat → Int32 := fun j => if j < N then g j else f j
def akF (kn ro : Nat → Int32) (t f : Int32) : Nat → Bool
  | 0 => true
  | k + 1 => akF kn ro t f k && (!decide (ro k = t) || hs (kn k) f)
def itA (sp il : Nat → Int32) (w : Int32) (ro : Nat → Int32) : Nat → Bool
  | 0 => true
  | k + 1 => itA sp il w ro k && (decide (ro k = 5) || (hs w (ro k) && (hs (sp k) (ro k) && decide (il k = 0))))
def cnT (ro : Nat → Int32) (t : Int32) : Nat → Int32 := sI (fun k => if ro k = t then 1 else 0)
def itB (n : Nat) (w se : Int32) (ro : Nat → Int32) : Nat → Bool
  | 0 => true
  | t + 1 => itB n w se ro t && (!hs w (nI t) || decide (cnT ro (nI t) n = se))
def itF (n : Nat) (sp il : Nat → Int32) (w se : Int32) (ro : Nat → Int32) : Bool := itA sp il w ro n && itB n w se ro 5
def iwC (n : Nat) (kn : Nat → Int32) (w : Int32) (ro : Nat → Int32) (f t : Int32) (r : Nat) : Bool := hs w (nI r) && (!decide (nI r = f) && (!decide (nI r = t) && (akF kn ro t (nI r) n && akF kn ro (nI r) f n)))
def iwR (n : Nat) (kn : Nat → Int32) (w : Int32) (ro : Nat → Int32) (f t : Int32) : Nat → Bool
  | 0 => akF kn ro t f n
  | r + 1 => iwR n kn w ro f t r || iwC n kn w ro f t r
def iwT (n : Nat) (kn : Nat → Int32) (fl w : Int32) (ro : Nat → Int32) (f : Int32) (b : Bool) : Nat → Bool
  | 0 => b
  | t + 1 => iwT n kn fl w ro f b t && (!(hs fl f && (hs w (nI t) && !decide (nI t = f))) || iwR n kn w ro f (nI t) 5)
def iwL (n : Nat) (kn : Nat → Int32) (fl w : Int32) (ro : Nat → Int32) : Nat → Bool
  | 0 => true
  | f + 1 => iwT n kn fl w ro (nI f) (iwL n kn fl w ro f) 5
def iwF (n : Nat) (kn : Nat → Int32) (fl w : Int32) (ro : Nat → Int32) : Bool := iwL n kn fl w ro 5
theorem itA_no {sp il : Nat → Int32} {w : Int32} {ro : Nat → Int32} {k : Nat} (h : itA sp il w ro k = false) : ∀ j, k ≤ j → itA sp il w ro j = false := by
  intro j hj
  induction j with
  | zero => have : k = 0 := by omega
            subst this; exact h
  | succ j ih =>
    by_cases e : k = j + 1
    · subst e; exact h
    · simp [itA, ih (by omega)]
theorem itB_no {n : Nat} {w se : Int32} {ro : Nat → Int32} {k : Nat} (h : itB n w se ro k = false) : ∀ j, k ≤ j → itB n w se ro j = false := by
  intro j hj
  induction j with
  | zero => have : k = 0 := by omega
            subst this; exact h
  | succ j ih =>
    by_cases e : k = j + 1
    · subst e; exact h
    · simp [itB, ih (by omega)]
theorem inR_p {v : Int32} {n : Nat} (hn : n ≤ 6) : inR v 0 (nI n - 1) = inB v (nI n) := by
  have key : ∀ v : Int32, ¬ v < 0 → (decide (nI n - 1 < v) = decide (nI n ≤ v)) := by
    intro v hv
    obtain ⟨j, hj, rfl⟩ := nI_of hv
    have h0 : nI n - 1 < nI j ↔ nI n ≤ nI j := by
      cases n with
      | zero =>
        constructor
        · intro _; exact nI_le (Nat.zero_le _) hj
        · intro _
          have e : nI 0 - 1 = (-1 : Int32) := by decide
          rw [e]
          have h1 : ¬ nI j < 0 := nI_pos hj
          rw [Int32.lt_iff_toInt_lt, nI_toInt hj]
          have : (-1 : Int32).toInt = -1 := by decide
          omega
      | succ m =>
        rw [nI_pred, nI_ltI (by omega) hj, nI_leI (by omega) hj]
        omega
    by_cases h : nI n ≤ nI j
    · rw [decide_eq_true h, decide_eq_true (h0.mpr h)]
    · rw [decide_eq_false h, decide_eq_false (fun q => h (h0.mp q))]
  unfold inR inB
  by_cases hv : v < 0
  · simp [hv]
  · rw [key v hv]
theorem inR_b {v : Int32} {m : Nat} (hm : m < 100) : inR v 0 (nI m) = inB v (nI (m + 1)) := by
  have key : ∀ v : Int32, ¬ v < 0 → (decide (nI m < v) = decide (nI (m + 1) ≤ v)) := by
    intro v hv
    obtain ⟨j, hj, rfl⟩ := nI_of hv
    have h0 : nI m < nI j ↔ nI (m + 1) ≤ nI j := by
      rw [nI_ltI (by omega) hj, nI_leI (by omega) hj]; omega
    by_cases h : nI (m + 1) ≤ nI j
    · rw [decide_eq_true h, decide_eq_true (h0.mpr h)]
    · rw [decide_eq_false h, decide_eq_false (fun q => h (h0.mp q))]
  unfold inR inB
  by_cases hv : v < 0
  · simp [hv]
  · rw [key v hv]
def rlC (n : Nat) (il sp : Nat → Int32) (t : Int32) : Nat → Int32 := sI (fun k => if (decide (il k = 0) && hs (sp k) t) = true then 1 else 0)
def rlF (n : Nat) (il sp : Nat → Int32) (w se : Int32) : Nat → Int32
  | 0 => 0
  | k + 1 => rlF n il sp w se k ||| (if (hs w (nI k) && !decide (se ≤ rlC n il sp (nI k) n)) = true then ((1 : Int32) <<< (nI k &&& 31)) else 0)
/-- wm ch ne np al cp nr -/
abbrev RA : Type := Int32 × Int32 × Int32 × Int32 × Int32 × (Nat → Int32) × (Nat → Int32)
def rpS (py ro : Nat → Int32) : Nat → Int32 := sI (fun k => if 5 ≤ ro k then 0 else py k)
def rmS (bo ro : Nat → Int32) : Nat → Int32 := sI (fun k => if ro k = bo k then 0 else 1)
def raL (ro : Nat → Int32) (al : Int32) : Nat → Int32
  | 0 => al
  | k + 1 => if 5 ≤ ro k then raL ro al k &&& (((1 : Int32) <<< (nI k &&& 31)) ^^^ (-1)) else raL ro al k
def rcB (ch v : Int32) : Bool := decide (ch = -1) || !decide (ch ≤ v)
def rnB (ne np mv v : Int32) : Bool := decide (ne = -1) || (decide (mv < ne) || (decide (mv = ne) && !decide (np ≤ v)))
def rA (n : Nat) (py bo ro : Nat → Int32) (a : RA) : RA := (a.1 + 1, (if rcB a.2.1 (rpS py ro n) = true then rpS py ro n else a.2.1), (if rnB a.2.2.1 a.2.2.2.1 (rmS bo ro n) (rpS py ro n) = true then rmS bo ro n else a.2.2.1), (if rnB a.2.2.1 a.2.2.2.1 (rmS bo ro n) (rpS py ro n) = true then rpS py ro n else a.2.2.2.1), raL ro a.2.2.2.2.1 n, (if rcB a.2.1 (rpS py ro n) = true then fillN a.2.2.2.2.2.1 n ro else a.2.2.2.2.2.1), (if rnB a.2.2.1 a.2.2.2.1 (rmS bo ro n) (rpS py ro n) = true then fillN a.2.2.2.2.2.2 n ro else a.2.2.2.2.2.2))
def rowD : Nat → Nat → (Nat → Int32) → Nat → Int32
  | 0, _, ro => ro
  | j + 1, l, ro => rowD j (l / 6) (upd ro j (nI (l % 6)))
/-- the rows of numbers 0 .. m-1, one behind another: what was found, and the row -/
def ftL (n : Nat) (kn sp py il bo : Nat → Int32) (f w se : Int32) (x : RA × (Nat → Int32)) : Nat → RA × (Nat → Int32)
  | 0 => x
  | m + 1 => (fun y : RA × (Nat → Int32) => ((if (itF n sp il w se (rowD n m y.2) && iwF n kn f w (rowD n m y.2)) = true then rA n py bo (rowD n m y.2) y.1 else y.1), rowD n m y.2)) (ftL n kn sp py il bo f w se x m)
abbrev FS : Type := Int32 × Int32 × Int32 × Int32 × Int32 × (Nat → Int32) × (Nat → Int32) × (Nat → Int32)
def ftO (y : RA × (Nat → Int32)) : FS := (y.1.1, y.1.2.1, y.1.2.2.1, y.1.2.2.2.1, y.1.2.2.2.2.1, y.2, y.1.2.2.2.2.2.1, y.1.2.2.2.2.2.2)
def ftF (n : Nat) (kn sp py il fl wa bo : Nat → Int32) (se a : Int32) (x : FS) : FS := ftO (ftL n kn sp py il bo (fl a.toNatClampNeg) (wa a.toNatClampNeg) se ((0, -1, -1, x.2.2.2.1, 63, x.2.2.2.2.2.2.1, x.2.2.2.2.2.2.2), x.2.2.2.2.2.1) (6 ^ n))
def rtR (a1 a2 : Int32) (y : FS) : Int32 := if inR a1 0 1 = true then (if inR a2 0 1 = true then (if y.1 = 0 then -4 else if a2 = 0 then y.2.1 else y.2.2.2.1) else -3) else -2
def rtF (n : Nat) (a1 a2 : Int32) (y x : FS) (bo : Nat → Int32) : Int32 × Int32 × Int32 × Int32 × Int32 × (Nat → Int32) × (Nat → Int32) × (Nat → Int32) × (Nat → Int32) :=
  if (inR a1 0 1 = true ∧ inR a2 0 1 = true) then (y.1, y.2.1, y.2.2.1, y.2.2.2.1, y.2.2.2.2.1, (if y.1 = 0 then bo else if a2 = 0 then fillN bo n y.2.2.2.2.2.2.1 else fillN bo n y.2.2.2.2.2.2.2), y.2.2.2.2.2.1, y.2.2.2.2.2.2.1, y.2.2.2.2.2.2.2)
  else (x.1, x.2.1, x.2.2.1, x.2.2.2.1, x.2.2.2.2.1, bo, x.2.2.2.2.2.1, x.2.2.2.2.2.2.1, x.2.2.2.2.2.2.2)
theorem upd_same (f : Nat → Int32) (k : Nat) : upd f k (f k) = f := by
  funext j
  by_cases h : j = k
  · subst h; simp [upd]
  · simp [upd, h]
theorem fillN_succ (f g : Nat → Int32) (k : Nat) : upd (fillN f k g) k (g k) = fillN f (k + 1) g := by
  funext j
  simp only [upd, fillN]
  by_cases h1 : j = k
  · subst h1; simp
  · have h2 : (j < k + 1) = (j < k) := by apply propext; omega
    simp [h1, h2]
theorem fillN_0 (f g : Nat → Int32) : fillN f 0 g = f := by funext j; simp [fillN]
theorem pow6_lt {n : Nat} (h : n ≤ 6) : 6 ^ n < 2 ^ 30 := by
  have : n = 0 ∨ n = 1 ∨ n = 2 ∨ n = 3 ∨ n = 4 ∨ n = 5 ∨ n = 6 := by omega
  rcases this with rfl | rfl | rfl | rfl | rfl | rfl | rfl <;> decide
theorem inR_2 (v : Int32) : inR v 0 1 = inB v 2 := inR_b (m := 1) (by omega)
theorem inR_5 (v : Int32) : inR v 0 4 = inB v 5 := inR_b (m := 4) (by omega)
theorem inR_16 (v : Int32) : inR v 0 15 = inB v 16 := inR_b (m := 15) (by omega)
end
section
def v_X4_in_0 (post : Int32 → (Unit) → Prop) (a0 : Int32) (a1 : Int32) (a2 : Int32) : Prop := ((a0 < a1 → post (0 : Int32) ()) ∧ (¬ a0 < a1 → ((a2 < a0 → post (0 : Int32) ()) ∧ (¬ a2 < a0 → post (1 : Int32) ()))))
def v_X4_has_0 (post : Int32 → (Unit) → Prop) (a0 : Int32) (a1 : Int32) : Prop := ((((a0 >>> (a1 &&& 31)) &&& (1 : Int32)) = (1 : Int32) → post (1 : Int32) ()) ∧ (¬ ((a0 >>> (a1 &&& 31)) &&& (1 : Int32)) = (1 : Int32) → post (0 : Int32) ()))
def v_X4_isSession_0 (post : Int32 → (Unit) → Prop) (a0 : Int32) : Prop := post (bI (inR a0 (0 : Int32) (1 : Int32))) ()
def v_X4_isTongue_0 (post : Int32 → (Unit) → Prop) (a0 : Int32) : Prop := post (bI (inR a0 (0 : Int32) (4 : Int32))) ()
def v_X4_isHalf_0 (post : Int32 → (Unit) → Prop) (a0 : Int32) : Prop := post (bI (inR a0 (0 : Int32) (15 : Int32))) ()
def v_X4_isPerson_0 (n : Nat) (se : Int32) (li : Int32) (wm : Int32) (ch : Int32) (ne : Int32) (np : Int32) (al : Int32) (wo : Int32) (kn : Nat → Int32) (sp : Nat → Int32) (py : Nat → Int32) (il : Nat → Int32) (fl : Nat → Int32) (wa : Nat → Int32) (bo : Nat → Int32) (so : Nat → Int32) (sd : Nat → Int32) (ro : Nat → Int32) (cp : Nat → Int32) (nr : Nat → Int32) (ti : Nat → Int32) (on : Nat → Int32) (he : Nat → Int32) (la : Nat → Int32) (post : Int32 → (Unit) → Prop) (a1 : Int32) : Prop := post (bI (inR a1 (0 : Int32) ((nI n) - (1 : Int32)))) ()
def v_X4_person_0 (n : Nat) (se : Int32) (li : Int32) (wm : Int32) (ch : Int32) (ne : Int32) (np : Int32) (al : Int32) (wo : Int32) (il : Nat → Int32) (fl : Nat → Int32) (wa : Nat → Int32) (bo : Nat → Int32) (so : Nat → Int32) (sd : Nat → Int32) (ro : Nat → Int32) (cp : Nat → Int32) (nr : Nat → Int32) (ti : Nat → Int32) (on : Nat → Int32) (he : Nat → Int32) (la : Nat → Int32) (post : Int32 → (Int32 × (Nat → Int32) × (Nat → Int32) × (Nat → Int32)) → Prop) (a1 : Int32) (a2 : Int32) (a3 : Int32) (kn : Nat → Int32) (sp : Nat → Int32) (py : Nat → Int32) : Prop := (((bI (inR a1 (0 : Int32) (31 : Int32))) = 0 → post (-3 : Int32) (nI n, kn, sp, py)) ∧ (¬ (bI (inR a1 (0 : Int32) (31 : Int32))) = 0 → (((bI (inR a2 (0 : Int32) (31 : Int32))) = 0 → post (-3 : Int32) (nI n, kn, sp, py)) ∧ (¬ (bI (inR a2 (0 : Int32) (31 : Int32))) = 0 → (((a2 &&& (a1 ^^^ (-1 : Int32))) = 0 → (((bI (inR a3 (1 : Int32) (99 : Int32))) = 0 → post (-3 : Int32) (nI n, kn, sp, py)) ∧ (¬ (bI (inR a3 (1 : Int32) (99 : Int32))) = 0 → (((nI n) = (6 : Int32) → post (-5 : Int32) (nI n, kn, sp, py)) ∧ (¬ (nI n) = (6 : Int32) → (vp_in (nI n) 6 ∧ (vp_in (nI n) 6 ∧ (vp_in (nI n) 6 ∧ post (((nI n) + (1 : Int32)) - (1 : Int32)) ((nI n) + (1 : Int32), upd kn (nI n).toNatClampNeg a1, upd sp (nI n).toNatClampNeg a2, upd py (nI n).toNatClampNeg a3))))))))) ∧ (¬ (a2 &&& (a1 ^^^ (-1 : Int32))) = 0 → post (-3 : Int32) (nI n, kn, sp, py)))))))
def v_X4_ill_0 (n : Nat) (se : Int32) (li : Int32) (wm : Int32) (ch : Int32) (ne : Int32) (np : Int32) (al : Int32) (wo : Int32) (kn : Nat → Int32) (sp : Nat → Int32) (py : Nat → Int32) (fl : Nat → Int32) (wa : Nat → Int32) (bo : Nat → Int32) (so : Nat → Int32) (sd : Nat → Int32) (ro : Nat → Int32) (cp : Nat → Int32) (nr : Nat → Int32) (ti : Nat → Int32) (on : Nat → Int32) (he : Nat → Int32) (la : Nat → Int32) (post : Int32 → ((Nat → Int32)) → Prop) (a1 : Int32) (a2 : Int32) (il : Nat → Int32) : Prop := (((bI (inR a1 0 (nI n - 1))) = 0 → post (-2 : Int32) il) ∧ (¬ (bI (inR a1 0 (nI n - 1))) = 0 → (vp_in a1 6 ∧ (vp_in a1 6 ∧ (((il a1.toNatClampNeg) = 0 → post (0 : Int32) (upd il a1.toNatClampNeg (vp_nar .boolean a2))) ∧ (¬ (il a1.toNatClampNeg) = 0 → post (1 : Int32) (upd il a1.toNatClampNeg (vp_nar .boolean a2))))))))
def v_X4_session_0 (n : Nat) (se : Int32) (li : Int32) (wm : Int32) (ch : Int32) (ne : Int32) (np : Int32) (al : Int32) (wo : Int32) (kn : Nat → Int32) (sp : Nat → Int32) (py : Nat → Int32) (il : Nat → Int32) (bo : Nat → Int32) (so : Nat → Int32) (sd : Nat → Int32) (ro : Nat → Int32) (cp : Nat → Int32) (nr : Nat → Int32) (ti : Nat → Int32) (on : Nat → Int32) (he : Nat → Int32) (la : Nat → Int32) (post : Int32 → ((Nat → Int32) × (Nat → Int32)) → Prop) (a1 : Int32) (a2 : Int32) (a3 : Int32) (fl : Nat → Int32) (wa : Nat → Int32) : Prop := (((bI (inR a1 0 1)) = 0 → post (-2 : Int32) (fl, wa)) ∧ (¬ (bI (inR a1 0 1)) = 0 → (((bI (inR a2 (0 : Int32) (31 : Int32))) = 0 → post (-3 : Int32) (fl, wa)) ∧ (¬ (bI (inR a2 (0 : Int32) (31 : Int32))) = 0 → (((bI (inR a3 (0 : Int32) (31 : Int32))) = 0 → post (-3 : Int32) (fl, wa)) ∧ (¬ (bI (inR a3 (0 : Int32) (31 : Int32))) = 0 → (vp_in a1 2 ∧ (vp_in a1 2 ∧ post (1 : Int32) (upd fl a1.toNatClampNeg a2, upd wa a1.toNatClampNeg a3)))))))))
def v_X4_seats_0 (n : Nat) (li : Int32) (wm : Int32) (ch : Int32) (ne : Int32) (np : Int32) (al : Int32) (wo : Int32) (kn : Nat → Int32) (sp : Nat → Int32) (py : Nat → Int32) (il : Nat → Int32) (fl : Nat → Int32) (wa : Nat → Int32) (bo : Nat → Int32) (so : Nat → Int32) (sd : Nat → Int32) (ro : Nat → Int32) (cp : Nat → Int32) (nr : Nat → Int32) (ti : Nat → Int32) (on : Nat → Int32) (he : Nat → Int32) (la : Nat → Int32) (post : Int32 → (Int32) → Prop) (a1 : Int32) (se : Int32) : Prop := (((bI (inR a1 (1 : Int32) (2 : Int32))) = 0 → post (-3 : Int32) se) ∧ (¬ (bI (inR a1 (1 : Int32) (2 : Int32))) = 0 → post se a1))
def v_X4_isTeam_0 (n : Nat) (se : Int32) (li : Int32) (wm : Int32) (ch : Int32) (ne : Int32) (np : Int32) (al : Int32) (wo : Int32) (kn : Nat → Int32) (sp : Nat → Int32) (py : Nat → Int32) (il : Nat → Int32) (fl : Nat → Int32) (wa : Nat → Int32) (bo : Nat → Int32) (so : Nat → Int32) (sd : Nat → Int32) (ro : Nat → Int32) (cp : Nat → Int32) (nr : Nat → Int32) (ti : Nat → Int32) (on : Nat → Int32) (he : Nat → Int32) (la : Nat → Int32) (post : Int32 → (Unit) → Prop) (K4 : Int32 → Int32 → Int32 → Prop) (K85 : Int32 → Int32 → Int32 → Prop) (K100 : Int32 → Int32 → Int32 → Int32 → Prop) (a1 : Int32) : Prop := K4 a1 (1 : Int32) (0 : Int32)
def v_X4_isTeam_76 (n : Nat) (se : Int32) (li : Int32) (wm : Int32) (ch : Int32) (ne : Int32) (np : Int32) (al : Int32) (wo : Int32) (kn : Nat → Int32) (sp : Nat → Int32) (py : Nat → Int32) (il : Nat → Int32) (fl : Nat → Int32) (wa : Nat → Int32) (bo : Nat → Int32) (so : Nat → Int32) (sd : Nat → Int32) (ro : Nat → Int32) (cp : Nat → Int32) (nr : Nat → Int32) (ti : Nat → Int32) (on : Nat → Int32) (he : Nat → Int32) (la : Nat → Int32) (post : Int32 → (Unit) → Prop) (K4 : Int32 → Int32 → Int32 → Prop) (K85 : Int32 → Int32 → Int32 → Prop) (K100 : Int32 → Int32 → Int32 → Int32 → Prop) (x1 : Int32) (x3 : Int32) (s0 : Int32) : Prop := K4 x1 s0 (x3 + 1)
def v_X4_isTeam_71 (n : Nat) (se : Int32) (li : Int32) (wm : Int32) (ch : Int32) (ne : Int32) (np : Int32) (al : Int32) (wo : Int32) (kn : Nat → Int32) (sp : Nat → Int32) (py : Nat → Int32) (il : Nat → Int32) (fl : Nat → Int32) (wa : Nat → Int32) (bo : Nat → Int32) (so : Nat → Int32) (sd : Nat → Int32) (ro : Nat → Int32) (cp : Nat → Int32) (nr : Nat → Int32) (ti : Nat → Int32) (on : Nat → Int32) (he : Nat → Int32) (la : Nat → Int32) (post : Int32 → (Unit) → Prop) (K4 : Int32 → Int32 → Int32 → Prop) (K85 : Int32 → Int32 → Int32 → Prop) (K100 : Int32 → Int32 → Int32 → Int32 → Prop) (x1 : Int32) (x3 : Int32) : Prop := v_X4_isTeam_76 n se li wm ch ne np al wo kn sp py il fl wa bo so sd ro cp nr ti on he la post K4 K85 K100 x1 x3 (1 : Int32)
def v_X4_isTeam_75 (n : Nat) (se : Int32) (li : Int32) (wm : Int32) (ch : Int32) (ne : Int32) (np : Int32) (al : Int32) (wo : Int32) (kn : Nat → Int32) (sp : Nat → Int32) (py : Nat → Int32) (il : Nat → Int32) (fl : Nat → Int32) (wa : Nat → Int32) (bo : Nat → Int32) (so : Nat → Int32) (sd : Nat → Int32) (ro : Nat → Int32) (cp : Nat → Int32) (nr : Nat → Int32) (ti : Nat → Int32) (on : Nat → Int32) (he : Nat → Int32) (la : Nat → Int32) (post : Int32 → (Unit) → Prop) (K4 : Int32 → Int32 → Int32 → Prop) (K85 : Int32 → Int32 → Int32 → Prop) (K100 : Int32 → Int32 → Int32 → Int32 → Prop) (x1 : Int32) (x3 : Int32) : Prop := v_X4_isTeam_76 n se li wm ch ne np al wo kn sp py il fl wa bo so sd ro cp nr ti on he la post K4 K85 K100 x1 x3 (0 : Int32)
def v_X4_isTeam_83 (n : Nat) (se : Int32) (li : Int32) (wm : Int32) (ch : Int32) (ne : Int32) (np : Int32) (al : Int32) (wo : Int32) (kn : Nat → Int32) (sp : Nat → Int32) (py : Nat → Int32) (il : Nat → Int32) (fl : Nat → Int32) (wa : Nat → Int32) (bo : Nat → Int32) (so : Nat → Int32) (sd : Nat → Int32) (ro : Nat → Int32) (cp : Nat → Int32) (nr : Nat → Int32) (ti : Nat → Int32) (on : Nat → Int32) (he : Nat → Int32) (la : Nat → Int32) (post : Int32 → (Unit) → Prop) (K4 : Int32 → Int32 → Int32 → Prop) (K85 : Int32 → Int32 → Int32 → Prop) (K100 : Int32 → Int32 → Int32 → Int32 → Prop) (x1 : Int32) (x2 : Int32) : Prop := K85 x1 x2 (0 : Int32)
def v_X4_isTeam_4 (n : Nat) (se : Int32) (li : Int32) (wm : Int32) (ch : Int32) (ne : Int32) (np : Int32) (al : Int32) (wo : Int32) (kn : Nat → Int32) (sp : Nat → Int32) (py : Nat → Int32) (il : Nat → Int32) (fl : Nat → Int32) (wa : Nat → Int32) (bo : Nat → Int32) (so : Nat → Int32) (sd : Nat → Int32) (ro : Nat → Int32) (cp : Nat → Int32) (nr : Nat → Int32) (ti : Nat → Int32) (on : Nat → Int32) (he : Nat → Int32) (la : Nat → Int32) (post : Int32 → (Unit) → Prop) (K4 : Int32 → Int32 → Int32 → Prop) (K85 : Int32 → Int32 → Int32 → Prop) (K100 : Int32 → Int32 → Int32 → Int32 → Prop) (x1 : Int32) (x2 : Int32) (x3 : Int32) : Prop := (((nI n) ≤ x3 → v_X4_isTeam_83 n se li wm ch ne np al wo kn sp py il fl wa bo so sd ro cp nr ti on he la post K4 K85 K100 x1 x2) ∧ (¬ (nI n) ≤ x3 → ((x2 = 0 → v_X4_isTeam_83 n se li wm ch ne np al wo kn sp py il fl wa bo so sd ro cp nr ti on he la post K4 K85 K100 x1 x2) ∧ (¬ x2 = 0 → (vp_in x3 6 ∧ (((ro x3.toNatClampNeg) = (5 : Int32) → v_X4_isTeam_71 n se li wm ch ne np al wo kn sp py il fl wa bo so sd ro cp nr ti on he la post K4 K85 K100 x1 x3) ∧ (¬ (ro x3.toNatClampNeg) = (5 : Int32) → (vp_in x1 2 ∧ (vp_in x3 6 ∧ (((bI (hs (wa x1.toNatClampNeg) (ro x3.toNatClampNeg))) = 0 → v_X4_isTeam_75 n se li wm ch ne np al wo kn sp py il fl wa bo so sd ro cp nr ti on he la post K4 K85 K100 x1 x3) ∧ (¬ (bI (hs (wa x1.toNatClampNeg) (ro x3.toNatClampNeg))) = 0 → (vp_in x3 6 ∧ (vp_in x3 6 ∧ (((bI (hs (sp x3.toNatClampNeg) (ro x3.toNatClampNeg))) = 0 → v_X4_isTeam_75 n se li wm ch ne np al wo kn sp py il fl wa bo so sd ro cp nr ti on he la post K4 K85 K100 x1 x3) ∧ (¬ (bI (hs (sp x3.toNatClampNeg) (ro x3.toNatClampNeg))) = 0 → (vp_in x3 6 ∧ (((il x3.toNatClampNeg) = 0 → v_X4_isTeam_71 n se li wm ch ne np al wo kn sp py il fl wa bo so sd ro cp nr ti on he la post K4 K85 K100 x1 x3) ∧ (¬ (il x3.toNatClampNeg) = 0 → v_X4_isTeam_75 n se li wm ch ne np al wo kn sp py il fl wa bo so sd ro cp nr ti on he la post K4 K85 K100 x1 x3))))))))))))))))))
def v_X4_isTeam_85 (n : Nat) (se : Int32) (li : Int32) (wm : Int32) (ch : Int32) (ne : Int32) (np : Int32) (al : Int32) (wo : Int32) (kn : Nat → Int32) (sp : Nat → Int32) (py : Nat → Int32) (il : Nat → Int32) (fl : Nat → Int32) (wa : Nat → Int32) (bo : Nat → Int32) (so : Nat → Int32) (sd : Nat → Int32) (ro : Nat → Int32) (cp : Nat → Int32) (nr : Nat → Int32) (ti : Nat → Int32) (on : Nat → Int32) (he : Nat → Int32) (la : Nat → Int32) (post : Int32 → (Unit) → Prop) (K4 : Int32 → Int32 → Int32 → Prop) (K85 : Int32 → Int32 → Int32 → Prop) (K100 : Int32 → Int32 → Int32 → Int32 → Prop) (x1 : Int32) (x2 : Int32) (x3 : Int32) : Prop := (((5 : Int32) ≤ x3 → (narrow .boolean (.int x2) = .int x2 ∧ post x2 ())) ∧ (¬ (5 : Int32) ≤ x3 → ((x2 = 0 → (narrow .boolean (.int x2) = .int x2 ∧ post x2 ())) ∧ (¬ x2 = 0 → K100 x1 x3 (0 : Int32) (0 : Int32)))))
def v_X4_isTeam_127 (n : Nat) (se : Int32) (li : Int32) (wm : Int32) (ch : Int32) (ne : Int32) (np : Int32) (al : Int32) (wo : Int32) (kn : Nat → Int32) (sp : Nat → Int32) (py : Nat → Int32) (il : Nat → Int32) (fl : Nat → Int32) (wa : Nat → Int32) (bo : Nat → Int32) (so : Nat → Int32) (sd : Nat → Int32) (ro : Nat → Int32) (cp : Nat → Int32) (nr : Nat → Int32) (ti : Nat → Int32) (on : Nat → Int32) (he : Nat → Int32) (la : Nat → Int32) (post : Int32 → (Unit) → Prop) (K4 : Int32 → Int32 → Int32 → Prop) (K85 : Int32 → Int32 → Int32 → Prop) (K100 : Int32 → Int32 → Int32 → Int32 → Prop) (x1 : Int32) (x3 : Int32) (x5 : Int32) (s0 : Int32) (s1 : Int32) : Prop := K100 x1 x3 (s1 + s0) (x5 + 1)
def v_X4_isTeam_163 (n : Nat) (se : Int32) (li : Int32) (wm : Int32) (ch : Int32) (ne : Int32) (np : Int32) (al : Int32) (wo : Int32) (kn : Nat → Int32) (sp : Nat → Int32) (py : Nat → Int32) (il : Nat → Int32) (fl : Nat → Int32) (wa : Nat → Int32) (bo : Nat → Int32) (so : Nat → Int32) (sd : Nat → Int32) (ro : Nat → Int32) (cp : Nat → Int32) (nr : Nat → Int32) (ti : Nat → Int32) (on : Nat → Int32) (he : Nat → Int32) (la : Nat → Int32) (post : Int32 → (Unit) → Prop) (K4 : Int32 → Int32 → Int32 → Prop) (K85 : Int32 → Int32 → Int32 → Prop) (K100 : Int32 → Int32 → Int32 → Int32 → Prop) (x1 : Int32) (x3 : Int32) (s0 : Int32) : Prop := K85 x1 s0 (x3 + 1)
def v_X4_isTeam_158 (n : Nat) (se : Int32) (li : Int32) (wm : Int32) (ch : Int32) (ne : Int32) (np : Int32) (al : Int32) (wo : Int32) (kn : Nat → Int32) (sp : Nat → Int32) (py : Nat → Int32) (il : Nat → Int32) (fl : Nat → Int32) (wa : Nat → Int32) (bo : Nat → Int32) (so : Nat → Int32) (sd : Nat → Int32) (ro : Nat → Int32) (cp : Nat → Int32) (nr : Nat → Int32) (ti : Nat → Int32) (on : Nat → Int32) (he : Nat → Int32) (la : Nat → Int32) (post : Int32 → (Unit) → Prop) (K4 : Int32 → Int32 → Int32 → Prop) (K85 : Int32 → Int32 → Int32 → Prop) (K100 : Int32 → Int32 → Int32 → Int32 → Prop) (x1 : Int32) (x3 : Int32) : Prop := v_X4_isTeam_163 n se li wm ch ne np al wo kn sp py il fl wa bo so sd ro cp nr ti on he la post K4 K85 K100 x1 x3 (1 : Int32)
def v_X4_isTeam_100 (n : Nat) (se : Int32) (li : Int32) (wm : Int32) (ch : Int32) (ne : Int32) (np : Int32) (al : Int32) (wo : Int32) (kn : Nat → Int32) (sp : Nat → Int32) (py : Nat → Int32) (il : Nat → Int32) (fl : Nat → Int32) (wa : Nat → Int32) (bo : Nat → Int32) (so : Nat → Int32) (sd : Nat → Int32) (ro : Nat → Int32) (cp : Nat → Int32) (nr : Nat → Int32) (ti : Nat → Int32) (on : Nat → Int32) (he : Nat → Int32) (la : Nat → Int32) (post : Int32 → (Unit) → Prop) (K4 : Int32 → Int32 → Int32 → Prop) (K85 : Int32 → Int32 → Int32 → Prop) (K100 : Int32 → Int32 → Int32 → Int32 → Prop) (x1 : Int32) (x3 : Int32) (x4 : Int32) (x5 : Int32) : Prop := (((nI n) ≤ x5 → (vp_in x1 2 ∧ (((bI (hs (wa x1.toNatClampNeg) x3)) = 0 → v_X4_isTeam_158 n se li wm ch ne np al wo kn sp py il fl wa bo so sd ro cp nr ti on he la post K4 K85 K100 x1 x3) ∧ (¬ (bI (hs (wa x1.toNatClampNeg) x3)) = 0 → ((x4 = se → v_X4_isTeam_158 n se li wm ch ne np al wo kn sp py il fl wa bo so sd ro cp nr ti on he la post K4 K85 K100 x1 x3) ∧ (¬ x4 = se → v_X4_isTeam_163 n se li wm ch ne np al wo kn sp py il fl wa bo so sd ro cp nr ti on he la post K4 K85 K100 x1 x3 (0 : Int32))))))) ∧ (¬ (nI n) ≤ x5 → (vp_in x5 6 ∧ (((ro x5.toNatClampNeg) = x3 → v_X4_isTeam_127 n se li wm ch ne np al wo kn sp py il fl wa bo so sd ro cp nr ti on he la post K4 K85 K100 x1 x3 x5 (1 : Int32) x4) ∧ (¬ (ro x5.toNatClampNeg) = x3 → v_X4_isTeam_127 n se li wm ch ne np al wo kn sp py il fl wa bo so sd ro cp nr ti on he la post K4 K85 K100 x1 x3 x5 (0 : Int32) x4)))))
def v_X4_allKnow_0 (n : Nat) (se : Int32) (li : Int32) (wm : Int32) (ch : Int32) (ne : Int32) (np : Int32) (al : Int32) (wo : Int32) (kn : Nat → Int32) (sp : Nat → Int32) (py : Nat → Int32) (il : Nat → Int32) (fl : Nat → Int32) (wa : Nat → Int32) (bo : Nat → Int32) (so : Nat → Int32) (sd : Nat → Int32) (ro : Nat → Int32) (cp : Nat → Int32) (nr : Nat → Int32) (ti : Nat → Int32) (on : Nat → Int32) (he : Nat → Int32) (la : Nat → Int32) (post : Int32 → (Unit) → Prop) (K5 : Int32 → Int32 → Int32 → Int32 → Prop) (a1 : Int32) (a2 : Int32) : Prop := K5 a1 a2 (1 : Int32) (0 : Int32)
def v_X4_allKnow_48 (n : Nat) (se : Int32) (li : Int32) (wm : Int32) (ch : Int32) (ne : Int32) (np : Int32) (al : Int32) (wo : Int32) (kn : Nat → Int32) (sp : Nat → Int32) (py : Nat → Int32) (il : Nat → Int32) (fl : Nat → Int32) (wa : Nat → Int32) (bo : Nat → Int32) (so : Nat → Int32) (sd : Nat → Int32) (ro : Nat → Int32) (cp : Nat → Int32) (nr : Nat → Int32) (ti : Nat → Int32) (on : Nat → Int32) (he : Nat → Int32) (la : Nat → Int32) (post : Int32 → (Unit) → Prop) (K5 : Int32 → Int32 → Int32 → Int32 → Prop) (x1 : Int32) (x2 : Int32) (x4 : Int32) (s0 : Int32) : Prop := K5 x1 x2 s0 (x4 + 1)
def v_X4_allKnow_43 (n : Nat) (se : Int32) (li : Int32) (wm : Int32) (ch : Int32) (ne : Int32) (np : Int32) (al : Int32) (wo : Int32) (kn : Nat → Int32) (sp : Nat → Int32) (py : Nat → Int32) (il : Nat → Int32) (fl : Nat → Int32) (wa : Nat → Int32) (bo : Nat → Int32) (so : Nat → Int32) (sd : Nat → Int32) (ro : Nat → Int32) (cp : Nat → Int32) (nr : Nat → Int32) (ti : Nat → Int32) (on : Nat → Int32) (he : Nat → Int32) (la : Nat → Int32) (post : Int32 → (Unit) → Prop) (K5 : Int32 → Int32 → Int32 → Int32 → Prop) (x1 : Int32) (x2 : Int32) (x4 : Int32) : Prop := v_X4_allKnow_48 n se li wm ch ne np al wo kn sp py il fl wa bo so sd ro cp nr ti on he la post K5 x1 x2 x4 (1 : Int32)
def v_X4_allKnow_47 (n : Nat) (se : Int32) (li : Int32) (wm : Int32) (ch : Int32) (ne : Int32) (np : Int32) (al : Int32) (wo : Int32) (kn : Nat → Int32) (sp : Nat → Int32) (py : Nat → Int32) (il : Nat → Int32) (fl : Nat → Int32) (wa : Nat → Int32) (bo : Nat → Int32) (so : Nat → Int32) (sd : Nat → Int32) (ro : Nat → Int32) (cp : Nat → Int32) (nr : Nat → Int32) (ti : Nat → Int32) (on : Nat → Int32) (he : Nat → Int32) (la : Nat → Int32) (post : Int32 → (Unit) → Prop) (K5 : Int32 → Int32 → Int32 → Int32 → Prop) (x1 : Int32) (x2 : Int32) (x4 : Int32) : Prop := v_X4_allKnow_48 n se li wm ch ne np al wo kn sp py il fl wa bo so sd ro cp nr ti on he la post K5 x1 x2 x4 (0 : Int32)
def v_X4_allKnow_5 (n : Nat) (se : Int32) (li : Int32) (wm : Int32) (ch : Int32) (ne : Int32) (np : Int32) (al : Int32) (wo : Int32) (kn : Nat → Int32) (sp : Nat → Int32) (py : Nat → Int32) (il : Nat → Int32) (fl : Nat → Int32) (wa : Nat → Int32) (bo : Nat → Int32) (so : Nat → Int32) (sd : Nat → Int32) (ro : Nat → Int32) (cp : Nat → Int32) (nr : Nat → Int32) (ti : Nat → Int32) (on : Nat → Int32) (he : Nat → Int32) (la : Nat → Int32) (post : Int32 → (Unit) → Prop) (K5 : Int32 → Int32 → Int32 → Int32 → Prop) (x1 : Int32) (x2 : Int32) (x3 : Int32) (x4 : Int32) : Prop := (((nI n) ≤ x4 → (narrow .boolean (.int x3) = .int x3 ∧ post x3 ())) ∧ (¬ (nI n) ≤ x4 → ((x3 = 0 → v_X4_allKnow_47 n se li wm ch ne np al wo kn sp py il fl wa bo so sd ro cp nr ti on he la post K5 x1 x2 x4) ∧ (¬ x3 = 0 → (vp_in x4 6 ∧ (((ro x4.toNatClampNeg) = x1 → (vp_in x4 6 ∧ (((bI (hs (kn x4.toNatClampNeg) x2)) = 0 → v_X4_allKnow_47 n se li wm ch ne np al wo kn sp py il fl wa bo so sd ro cp nr ti on he la post K5 x1 x2 x4) ∧ (¬ (bI (hs (kn x4.toNatClampNeg) x2)) = 0 → v_X4_allKnow_43 n se li wm ch ne np al wo kn sp py il fl wa bo so sd ro cp nr ti on he la post K5 x1 x2 x4)))) ∧ (¬ (ro x4.toNatClampNeg) = x1 → v_X4_allKnow_43 n se li wm ch ne np al wo kn sp py il fl wa bo so sd ro cp nr ti on he la post K5 x1 x2 x4)))))))
def v_X4_isWhole_0 (n : Nat) (se : Int32) (li : Int32) (wm : Int32) (ch : Int32) (ne : Int32) (np : Int32) (al : Int32) (wo : Int32) (kn : Nat → Int32) (sp : Nat → Int32) (py : Nat → Int32) (il : Nat → Int32) (fl : Nat → Int32) (wa : Nat → Int32) (bo : Nat → Int32) (so : Nat → Int32) (sd : Nat → Int32) (ro : Nat → Int32) (cp : Nat → Int32) (nr : Nat → Int32) (ti : Nat → Int32) (on : Nat → Int32) (he : Nat → Int32) (la : Nat → Int32) (post : Int32 → (Unit) → Prop) (K4 : Int32 → Int32 → Int32 → Prop) (K12 : Int32 → Int32 → Int32 → Int32 → Prop) (K63 : Int32 → Int32 → Int32 → Int32 → Int32 → Int32 → Prop) (a1 : Int32) : Prop := K4 a1 (1 : Int32) (0 : Int32)
def v_X4_isWhole_4 (n : Nat) (se : Int32) (li : Int32) (wm : Int32) (ch : Int32) (ne : Int32) (np : Int32) (al : Int32) (wo : Int32) (kn : Nat → Int32) (sp : Nat → Int32) (py : Nat → Int32) (il : Nat → Int32) (fl : Nat → Int32) (wa : Nat → Int32) (bo : Nat → Int32) (so : Nat → Int32) (sd : Nat → Int32) (ro : Nat → Int32) (cp : Nat → Int32) (nr : Nat → Int32) (ti : Nat → Int32) (on : Nat → Int32) (he : Nat → Int32) (la : Nat → Int32) (post : Int32 → (Unit) → Prop) (K4 : Int32 → Int32 → Int32 → Prop) (K12 : Int32 → Int32 → Int32 → Int32 → Prop) (K63 : Int32 → Int32 → Int32 → Int32 → Int32 → Int32 → Prop) (x1 : Int32) (x2 : Int32) (x3 : Int32) : Prop := (((5 : Int32) ≤ x3 → (narrow .boolean (.int x2) = .int x2 ∧ post x2 ())) ∧ (¬ (5 : Int32) ≤ x3 → K12 x1 x2 x3 (0 : Int32)))
def v_X4_isWhole_150 (n : Nat) (se : Int32) (li : Int32) (wm : Int32) (ch : Int32) (ne : Int32) (np : Int32) (al : Int32) (wo : Int32) (kn : Nat → Int32) (sp : Nat → Int32) (py : Nat → Int32) (il : Nat → Int32) (fl : Nat → Int32) (wa : Nat → Int32) (bo : Nat → Int32) (so : Nat → Int32) (sd : Nat → Int32) (ro : Nat → Int32) (cp : Nat → Int32) (nr : Nat → Int32) (ti : Nat → Int32) (on : Nat → Int32) (he : Nat → Int32) (la : Nat → Int32) (post : Int32 → (Unit) → Prop) (K4 : Int32 → Int32 → Int32 → Prop) (K12 : Int32 → Int32 → Int32 → Int32 → Prop) (K63 : Int32 → Int32 → Int32 → Int32 → Int32 → Int32 → Prop) (x1 : Int32) (x2 : Int32) (x3 : Int32) (x4 : Int32) : Prop := K12 x1 x2 x3 (x4 + 1)
def v_X4_isWhole_12 (n : Nat) (se : Int32) (li : Int32) (wm : Int32) (ch : Int32) (ne : Int32) (np : Int32) (al : Int32) (wo : Int32) (kn : Nat → Int32) (sp : Nat → Int32) (py : Nat → Int32) (il : Nat → Int32) (fl : Nat → Int32) (wa : Nat → Int32) (bo : Nat → Int32) (so : Nat → Int32) (sd : Nat → Int32) (ro : Nat → Int32) (cp : Nat → Int32) (nr : Nat → Int32) (ti : Nat → Int32) (on : Nat → Int32) (he : Nat → Int32) (la : Nat → Int32) (post : Int32 → (Unit) → Prop) (K4 : Int32 → Int32 → Int32 → Prop) (K12 : Int32 → Int32 → Int32 → Int32 → Prop) (K63 : Int32 → Int32 → Int32 → Int32 → Int32 → Int32 → Prop) (x1 : Int32) (x2 : Int32) (x3 : Int32) (x4 : Int32) : Prop := (((5 : Int32) ≤ x4 → K4 x1 x2 (x3 + 1)) ∧ (¬ (5 : Int32) ≤ x4 → (vp_in x1 2 ∧ (((bI (hs (fl x1.toNatClampNeg) x3)) = 0 → v_X4_isWhole_150 n se li wm ch ne np al wo kn sp py il fl wa bo so sd ro cp nr ti on he la post K4 K12 K63 x1 x2 x3 x4) ∧ (¬ (bI (hs (fl x1.toNatClampNeg) x3)) = 0 → (vp_in x1 2 ∧ (((bI (hs (wa x1.toNatClampNeg) x4)) = 0 → v_X4_isWhole_150 n se li wm ch ne np al wo kn sp py il fl wa bo so sd ro cp nr ti on he la post K4 K12 K63 x1 x2 x3 x4) ∧ (¬ (bI (hs (wa x1.toNatClampNeg) x4)) = 0 → ((x4 = x3 → v_X4_isWhole_150 n se li wm ch ne np al wo kn sp py il fl wa bo so sd ro cp nr ti on he la post K4 K12 K63 x1 x2 x3 x4) ∧ (¬ x4 = x3 → K63 x1 x2 x3 x4 (bI (akF kn ro x4 x3 n)) (0 : Int32)))))))))))
def v_X4_isWhole_127 (n : Nat) (se : Int32) (li : Int32) (wm : Int32) (ch : Int32) (ne : Int32) (np : Int32) (al : Int32) (wo : Int32) (kn : Nat → Int32) (sp : Nat → Int32) (py : Nat → Int32) (il : Nat → Int32) (fl : Nat → Int32) (wa : Nat → Int32) (bo : Nat → Int32) (so : Nat → Int32) (sd : Nat → Int32) (ro : Nat → Int32) (cp : Nat → Int32) (nr : Nat → Int32) (ti : Nat → Int32) (on : Nat → Int32) (he : Nat → Int32) (la : Nat → Int32) (post : Int32 → (Unit) → Prop) (K4 : Int32 → Int32 → Int32 → Prop) (K12 : Int32 → Int32 → Int32 → Int32 → Prop) (K63 : Int32 → Int32 → Int32 → Int32 → Int32 → Int32 → Prop) (x1 : Int32) (x2 : Int32) (x3 : Int32) (x4 : Int32) (x6 : Int32) (s0 : Int32) : Prop := K63 x1 x2 x3 x4 s0 (x6 + 1)
def v_X4_isWhole_122 (n : Nat) (se : Int32) (li : Int32) (wm : Int32) (ch : Int32) (ne : Int32) (np : Int32) (al : Int32) (wo : Int32) (kn : Nat → Int32) (sp : Nat → Int32) (py : Nat → Int32) (il : Nat → Int32) (fl : Nat → Int32) (wa : Nat → Int32) (bo : Nat → Int32) (so : Nat → Int32) (sd : Nat → Int32) (ro : Nat → Int32) (cp : Nat → Int32) (nr : Nat → Int32) (ti : Nat → Int32) (on : Nat → Int32) (he : Nat → Int32) (la : Nat → Int32) (post : Int32 → (Unit) → Prop) (K4 : Int32 → Int32 → Int32 → Prop) (K12 : Int32 → Int32 → Int32 → Int32 → Prop) (K63 : Int32 → Int32 → Int32 → Int32 → Int32 → Int32 → Prop) (x1 : Int32) (x2 : Int32) (x3 : Int32) (x4 : Int32) (x6 : Int32) : Prop := v_X4_isWhole_127 n se li wm ch ne np al wo kn sp py il fl wa bo so sd ro cp nr ti on he la post K4 K12 K63 x1 x2 x3 x4 x6 (1 : Int32)
def v_X4_isWhole_126 (n : Nat) (se : Int32) (li : Int32) (wm : Int32) (ch : Int32) (ne : Int32) (np : Int32) (al : Int32) (wo : Int32) (kn : Nat → Int32) (sp : Nat → Int32) (py : Nat → Int32) (il : Nat → Int32) (fl : Nat → Int32) (wa : Nat → Int32) (bo : Nat → Int32) (so : Nat → Int32) (sd : Nat → Int32) (ro : Nat → Int32) (cp : Nat → Int32) (nr : Nat → Int32) (ti : Nat → Int32) (on : Nat → Int32) (he : Nat → Int32) (la : Nat → Int32) (post : Int32 → (Unit) → Prop) (K4 : Int32 → Int32 → Int32 → Prop) (K12 : Int32 → Int32 → Int32 → Int32 → Prop) (K63 : Int32 → Int32 → Int32 → Int32 → Int32 → Int32 → Prop) (x1 : Int32) (x2 : Int32) (x3 : Int32) (x4 : Int32) (x6 : Int32) : Prop := v_X4_isWhole_127 n se li wm ch ne np al wo kn sp py il fl wa bo so sd ro cp nr ti on he la post K4 K12 K63 x1 x2 x3 x4 x6 (0 : Int32)
def v_X4_isWhole_149 (n : Nat) (se : Int32) (li : Int32) (wm : Int32) (ch : Int32) (ne : Int32) (np : Int32) (al : Int32) (wo : Int32) (kn : Nat → Int32) (sp : Nat → Int32) (py : Nat → Int32) (il : Nat → Int32) (fl : Nat → Int32) (wa : Nat → Int32) (bo : Nat → Int32) (so : Nat → Int32) (sd : Nat → Int32) (ro : Nat → Int32) (cp : Nat → Int32) (nr : Nat → Int32) (ti : Nat → Int32) (on : Nat → Int32) (he : Nat → Int32) (la : Nat → Int32) (post : Int32 → (Unit) → Prop) (K4 : Int32 → Int32 → Int32 → Prop) (K12 : Int32 → Int32 → Int32 → Int32 → Prop) (K63 : Int32 → Int32 → Int32 → Int32 → Int32 → Int32 → Prop) (x1 : Int32) (x3 : Int32) (x4 : Int32) (s0 : Int32) : Prop := v_X4_isWhole_150 n se li wm ch ne np al wo kn sp py il fl wa bo so sd ro cp nr ti on he la post K4 K12 K63 x1 s0 x3 x4
def v_X4_isWhole_148 (n : Nat) (se : Int32) (li : Int32) (wm : Int32) (ch : Int32) (ne : Int32) (np : Int32) (al : Int32) (wo : Int32) (kn : Nat → Int32) (sp : Nat → Int32) (py : Nat → Int32) (il : Nat → Int32) (fl : Nat → Int32) (wa : Nat → Int32) (bo : Nat → Int32) (so : Nat → Int32) (sd : Nat → Int32) (ro : Nat → Int32) (cp : Nat → Int32) (nr : Nat → Int32) (ti : Nat → Int32) (on : Nat → Int32) (he : Nat → Int32) (la : Nat → Int32) (post : Int32 → (Unit) → Prop) (K4 : Int32 → Int32 → Int32 → Prop) (K12 : Int32 → Int32 → Int32 → Int32 → Prop) (K63 : Int32 → Int32 → Int32 → Int32 → Int32 → Int32 → Prop) (x1 : Int32) (x3 : Int32) (x4 : Int32) : Prop := v_X4_isWhole_149 n se li wm ch ne np al wo kn sp py il fl wa bo so sd ro cp nr ti on he la post K4 K12 K63 x1 x3 x4 (0 : Int32)
def v_X4_isWhole_63 (n : Nat) (se : Int32) (li : Int32) (wm : Int32) (ch : Int32) (ne : Int32) (np : Int32) (al : Int32) (wo : Int32) (kn : Nat → Int32) (sp : Nat → Int32) (py : Nat → Int32) (il : Nat → Int32) (fl : Nat → Int32) (wa : Nat → Int32) (bo : Nat → Int32) (so : Nat → Int32) (sd : Nat → Int32) (ro : Nat → Int32) (cp : Nat → Int32) (nr : Nat → Int32) (ti : Nat → Int32) (on : Nat → Int32) (he : Nat → Int32) (la : Nat → Int32) (post : Int32 → (Unit) → Prop) (K4 : Int32 → Int32 → Int32 → Prop) (K12 : Int32 → Int32 → Int32 → Int32 → Prop) (K63 : Int32 → Int32 → Int32 → Int32 → Int32 → Int32 → Prop) (x1 : Int32) (x2 : Int32) (x3 : Int32) (x4 : Int32) (x5 : Int32) (x6 : Int32) : Prop := (((5 : Int32) ≤ x6 → ((x2 = 0 → v_X4_isWhole_148 n se li wm ch ne np al wo kn sp py il fl wa bo so sd ro cp nr ti on he la post K4 K12 K63 x1 x3 x4) ∧ (¬ x2 = 0 → ((x5 = 0 → v_X4_isWhole_148 n se li wm ch ne np al wo kn sp py il fl wa bo so sd ro cp nr ti on he la post K4 K12 K63 x1 x3 x4) ∧ (¬ x5 = 0 → v_X4_isWhole_149 n se li wm ch ne np al wo kn sp py il fl wa bo so sd ro cp nr ti on he la post K4 K12 K63 x1 x3 x4 (1 : Int32)))))) ∧ (¬ (5 : Int32) ≤ x6 → ((x5 = 0 → (vp_in x1 2 ∧ (((bI (hs (wa x1.toNatClampNeg) x6)) = 0 → v_X4_isWhole_126 n se li wm ch ne np al wo kn sp py il fl wa bo so sd ro cp nr ti on he la post K4 K12 K63 x1 x2 x3 x4 x6) ∧ (¬ (bI (hs (wa x1.toNatClampNeg) x6)) = 0 → ((x6 = x3 → v_X4_isWhole_126 n se li wm ch ne np al wo kn sp py il fl wa bo so sd ro cp nr ti on he la post K4 K12 K63 x1 x2 x3 x4 x6) ∧ (¬ x6 = x3 → ((x6 = x4 → v_X4_isWhole_126 n se li wm ch ne np al wo kn sp py il fl wa bo so sd ro cp nr ti on he la post K4 K12 K63 x1 x2 x3 x4 x6) ∧ (¬ x6 = x4 → (((bI (akF kn ro x4 x6 n)) = 0 → v_X4_isWhole_126 n se li wm ch ne np al wo kn sp py il fl wa bo so sd ro cp nr ti on he la post K4 K12 K63 x1 x2 x3 x4 x6) ∧ (¬ (bI (akF kn ro x4 x6 n)) = 0 → (((bI (akF kn ro x6 x3 n)) = 0 → v_X4_isWhole_126 n se li wm ch ne np al wo kn sp py il fl wa bo so sd ro cp nr ti on he la post K4 K12 K63 x1 x2 x3 x4 x6) ∧ (¬ (bI (akF kn ro x6 x3 n)) = 0 → v_X4_isWhole_122 n se li wm ch ne np al wo kn sp py il fl wa bo so sd ro cp nr ti on he la post K4 K12 K63 x1 x2 x3 x4 x6)))))))))))) ∧ (¬ x5 = 0 → v_X4_isWhole_122 n se li wm ch ne np al wo kn sp py il fl wa bo so sd ro cp nr ti on he la post K4 K12 K63 x1 x2 x3 x4 x6))))
def v_X4_findTeams_0 (n : Nat) (se : Int32) (li : Int32) (wo : Int32) (kn : Nat → Int32) (sp : Nat → Int32) (py : Nat → Int32) (il : Nat → Int32) (fl : Nat → Int32) (wa : Nat → Int32) (bo : Nat → Int32) (so : Nat → Int32) (sd : Nat → Int32) (ti : Nat → Int32) (on : Nat → Int32) (he : Nat → Int32) (la : Nat → Int32) (post : (Int32 × Int32 × Int32 × Int32 × Int32 × (Nat → Int32) × (Nat → Int32) × (Nat → Int32)) → Prop) (K25 : Int32 → Int32 → Int32 → Int32 → Int32 → Int32 → Int32 → Int32 → (Nat → Int32) → (Nat → Int32) → (Nat → Int32) → Prop) (K46 : Int32 → Int32 → Int32 → Int32 → Int32 → Int32 → Int32 → Int32 → (Nat → Int32) → (Nat → Int32) → (Nat → Int32) → Prop) (K62 : Int32 → Int32 → Int32 → Int32 → Int32 → Int32 → Int32 → Int32 → Int32 → Int32 → (Nat → Int32) → (Nat → Int32) → (Nat → Int32) → Prop) (K117 : Int32 → Int32 → Int32 → Int32 → Int32 → Int32 → Int32 → Int32 → Int32 → Int32 → Int32 → (Nat → Int32) → (Nat → Int32) → (Nat → Int32) → Prop) (K298 : Int32 → Int32 → Int32 → Int32 → Int32 → Int32 → Int32 → Int32 → Int32 → Int32 → Int32 → Int32 → Int32 → (Nat → Int32) → (Nat → Int32) → (Nat → Int32) → Prop) (a1 : Int32) (wm : Int32) (ch : Int32) (ne : Int32) (np : Int32) (al : Int32) (ro : Nat → Int32) (cp : Nat → Int32) (nr : Nat → Int32) : Prop := K25 a1 (1 : Int32) (0 : Int32) (0 : Int32) (-1 : Int32) (-1 : Int32) np (63 : Int32) ro cp nr
def v_X4_findTeams_25 (n : Nat) (se : Int32) (li : Int32) (wo : Int32) (kn : Nat → Int32) (sp : Nat → Int32) (py : Nat → Int32) (il : Nat → Int32) (fl : Nat → Int32) (wa : Nat → Int32) (bo : Nat → Int32) (so : Nat → Int32) (sd : Nat → Int32) (ti : Nat → Int32) (on : Nat → Int32) (he : Nat → Int32) (la : Nat → Int32) (post : (Int32 × Int32 × Int32 × Int32 × Int32 × (Nat → Int32) × (Nat → Int32) × (Nat → Int32)) → Prop) (K25 : Int32 → Int32 → Int32 → Int32 → Int32 → Int32 → Int32 → Int32 → (Nat → Int32) → (Nat → Int32) → (Nat → Int32) → Prop) (K46 : Int32 → Int32 → Int32 → Int32 → Int32 → Int32 → Int32 → Int32 → (Nat → Int32) → (Nat → Int32) → (Nat → Int32) → Prop) (K62 : Int32 → Int32 → Int32 → Int32 → Int32 → Int32 → Int32 → Int32 → Int32 → Int32 → (Nat → Int32) → (Nat → Int32) → (Nat → Int32) → Prop) (K117 : Int32 → Int32 → Int32 → Int32 → Int32 → Int32 → Int32 → Int32 → Int32 → Int32 → Int32 → (Nat → Int32) → (Nat → Int32) → (Nat → Int32) → Prop) (K298 : Int32 → Int32 → Int32 → Int32 → Int32 → Int32 → Int32 → Int32 → Int32 → Int32 → Int32 → Int32 → Int32 → (Nat → Int32) → (Nat → Int32) → (Nat → Int32) → Prop) (x1 : Int32) (x2 : Int32) (x3 : Int32) (wm_ : Int32) (ch_ : Int32) (ne_ : Int32) (np_ : Int32) (al_ : Int32) (ro_ : Nat → Int32) (cp_ : Nat → Int32) (nr_ : Nat → Int32) : Prop := (((nI n) ≤ x3 → K46 x1 x2 (0 : Int32) wm_ ch_ ne_ np_ al_ ro_ cp_ nr_) ∧ (¬ (nI n) ≤ x3 → K25 x1 (x2 * (6 : Int32)) (x3 + 1) wm_ ch_ ne_ np_ al_ ro_ cp_ nr_))
def v_X4_findTeams_46 (n : Nat) (se : Int32) (li : Int32) (wo : Int32) (kn : Nat → Int32) (sp : Nat → Int32) (py : Nat → Int32) (il : Nat → Int32) (fl : Nat → Int32) (wa : Nat → Int32) (bo : Nat → Int32) (so : Nat → Int32) (sd : Nat → Int32) (ti : Nat → Int32) (on : Nat → Int32) (he : Nat → Int32) (la : Nat → Int32) (post : (Int32 × Int32 × Int32 × Int32 × Int32 × (Nat → Int32) × (Nat → Int32) × (Nat → Int32)) → Prop) (K25 : Int32 → Int32 → Int32 → Int32 → Int32 → Int32 → Int32 → Int32 → (Nat → Int32) → (Nat → Int32) → (Nat → Int32) → Prop) (K46 : Int32 → Int32 → Int32 → Int32 → Int32 → Int32 → Int32 → Int32 → (Nat → Int32) → (Nat → Int32) → (Nat → Int32) → Prop) (K62 : Int32 → Int32 → Int32 → Int32 → Int32 → Int32 → Int32 → Int32 → Int32 → Int32 → (Nat → Int32) → (Nat → Int32) → (Nat → Int32) → Prop) (K117 : Int32 → Int32 → Int32 → Int32 → Int32 → Int32 → Int32 → Int32 → Int32 → Int32 → Int32 → (Nat → Int32) → (Nat → Int32) → (Nat → Int32) → Prop) (K298 : Int32 → Int32 → Int32 → Int32 → Int32 → Int32 → Int32 → Int32 → Int32 → Int32 → Int32 → Int32 → Int32 → (Nat → Int32) → (Nat → Int32) → (Nat → Int32) → Prop) (x1 : Int32) (x2 : Int32) (x3 : Int32) (wm_ : Int32) (ch_ : Int32) (ne_ : Int32) (np_ : Int32) (al_ : Int32) (ro_ : Nat → Int32) (cp_ : Nat → Int32) (nr_ : Nat → Int32) : Prop := ((x2 ≤ x3 → post (wm_, ch_, ne_, np_, al_, ro_, cp_, nr_)) ∧ (¬ x2 ≤ x3 → K62 x1 x2 x3 x3 ((nI n) - (1 : Int32)) wm_ ch_ ne_ np_ al_ ro_ cp_ nr_))
def v_X4_findTeams_425 (n : Nat) (se : Int32) (li : Int32) (wo : Int32) (kn : Nat → Int32) (sp : Nat → Int32) (py : Nat → Int32) (il : Nat → Int32) (fl : Nat → Int32) (wa : Nat → Int32) (bo : Nat → Int32) (so : Nat → Int32) (sd : Nat → Int32) (ti : Nat → Int32) (on : Nat → Int32) (he : Nat → Int32) (la : Nat → Int32) (post : (Int32 × Int32 × Int32 × Int32 × Int32 × (Nat → Int32) × (Nat → Int32) × (Nat → Int32)) → Prop) (K25 : Int32 → Int32 → Int32 → Int32 → Int32 → Int32 → Int32 → Int32 → (Nat → Int32) → (Nat → Int32) → (Nat → Int32) → Prop) (K46 : Int32 → Int32 → Int32 → Int32 → Int32 → Int32 → Int32 → Int32 → (Nat → Int32) → (Nat → Int32) → (Nat → Int32) → Prop) (K62 : Int32 → Int32 → Int32 → Int32 → Int32 → Int32 → Int32 → Int32 → Int32 → Int32 → (Nat → Int32) → (Nat → Int32) → (Nat → Int32) → Prop) (K117 : Int32 → Int32 → Int32 → Int32 → Int32 → Int32 → Int32 → Int32 → Int32 → Int32 → Int32 → (Nat → Int32) → (Nat → Int32) → (Nat → Int32) → Prop) (K298 : Int32 → Int32 → Int32 → Int32 → Int32 → Int32 → Int32 → Int32 → Int32 → Int32 → Int32 → Int32 → Int32 → (Nat → Int32) → (Nat → Int32) → (Nat → Int32) → Prop) (x1 : Int32) (x2 : Int32) (x3 : Int32) (wm_ : Int32) (ch_ : Int32) (ne_ : Int32) (np_ : Int32) (al_ : Int32) (ro_ : Nat → Int32) (cp_ : Nat → Int32) (nr_ : Nat → Int32) : Prop := K46 x1 x2 (x3 + 1) wm_ ch_ ne_ np_ al_ ro_ cp_ nr_
def v_X4_findTeams_62 (n : Nat) (se : Int32) (li : Int32) (wo : Int32) (kn : Nat → Int32) (sp : Nat → Int32) (py : Nat → Int32) (il : Nat → Int32) (fl : Nat → Int32) (wa : Nat → Int32) (bo : Nat → Int32) (so : Nat → Int32) (sd : Nat → Int32) (ti : Nat → Int32) (on : Nat → Int32) (he : Nat → Int32) (la : Nat → Int32) (post : (Int32 × Int32 × Int32 × Int32 × Int32 × (Nat → Int32) × (Nat → Int32) × (Nat → Int32)) → Prop) (K25 : Int32 → Int32 → Int32 → Int32 → Int32 → Int32 → Int32 → Int32 → (Nat → Int32) → (Nat → Int32) → (Nat → Int32) → Prop) (K46 : Int32 → Int32 → Int32 → Int32 → Int32 → Int32 → Int32 → Int32 → (Nat → Int32) → (Nat → Int32) → (Nat → Int32) → Prop) (K62 : Int32 → Int32 → Int32 → Int32 → Int32 → Int32 → Int32 → Int32 → Int32 → Int32 → (Nat → Int32) → (Nat → Int32) → (Nat → Int32) → Prop) (K117 : Int32 → Int32 → Int32 → Int32 → Int32 → Int32 → Int32 → Int32 → Int32 → Int32 → Int32 → (Nat → Int32) → (Nat → Int32) → (Nat → Int32) → Prop) (K298 : Int32 → Int32 → Int32 → Int32 → Int32 → Int32 → Int32 → Int32 → Int32 → Int32 → Int32 → Int32 → Int32 → (Nat → Int32) → (Nat → Int32) → (Nat → Int32) → Prop) (x1 : Int32) (x2 : Int32) (x3 : Int32) (x4 : Int32) (x5 : Int32) (wm_ : Int32) (ch_ : Int32) (ne_ : Int32) (np_ : Int32) (al_ : Int32) (ro_ : Nat → Int32) (cp_ : Nat → Int32) (nr_ : Nat → Int32) : Prop := ((x5 < 0 → ((inB x1 2 = true) ∧ (((bI (itF n sp il (wa x1.toNatClampNeg) se ro_)) = 0 → v_X4_findTeams_425 n se li wo kn sp py il fl wa bo so sd ti on he la post K25 K46 K62 K117 K298 x1 x2 x3 wm_ ch_ ne_ np_ al_ ro_ cp_ nr_) ∧ (¬ (bI (itF n sp il (wa x1.toNatClampNeg) se ro_)) = 0 → ((inB x1 2 = true) ∧ (((bI (iwF n kn (fl x1.toNatClampNeg) (wa x1.toNatClampNeg) ro_)) = 0 → v_X4_findTeams_425 n se li wo kn sp py il fl wa bo so sd ti on he la post K25 K46 K62 K117 K298 x1 x2 x3 wm_ ch_ ne_ np_ al_ ro_ cp_ nr_) ∧ (¬ (bI (iwF n kn (fl x1.toNatClampNeg) (wa x1.toNatClampNeg) ro_)) = 0 → K117 x1 x2 x3 (0 : Int32) (0 : Int32) (0 : Int32) wm_ ch_ ne_ np_ al_ ro_ cp_ nr_))))))) ∧ (¬ x5 < 0 → (vp_in x5 6 ∧ K62 x1 x2 x3 (x4 / (6 : Int32)) (x5 + (-1)) wm_ ch_ ne_ np_ al_ (upd ro_ x5.toNatClampNeg (x4 - x4 / (6 : Int32) * (6 : Int32))) cp_ nr_)))
def v_X4_findTeams_210 (n : Nat) (se : Int32) (li : Int32) (wo : Int32) (kn : Nat → Int32) (sp : Nat → Int32) (py : Nat → Int32) (il : Nat → Int32) (fl : Nat → Int32) (wa : Nat → Int32) (bo : Nat → Int32) (so : Nat → Int32) (sd : Nat → Int32) (ti : Nat → Int32) (on : Nat → Int32) (he : Nat → Int32) (la : Nat → Int32) (post : (Int32 × Int32 × Int32 × Int32 × Int32 × (Nat → Int32) × (Nat → Int32) × (Nat → Int32)) → Prop) (K25 : Int32 → Int32 → Int32 → Int32 → Int32 → Int32 → Int32 → Int32 → (Nat → Int32) → (Nat → Int32) → (Nat → Int32) → Prop) (K46 : Int32 → Int32 → Int32 → Int32 → Int32 → Int32 → Int32 → Int32 → (Nat → Int32) → (Nat → Int32) → (Nat → Int32) → Prop) (K62 : Int32 → Int32 → Int32 → Int32 → Int32 → Int32 → Int32 → Int32 → Int32 → Int32 → (Nat → Int32) → (Nat → Int32) → (Nat → Int32) → Prop) (K117 : Int32 → Int32 → Int32 → Int32 → Int32 → Int32 → Int32 → Int32 → Int32 → Int32 → Int32 → (Nat → Int32) → (Nat → Int32) → (Nat → Int32) → Prop) (K298 : Int32 → Int32 → Int32 → Int32 → Int32 → Int32 → Int32 → Int32 → Int32 → Int32 → Int32 → Int32 → Int32 → (Nat → Int32) → (Nat → Int32) → (Nat → Int32) → Prop) (x1 : Int32) (x2 : Int32) (x3 : Int32) (x5 : Int32) (x6 : Int32) (x7 : Int32) (s0 : Int32) (wm_ : Int32) (ch_ : Int32) (ne_ : Int32) (np_ : Int32) (al_ : Int32) (ro_ : Nat → Int32) (cp_ : Nat → Int32) (nr_ : Nat → Int32) : Prop := K117 x1 x2 x3 x5 x6 (x7 + 1) wm_ ch_ ne_ np_ s0 ro_ cp_ nr_
def v_X4_findTeams_177 (n : Nat) (se : Int32) (li : Int32) (wo : Int32) (kn : Nat → Int32) (sp : Nat → Int32) (py : Nat → Int32) (il : Nat → Int32) (fl : Nat → Int32) (wa : Nat → Int32) (bo : Nat → Int32) (so : Nat → Int32) (sd : Nat → Int32) (ti : Nat → Int32) (on : Nat → Int32) (he : Nat → Int32) (la : Nat → Int32) (post : (Int32 × Int32 × Int32 × Int32 × Int32 × (Nat → Int32) × (Nat → Int32) × (Nat → Int32)) → Prop) (K25 : Int32 → Int32 → Int32 → Int32 → Int32 → Int32 → Int32 → Int32 → (Nat → Int32) → (Nat → Int32) → (Nat → Int32) → Prop) (K46 : Int32 → Int32 → Int32 → Int32 → Int32 → Int32 → Int32 → Int32 → (Nat → Int32) → (Nat → Int32) → (Nat → Int32) → Prop) (K62 : Int32 → Int32 → Int32 → Int32 → Int32 → Int32 → Int32 → Int32 → Int32 → Int32 → (Nat → Int32) → (Nat → Int32) → (Nat → Int32) → Prop) (K117 : Int32 → Int32 → Int32 → Int32 → Int32 → Int32 → Int32 → Int32 → Int32 → Int32 → Int32 → (Nat → Int32) → (Nat → Int32) → (Nat → Int32) → Prop) (K298 : Int32 → Int32 → Int32 → Int32 → Int32 → Int32 → Int32 → Int32 → Int32 → Int32 → Int32 → Int32 → Int32 → (Nat → Int32) → (Nat → Int32) → (Nat → Int32) → Prop) (x1 : Int32) (x2 : Int32) (x3 : Int32) (x5 : Int32) (x7 : Int32) (s0 : Int32) (s1 : Int32) (wm_ : Int32) (ch_ : Int32) (ne_ : Int32) (np_ : Int32) (al_ : Int32) (ro_ : Nat → Int32) (cp_ : Nat → Int32) (nr_ : Nat → Int32) : Prop := (vp_in x7 6 ∧ (((5 : Int32) ≤ (ro_ x7.toNatClampNeg) → v_X4_findTeams_210 n se li wo kn sp py il fl wa bo so sd ti on he la post K25 K46 K62 K117 K298 x1 x2 x3 x5 (s1 + s0) x7 (al_ &&& (((1 : Int32) <<< (x7 &&& 31)) ^^^ (-1 : Int32))) wm_ ch_ ne_ np_ al_ ro_ cp_ nr_) ∧ (¬ (5 : Int32) ≤ (ro_ x7.toNatClampNeg) → v_X4_findTeams_210 n se li wo kn sp py il fl wa bo so sd ti on he la post K25 K46 K62 K117 K298 x1 x2 x3 x5 (s1 + s0) x7 al_ wm_ ch_ ne_ np_ al_ ro_ cp_ nr_)))
def v_X4_findTeams_150 (n : Nat) (se : Int32) (li : Int32) (wo : Int32) (kn : Nat → Int32) (sp : Nat → Int32) (py : Nat → Int32) (il : Nat → Int32) (fl : Nat → Int32) (wa : Nat → Int32) (bo : Nat → Int32) (so : Nat → Int32) (sd : Nat → Int32) (ti : Nat → Int32) (on : Nat → Int32) (he : Nat → Int32) (la : Nat → Int32) (post : (Int32 × Int32 × Int32 × Int32 × Int32 × (Nat → Int32) × (Nat → Int32) × (Nat → Int32)) → Prop) (K25 : Int32 → Int32 → Int32 → Int32 → Int32 → Int32 → Int32 → Int32 → (Nat → Int32) → (Nat → Int32) → (Nat → Int32) → Prop) (K46 : Int32 → Int32 → Int32 → Int32 → Int32 → Int32 → Int32 → Int32 → (Nat → Int32) → (Nat → Int32) → (Nat → Int32) → Prop) (K62 : Int32 → Int32 → Int32 → Int32 → Int32 → Int32 → Int32 → Int32 → Int32 → Int32 → (Nat → Int32) → (Nat → Int32) → (Nat → Int32) → Prop) (K117 : Int32 → Int32 → Int32 → Int32 → Int32 → Int32 → Int32 → Int32 → Int32 → Int32 → Int32 → (Nat → Int32) → (Nat → Int32) → (Nat → Int32) → Prop) (K298 : Int32 → Int32 → Int32 → Int32 → Int32 → Int32 → Int32 → Int32 → Int32 → Int32 → Int32 → Int32 → Int32 → (Nat → Int32) → (Nat → Int32) → (Nat → Int32) → Prop) (x1 : Int32) (x2 : Int32) (x3 : Int32) (x6 : Int32) (x7 : Int32) (s0 : Int32) (s1 : Int32) (wm_ : Int32) (ch_ : Int32) (ne_ : Int32) (np_ : Int32) (al_ : Int32) (ro_ : Nat → Int32) (cp_ : Nat → Int32) (nr_ : Nat → Int32) : Prop := (vp_in x7 6 ∧ (vp_in x7 6 ∧ (((ro_ x7.toNatClampNeg) = (bo x7.toNatClampNeg) → v_X4_findTeams_177 n se li wo kn sp py il fl wa bo so sd ti on he la post K25 K46 K62 K117 K298 x1 x2 x3 (s1 + s0) x7 (0 : Int32) x6 wm_ ch_ ne_ np_ al_ ro_ cp_ nr_) ∧ (¬ (ro_ x7.toNatClampNeg) = (bo x7.toNatClampNeg) → v_X4_findTeams_177 n se li wo kn sp py il fl wa bo so sd ti on he la post K25 K46 K62 K117 K298 x1 x2 x3 (s1 + s0) x7 (1 : Int32) x6 wm_ ch_ ne_ np_ al_ ro_ cp_ nr_))))
def v_X4_findTeams_293 (n : Nat) (se : Int32) (li : Int32) (wo : Int32) (kn : Nat → Int32) (sp : Nat → Int32) (py : Nat → Int32) (il : Nat → Int32) (fl : Nat → Int32) (wa : Nat → Int32) (bo : Nat → Int32) (so : Nat → Int32) (sd : Nat → Int32) (ti : Nat → Int32) (on : Nat → Int32) (he : Nat → Int32) (la : Nat → Int32) (post : (Int32 × Int32 × Int32 × Int32 × Int32 × (Nat → Int32) × (Nat → Int32) × (Nat → Int32)) → Prop) (K25 : Int32 → Int32 → Int32 → Int32 → Int32 → Int32 → Int32 → Int32 → (Nat → Int32) → (Nat → Int32) → (Nat → Int32) → Prop) (K46 : Int32 → Int32 → Int32 → Int32 → Int32 → Int32 → Int32 → Int32 → (Nat → Int32) → (Nat → Int32) → (Nat → Int32) → Prop) (K62 : Int32 → Int32 → Int32 → Int32 → Int32 → Int32 → Int32 → Int32 → Int32 → Int32 → (Nat → Int32) → (Nat → Int32) → (Nat → Int32) → Prop) (K117 : Int32 → Int32 → Int32 → Int32 → Int32 → Int32 → Int32 → Int32 → Int32 → Int32 → Int32 → (Nat → Int32) → (Nat → Int32) → (Nat → Int32) → Prop) (K298 : Int32 → Int32 → Int32 → Int32 → Int32 → Int32 → Int32 → Int32 → Int32 → Int32 → Int32 → Int32 → Int32 → (Nat → Int32) → (Nat → Int32) → (Nat → Int32) → Prop) (x1 : Int32) (x2 : Int32) (x3 : Int32) (x5 : Int32) (x6 : Int32) (x7 : Int32) (s0 : Int32) (wm_ : Int32) (ch_ : Int32) (ne_ : Int32) (np_ : Int32) (al_ : Int32) (ro_ : Nat → Int32) (cp_ : Nat → Int32) (nr_ : Nat → Int32) : Prop := K298 x1 x2 x3 x5 x6 x7 s0 (0 : Int32) wm_ ch_ ne_ np_ al_ ro_ cp_ nr_
def v_X4_findTeams_288 (n : Nat) (se : Int32) (li : Int32) (wo : Int32) (kn : Nat → Int32) (sp : Nat → Int32) (py : Nat → Int32) (il : Nat → Int32) (fl : Nat → Int32) (wa : Nat → Int32) (bo : Nat → Int32) (so : Nat → Int32) (sd : Nat → Int32) (ti : Nat → Int32) (on : Nat → Int32) (he : Nat → Int32) (la : Nat → Int32) (post : (Int32 × Int32 × Int32 × Int32 × Int32 × (Nat → Int32) × (Nat → Int32) × (Nat → Int32)) → Prop) (K25 : Int32 → Int32 → Int32 → Int32 → Int32 → Int32 → Int32 → Int32 → (Nat → Int32) → (Nat → Int32) → (Nat → Int32) → Prop) (K46 : Int32 → Int32 → Int32 → Int32 → Int32 → Int32 → Int32 → Int32 → (Nat → Int32) → (Nat → Int32) → (Nat → Int32) → Prop) (K62 : Int32 → Int32 → Int32 → Int32 → Int32 → Int32 → Int32 → Int32 → Int32 → Int32 → (Nat → Int32) → (Nat → Int32) → (Nat → Int32) → Prop) (K117 : Int32 → Int32 → Int32 → Int32 → Int32 → Int32 → Int32 → Int32 → Int32 → Int32 → Int32 → (Nat → Int32) → (Nat → Int32) → (Nat → Int32) → Prop) (K298 : Int32 → Int32 → Int32 → Int32 → Int32 → Int32 → Int32 → Int32 → Int32 → Int32 → Int32 → Int32 → Int32 → (Nat → Int32) → (Nat → Int32) → (Nat → Int32) → Prop) (x1 : Int32) (x2 : Int32) (x3 : Int32) (x5 : Int32) (x6 : Int32) (x7 : Int32) (wm_ : Int32) (ch_ : Int32) (ne_ : Int32) (np_ : Int32) (al_ : Int32) (ro_ : Nat → Int32) (cp_ : Nat → Int32) (nr_ : Nat → Int32) : Prop := v_X4_findTeams_293 n se li wo kn sp py il fl wa bo so sd ti on he la post K25 K46 K62 K117 K298 x1 x2 x3 x5 x6 x7 (1 : Int32) wm_ ch_ ne_ np_ al_ ro_ cp_ nr_
def v_X4_findTeams_292 (n : Nat) (se : Int32) (li : Int32) (wo : Int32) (kn : Nat → Int32) (sp : Nat → Int32) (py : Nat → Int32) (il : Nat → Int32) (fl : Nat → Int32) (wa : Nat → Int32) (bo : Nat → Int32) (so : Nat → Int32) (sd : Nat → Int32) (ti : Nat → Int32) (on : Nat → Int32) (he : Nat → Int32) (la : Nat → Int32) (post : (Int32 × Int32 × Int32 × Int32 × Int32 × (Nat → Int32) × (Nat → Int32) × (Nat → Int32)) → Prop) (K25 : Int32 → Int32 → Int32 → Int32 → Int32 → Int32 → Int32 → Int32 → (Nat → Int32) → (Nat → Int32) → (Nat → Int32) → Prop) (K46 : Int32 → Int32 → Int32 → Int32 → Int32 → Int32 → Int32 → Int32 → (Nat → Int32) → (Nat → Int32) → (Nat → Int32) → Prop) (K62 : Int32 → Int32 → Int32 → Int32 → Int32 → Int32 → Int32 → Int32 → Int32 → Int32 → (Nat → Int32) → (Nat → Int32) → (Nat → Int32) → Prop) (K117 : Int32 → Int32 → Int32 → Int32 → Int32 → Int32 → Int32 → Int32 → Int32 → Int32 → Int32 → (Nat → Int32) → (Nat → Int32) → (Nat → Int32) → Prop) (K298 : Int32 → Int32 → Int32 → Int32 → Int32 → Int32 → Int32 → Int32 → Int32 → Int32 → Int32 → Int32 → Int32 → (Nat → Int32) → (Nat → Int32) → (Nat → Int32) → Prop) (x1 : Int32) (x2 : Int32) (x3 : Int32) (x5 : Int32) (x6 : Int32) (x7 : Int32) (wm_ : Int32) (ch_ : Int32) (ne_ : Int32) (np_ : Int32) (al_ : Int32) (ro_ : Nat → Int32) (cp_ : Nat → Int32) (nr_ : Nat → Int32) : Prop := v_X4_findTeams_293 n se li wo kn sp py il fl wa bo so sd ti on he la post K25 K46 K62 K117 K298 x1 x2 x3 x5 x6 x7 (0 : Int32) wm_ ch_ ne_ np_ al_ ro_ cp_ nr_
def v_X4_findTeams_251 (n : Nat) (se : Int32) (li : Int32) (wo : Int32) (kn : Nat → Int32) (sp : Nat → Int32) (py : Nat → Int32) (il : Nat → Int32) (fl : Nat → Int32) (wa : Nat → Int32) (bo : Nat → Int32) (so : Nat → Int32) (sd : Nat → Int32) (ti : Nat → Int32) (on : Nat → Int32) (he : Nat → Int32) (la : Nat → Int32) (post : (Int32 × Int32 × Int32 × Int32 × Int32 × (Nat → Int32) × (Nat → Int32) × (Nat → Int32)) → Prop) (K25 : Int32 → Int32 → Int32 → Int32 → Int32 → Int32 → Int32 → Int32 → (Nat → Int32) → (Nat → Int32) → (Nat → Int32) → Prop) (K46 : Int32 → Int32 → Int32 → Int32 → Int32 → Int32 → Int32 → Int32 → (Nat → Int32) → (Nat → Int32) → (Nat → Int32) → Prop) (K62 : Int32 → Int32 → Int32 → Int32 → Int32 → Int32 → Int32 → Int32 → Int32 → Int32 → (Nat → Int32) → (Nat → Int32) → (Nat → Int32) → Prop) (K117 : Int32 → Int32 → Int32 → Int32 → Int32 → Int32 → Int32 → Int32 → Int32 → Int32 → Int32 → (Nat → Int32) → (Nat → Int32) → (Nat → Int32) → Prop) (K298 : Int32 → Int32 → Int32 → Int32 → Int32 → Int32 → Int32 → Int32 → Int32 → Int32 → Int32 → Int32 → Int32 → (Nat → Int32) → (Nat → Int32) → (Nat → Int32) → Prop) (x1 : Int32) (x2 : Int32) (x3 : Int32) (x5 : Int32) (x6 : Int32) (s0 : Int32) (wm_ : Int32) (ch_ : Int32) (ne_ : Int32) (np_ : Int32) (al_ : Int32) (ro_ : Nat → Int32) (cp_ : Nat → Int32) (nr_ : Nat → Int32) : Prop := ((ne_ = (-1 : Int32) → v_X4_findTeams_288 n se li wo kn sp py il fl wa bo so sd ti on he la post K25 K46 K62 K117 K298 x1 x2 x3 x5 x6 s0 wm_ ch_ ne_ np_ al_ ro_ cp_ nr_) ∧ (¬ ne_ = (-1 : Int32) → ((x6 < ne_ → v_X4_findTeams_288 n se li wo kn sp py il fl wa bo so sd ti on he la post K25 K46 K62 K117 K298 x1 x2 x3 x5 x6 s0 wm_ ch_ ne_ np_ al_ ro_ cp_ nr_) ∧ (¬ x6 < ne_ → ((x6 = ne_ → ((np_ ≤ x5 → v_X4_findTeams_292 n se li wo kn sp py il fl wa bo so sd ti on he la post K25 K46 K62 K117 K298 x1 x2 x3 x5 x6 s0 wm_ ch_ ne_ np_ al_ ro_ cp_ nr_) ∧ (¬ np_ ≤ x5 → v_X4_findTeams_288 n se li wo kn sp py il fl wa bo so sd ti on he la post K25 K46 K62 K117 K298 x1 x2 x3 x5 x6 s0 wm_ ch_ ne_ np_ al_ ro_ cp_ nr_))) ∧ (¬ x6 = ne_ → v_X4_findTeams_292 n se li wo kn sp py il fl wa bo so sd ti on he la post K25 K46 K62 K117 K298 x1 x2 x3 x5 x6 s0 wm_ ch_ ne_ np_ al_ ro_ cp_ nr_))))))
def v_X4_findTeams_246 (n : Nat) (se : Int32) (li : Int32) (wo : Int32) (kn : Nat → Int32) (sp : Nat → Int32) (py : Nat → Int32) (il : Nat → Int32) (fl : Nat → Int32) (wa : Nat → Int32) (bo : Nat → Int32) (so : Nat → Int32) (sd : Nat → Int32) (ti : Nat → Int32) (on : Nat → Int32) (he : Nat → Int32) (la : Nat → Int32) (post : (Int32 × Int32 × Int32 × Int32 × Int32 × (Nat → Int32) × (Nat → Int32) × (Nat → Int32)) → Prop) (K25 : Int32 → Int32 → Int32 → Int32 → Int32 → Int32 → Int32 → Int32 → (Nat → Int32) → (Nat → Int32) → (Nat → Int32) → Prop) (K46 : Int32 → Int32 → Int32 → Int32 → Int32 → Int32 → Int32 → Int32 → (Nat → Int32) → (Nat → Int32) → (Nat → Int32) → Prop) (K62 : Int32 → Int32 → Int32 → Int32 → Int32 → Int32 → Int32 → Int32 → Int32 → Int32 → (Nat → Int32) → (Nat → Int32) → (Nat → Int32) → Prop) (K117 : Int32 → Int32 → Int32 → Int32 → Int32 → Int32 → Int32 → Int32 → Int32 → Int32 → Int32 → (Nat → Int32) → (Nat → Int32) → (Nat → Int32) → Prop) (K298 : Int32 → Int32 → Int32 → Int32 → Int32 → Int32 → Int32 → Int32 → Int32 → Int32 → Int32 → Int32 → Int32 → (Nat → Int32) → (Nat → Int32) → (Nat → Int32) → Prop) (x1 : Int32) (x2 : Int32) (x3 : Int32) (x5 : Int32) (x6 : Int32) (wm_ : Int32) (ch_ : Int32) (ne_ : Int32) (np_ : Int32) (al_ : Int32) (ro_ : Nat → Int32) (cp_ : Nat → Int32) (nr_ : Nat → Int32) : Prop := v_X4_findTeams_251 n se li wo kn sp py il fl wa bo so sd ti on he la post K25 K46 K62 K117 K298 x1 x2 x3 x5 x6 (1 : Int32) wm_ ch_ ne_ np_ al_ ro_ cp_ nr_
def v_X4_findTeams_117 (n : Nat) (se : Int32) (li : Int32) (wo : Int32) (kn : Nat → Int32) (sp : Nat → Int32) (py : Nat → Int32) (il : Nat → Int32) (fl : Nat → Int32) (wa : Nat → Int32) (bo : Nat → Int32) (so : Nat → Int32) (sd : Nat → Int32) (ti : Nat → Int32) (on : Nat → Int32) (he : Nat → Int32) (la : Nat → Int32) (post : (Int32 × Int32 × Int32 × Int32 × Int32 × (Nat → Int32) × (Nat → Int32) × (Nat → Int32)) → Prop) (K25 : Int32 → Int32 → Int32 → Int32 → Int32 → Int32 → Int32 → Int32 → (Nat → Int32) → (Nat → Int32) → (Nat → Int32) → Prop) (K46 : Int32 → Int32 → Int32 → Int32 → Int32 → Int32 → Int32 → Int32 → (Nat → Int32) → (Nat → Int32) → (Nat → Int32) → Prop) (K62 : Int32 → Int32 → Int32 → Int32 → Int32 → Int32 → Int32 → Int32 → Int32 → Int32 → (Nat → Int32) → (Nat → Int32) → (Nat → Int32) → Prop) (K117 : Int32 → Int32 → Int32 → Int32 → Int32 → Int32 → Int32 → Int32 → Int32 → Int32 → Int32 → (Nat → Int32) → (Nat → Int32) → (Nat → Int32) → Prop) (K298 : Int32 → Int32 → Int32 → Int32 → Int32 → Int32 → Int32 → Int32 → Int32 → Int32 → Int32 → Int32 → Int32 → (Nat → Int32) → (Nat → Int32) → (Nat → Int32) → Prop) (x1 : Int32) (x2 : Int32) (x3 : Int32) (x5 : Int32) (x6 : Int32) (x7 : Int32) (wm_ : Int32) (ch_ : Int32) (ne_ : Int32) (np_ : Int32) (al_ : Int32) (ro_ : Nat → Int32) (cp_ : Nat → Int32) (nr_ : Nat → Int32) : Prop := (((nI n) ≤ x7 → ((ch_ = (-1 : Int32) → v_X4_findTeams_246 n se li wo kn sp py il fl wa bo so sd ti on he la post K25 K46 K62 K117 K298 x1 x2 x3 x5 x6 (wm_ + (1 : Int32)) ch_ ne_ np_ al_ ro_ cp_ nr_) ∧ (¬ ch_ = (-1 : Int32) → ((ch_ ≤ x5 → v_X4_findTeams_251 n se li wo kn sp py il fl wa bo so sd ti on he la post K25 K46 K62 K117 K298 x1 x2 x3 x5 x6 (0 : Int32) (wm_ + (1 : Int32)) ch_ ne_ np_ al_ ro_ cp_ nr_) ∧ (¬ ch_ ≤ x5 → v_X4_findTeams_246 n se li wo kn sp py il fl wa bo so sd ti on he la post K25 K46 K62 K117 K298 x1 x2 x3 x5 x6 (wm_ + (1 : Int32)) ch_ ne_ np_ al_ ro_ cp_ nr_))))) ∧ (¬ (nI n) ≤ x7 → (vp_in x7 6 ∧ (((5 : Int32) ≤ (ro_ x7.toNatClampNeg) → v_X4_findTeams_150 n se li wo kn sp py il fl wa bo so sd ti on he la post K25 K46 K62 K117 K298 x1 x2 x3 x6 x7 (0 : Int32) x5 wm_ ch_ ne_ np_ al_ ro_ cp_ nr_) ∧ (¬ (5 : Int32) ≤ (ro_ x7.toNatClampNeg) → (vp_in x7 6 ∧ v_X4_findTeams_150 n se li wo kn sp py il fl wa bo so sd ti on he la post K25 K46 K62 K117 K298 x1 x2 x3 x6 x7 (py x7.toNatClampNeg) x5 wm_ ch_ ne_ np_ al_ ro_ cp_ nr_))))))
def v_X4_findTeams_364 (n : Nat) (se : Int32) (li : Int32) (wo : Int32) (kn : Nat → Int32) (sp : Nat → Int32) (py : Nat → Int32) (il : Nat → Int32) (fl : Nat → Int32) (wa : Nat → Int32) (bo : Nat → Int32) (so : Nat → Int32) (sd : Nat → Int32) (ti : Nat → Int32) (on : Nat → Int32) (he : Nat → Int32) (la : Nat → Int32) (post : (Int32 × Int32 × Int32 × Int32 × Int32 × (Nat → Int32) × (Nat → Int32) × (Nat → Int32)) → Prop) (K25 : Int32 → Int32 → Int32 → Int32 → Int32 → Int32 → Int32 → Int32 → (Nat → Int32) → (Nat → Int32) → (Nat → Int32) → Prop) (K46 : Int32 → Int32 → Int32 → Int32 → Int32 → Int32 → Int32 → Int32 → (Nat → Int32) → (Nat → Int32) → (Nat → Int32) → Prop) (K62 : Int32 → Int32 → Int32 → Int32 → Int32 → Int32 → Int32 → Int32 → Int32 → Int32 → (Nat → Int32) → (Nat → Int32) → (Nat → Int32) → Prop) (K117 : Int32 → Int32 → Int32 → Int32 → Int32 → Int32 → Int32 → Int32 → Int32 → Int32 → Int32 → (Nat → Int32) → (Nat → Int32) → (Nat → Int32) → Prop) (K298 : Int32 → Int32 → Int32 → Int32 → Int32 → Int32 → Int32 → Int32 → Int32 → Int32 → Int32 → Int32 → Int32 → (Nat → Int32) → (Nat → Int32) → (Nat → Int32) → Prop) (x1 : Int32) (x2 : Int32) (x3 : Int32) (x5 : Int32) (x6 : Int32) (x7 : Int32) (x8 : Int32) (x9 : Int32) (s0 : Int32) (s1 : Int32) (wm_ : Int32) (ch_ : Int32) (ne_ : Int32) (np_ : Int32) (al_ : Int32) (ro_ : Nat → Int32) (cp_ : Nat → Int32) (nr_ : Nat → Int32) : Prop := (vp_in s1 6 ∧ K298 x1 x2 x3 x5 x6 x7 x8 (x9 + 1) wm_ ch_ ne_ np_ al_ ro_ cp_ (upd nr_ s1.toNatClampNeg s0))
def v_X4_findTeams_335 (n : Nat) (se : Int32) (li : Int32) (wo : Int32) (kn : Nat → Int32) (sp : Nat → Int32) (py : Nat → Int32) (il : Nat → Int32) (fl : Nat → Int32) (wa : Nat → Int32) (bo : Nat → Int32) (so : Nat → Int32) (sd : Nat → Int32) (ti : Nat → Int32) (on : Nat → Int32) (he : Nat → Int32) (la : Nat → Int32) (post : (Int32 × Int32 × Int32 × Int32 × Int32 × (Nat → Int32) × (Nat → Int32) × (Nat → Int32)) → Prop) (K25 : Int32 → Int32 → Int32 → Int32 → Int32 → Int32 → Int32 → Int32 → (Nat → Int32) → (Nat → Int32) → (Nat → Int32) → Prop) (K46 : Int32 → Int32 → Int32 → Int32 → Int32 → Int32 → Int32 → Int32 → (Nat → Int32) → (Nat → Int32) → (Nat → Int32) → Prop) (K62 : Int32 → Int32 → Int32 → Int32 → Int32 → Int32 → Int32 → Int32 → Int32 → Int32 → (Nat → Int32) → (Nat → Int32) → (Nat → Int32) → Prop) (K117 : Int32 → Int32 → Int32 → Int32 → Int32 → Int32 → Int32 → Int32 → Int32 → Int32 → Int32 → (Nat → Int32) → (Nat → Int32) → (Nat → Int32) → Prop) (K298 : Int32 → Int32 → Int32 → Int32 → Int32 → Int32 → Int32 → Int32 → Int32 → Int32 → Int32 → Int32 → Int32 → (Nat → Int32) → (Nat → Int32) → (Nat → Int32) → Prop) (x1 : Int32) (x2 : Int32) (x3 : Int32) (x5 : Int32) (x6 : Int32) (x7 : Int32) (x8 : Int32) (x9 : Int32) (s0 : Int32) (s1 : Int32) (wm_ : Int32) (ch_ : Int32) (ne_ : Int32) (np_ : Int32) (al_ : Int32) (ro_ : Nat → Int32) (cp_ : Nat → Int32) (nr_ : Nat → Int32) : Prop := (vp_in s1 6 ∧ ((x8 = 0 → (vp_in x9 6 ∧ v_X4_findTeams_364 n se li wo kn sp py il fl wa bo so sd ti on he la post K25 K46 K62 K117 K298 x1 x2 x3 x5 x6 x7 x8 x9 (nr_ x9.toNatClampNeg) x9 wm_ ch_ ne_ np_ al_ ro_ (upd cp_ s1.toNatClampNeg s0) nr_)) ∧ (¬ x8 = 0 → (vp_in x9 6 ∧ v_X4_findTeams_364 n se li wo kn sp py il fl wa bo so sd ti on he la post K25 K46 K62 K117 K298 x1 x2 x3 x5 x6 x7 x8 x9 (ro_ x9.toNatClampNeg) x9 wm_ ch_ ne_ np_ al_ ro_ (upd cp_ s1.toNatClampNeg s0) nr_))))
def v_X4_findTeams_422 (n : Nat) (se : Int32) (li : Int32) (wo : Int32) (kn : Nat → Int32) (sp : Nat → Int32) (py : Nat → Int32) (il : Nat → Int32) (fl : Nat → Int32) (wa : Nat → Int32) (bo : Nat → Int32) (so : Nat → Int32) (sd : Nat → Int32) (ti : Nat → Int32) (on : Nat → Int32) (he : Nat → Int32) (la : Nat → Int32) (post : (Int32 × Int32 × Int32 × Int32 × Int32 × (Nat → Int32) × (Nat → Int32) × (Nat → Int32)) → Prop) (K25 : Int32 → Int32 → Int32 → Int32 → Int32 → Int32 → Int32 → Int32 → (Nat → Int32) → (Nat → Int32) → (Nat → Int32) → Prop) (K46 : Int32 → Int32 → Int32 → Int32 → Int32 → Int32 → Int32 → Int32 → (Nat → Int32) → (Nat → Int32) → (Nat → Int32) → Prop) (K62 : Int32 → Int32 → Int32 → Int32 → Int32 → Int32 → Int32 → Int32 → Int32 → Int32 → (Nat → Int32) → (Nat → Int32) → (Nat → Int32) → Prop) (K117 : Int32 → Int32 → Int32 → Int32 → Int32 → Int32 → Int32 → Int32 → Int32 → Int32 → Int32 → (Nat → Int32) → (Nat → Int32) → (Nat → Int32) → Prop) (K298 : Int32 → Int32 → Int32 → Int32 → Int32 → Int32 → Int32 → Int32 → Int32 → Int32 → Int32 → Int32 → Int32 → (Nat → Int32) → (Nat → Int32) → (Nat → Int32) → Prop) (x1 : Int32) (x2 : Int32) (x3 : Int32) (s0 : Int32) (wm_ : Int32) (ch_ : Int32) (ne_ : Int32) (np_ : Int32) (al_ : Int32) (ro_ : Nat → Int32) (cp_ : Nat → Int32) (nr_ : Nat → Int32) : Prop := v_X4_findTeams_425 n se li wo kn sp py il fl wa bo so sd ti on he la post K25 K46 K62 K117 K298 x1 x2 x3 wm_ ch_ ne_ s0 al_ ro_ cp_ nr_
def v_X4_findTeams_404 (n : Nat) (se : Int32) (li : Int32) (wo : Int32) (kn : Nat → Int32) (sp : Nat → Int32) (py : Nat → Int32) (il : Nat → Int32) (fl : Nat → Int32) (wa : Nat → Int32) (bo : Nat → Int32) (so : Nat → Int32) (sd : Nat → Int32) (ti : Nat → Int32) (on : Nat → Int32) (he : Nat → Int32) (la : Nat → Int32) (post : (Int32 × Int32 × Int32 × Int32 × Int32 × (Nat → Int32) × (Nat → Int32) × (Nat → Int32)) → Prop) (K25 : Int32 → Int32 → Int32 → Int32 → Int32 → Int32 → Int32 → Int32 → (Nat → Int32) → (Nat → Int32) → (Nat → Int32) → Prop) (K46 : Int32 → Int32 → Int32 → Int32 → Int32 → Int32 → Int32 → Int32 → (Nat → Int32) → (Nat → Int32) → (Nat → Int32) → Prop) (K62 : Int32 → Int32 → Int32 → Int32 → Int32 → Int32 → Int32 → Int32 → Int32 → Int32 → (Nat → Int32) → (Nat → Int32) → (Nat → Int32) → Prop) (K117 : Int32 → Int32 → Int32 → Int32 → Int32 → Int32 → Int32 → Int32 → Int32 → Int32 → Int32 → (Nat → Int32) → (Nat → Int32) → (Nat → Int32) → Prop) (K298 : Int32 → Int32 → Int32 → Int32 → Int32 → Int32 → Int32 → Int32 → Int32 → Int32 → Int32 → Int32 → Int32 → (Nat → Int32) → (Nat → Int32) → (Nat → Int32) → Prop) (x1 : Int32) (x2 : Int32) (x3 : Int32) (x5 : Int32) (x8 : Int32) (s0 : Int32) (wm_ : Int32) (ch_ : Int32) (ne_ : Int32) (np_ : Int32) (al_ : Int32) (ro_ : Nat → Int32) (cp_ : Nat → Int32) (nr_ : Nat → Int32) : Prop := ((x8 = 0 → v_X4_findTeams_422 n se li wo kn sp py il fl wa bo so sd ti on he la post K25 K46 K62 K117 K298 x1 x2 x3 np_ wm_ ch_ s0 np_ al_ ro_ cp_ nr_) ∧ (¬ x8 = 0 → v_X4_findTeams_422 n se li wo kn sp py il fl wa bo so sd ti on he la post K25 K46 K62 K117 K298 x1 x2 x3 x5 wm_ ch_ s0 np_ al_ ro_ cp_ nr_))
def v_X4_findTeams_386 (n : Nat) (se : Int32) (li : Int32) (wo : Int32) (kn : Nat → Int32) (sp : Nat → Int32) (py : Nat → Int32) (il : Nat → Int32) (fl : Nat → Int32) (wa : Nat → Int32) (bo : Nat → Int32) (so : Nat → Int32) (sd : Nat → Int32) (ti : Nat → Int32) (on : Nat → Int32) (he : Nat → Int32) (la : Nat → Int32) (post : (Int32 × Int32 × Int32 × Int32 × Int32 × (Nat → Int32) × (Nat → Int32) × (Nat → Int32)) → Prop) (K25 : Int32 → Int32 → Int32 → Int32 → Int32 → Int32 → Int32 → Int32 → (Nat → Int32) → (Nat → Int32) → (Nat → Int32) → Prop) (K46 : Int32 → Int32 → Int32 → Int32 → Int32 → Int32 → Int32 → Int32 → (Nat → Int32) → (Nat → Int32) → (Nat → Int32) → Prop) (K62 : Int32 → Int32 → Int32 → Int32 → Int32 → Int32 → Int32 → Int32 → Int32 → Int32 → (Nat → Int32) → (Nat → Int32) → (Nat → Int32) → Prop) (K117 : Int32 → Int32 → Int32 → Int32 → Int32 → Int32 → Int32 → Int32 → Int32 → Int32 → Int32 → (Nat → Int32) → (Nat → Int32) → (Nat → Int32) → Prop) (K298 : Int32 → Int32 → Int32 → Int32 → Int32 → Int32 → Int32 → Int32 → Int32 → Int32 → Int32 → Int32 → Int32 → (Nat → Int32) → (Nat → Int32) → (Nat → Int32) → Prop) (x1 : Int32) (x2 : Int32) (x3 : Int32) (x5 : Int32) (x6 : Int32) (x8 : Int32) (s0 : Int32) (wm_ : Int32) (ch_ : Int32) (ne_ : Int32) (np_ : Int32) (al_ : Int32) (ro_ : Nat → Int32) (cp_ : Nat → Int32) (nr_ : Nat → Int32) : Prop := ((x8 = 0 → v_X4_findTeams_404 n se li wo kn sp py il fl wa bo so sd ti on he la post K25 K46 K62 K117 K298 x1 x2 x3 x5 x8 ne_ wm_ s0 ne_ np_ al_ ro_ cp_ nr_) ∧ (¬ x8 = 0 → v_X4_findTeams_404 n se li wo kn sp py il fl wa bo so sd ti on he la post K25 K46 K62 K117 K298 x1 x2 x3 x5 x8 x6 wm_ s0 ne_ np_ al_ ro_ cp_ nr_))
def v_X4_findTeams_298 (n : Nat) (se : Int32) (li : Int32) (wo : Int32) (kn : Nat → Int32) (sp : Nat → Int32) (py : Nat → Int32) (il : Nat → Int32) (fl : Nat → Int32) (wa : Nat → Int32) (bo : Nat → Int32) (so : Nat → Int32) (sd : Nat → Int32) (ti : Nat → Int32) (on : Nat → Int32) (he : Nat → Int32) (la : Nat → Int32) (post : (Int32 × Int32 × Int32 × Int32 × Int32 × (Nat → Int32) × (Nat → Int32) × (Nat → Int32)) → Prop) (K25 : Int32 → Int32 → Int32 → Int32 → Int32 → Int32 → Int32 → Int32 → (Nat → Int32) → (Nat → Int32) → (Nat → Int32) → Prop) (K46 : Int32 → Int32 → Int32 → Int32 → Int32 → Int32 → Int32 → Int32 → (Nat → Int32) → (Nat → Int32) → (Nat → Int32) → Prop) (K62 : Int32 → Int32 → Int32 → Int32 → Int32 → Int32 → Int32 → Int32 → Int32 → Int32 → (Nat → Int32) → (Nat → Int32) → (Nat → Int32) → Prop) (K117 : Int32 → Int32 → Int32 → Int32 → Int32 → Int32 → Int32 → Int32 → Int32 → Int32 → Int32 → (Nat → Int32) → (Nat → Int32) → (Nat → Int32) → Prop) (K298 : Int32 → Int32 → Int32 → Int32 → Int32 → Int32 → Int32 → Int32 → Int32 → Int32 → Int32 → Int32 → Int32 → (Nat → Int32) → (Nat → Int32) → (Nat → Int32) → Prop) (x1 : Int32) (x2 : Int32) (x3 : Int32) (x5 : Int32) (x6 : Int32) (x7 : Int32) (x8 : Int32) (x9 : Int32) (wm_ : Int32) (ch_ : Int32) (ne_ : Int32) (np_ : Int32) (al_ : Int32) (ro_ : Nat → Int32) (cp_ : Nat → Int32) (nr_ : Nat → Int32) : Prop := (((nI n) ≤ x9 → ((x7 = 0 → v_X4_findTeams_386 n se li wo kn sp py il fl wa bo so sd ti on he la post K25 K46 K62 K117 K298 x1 x2 x3 x5 x6 x8 ch_ wm_ ch_ ne_ np_ al_ ro_ cp_ nr_) ∧ (¬ x7 = 0 → v_X4_findTeams_386 n se li wo kn sp py il fl wa bo so sd ti on he la post K25 K46 K62 K117 K298 x1 x2 x3 x5 x6 x8 x5 wm_ ch_ ne_ np_ al_ ro_ cp_ nr_))) ∧ (¬ (nI n) ≤ x9 → ((x7 = 0 → (vp_in x9 6 ∧ v_X4_findTeams_335 n se li wo kn sp py il fl wa bo so sd ti on he la post K25 K46 K62 K117 K298 x1 x2 x3 x5 x6 x7 x8 x9 (cp_ x9.toNatClampNeg) x9 wm_ ch_ ne_ np_ al_ ro_ cp_ nr_)) ∧ (¬ x7 = 0 → (vp_in x9 6 ∧ v_X4_findTeams_335 n se li wo kn sp py il fl wa bo so sd ti on he la post K25 K46 K62 K117 K298 x1 x2 x3 x5 x6 x7 x8 x9 (ro_ x9.toNatClampNeg) x9 wm_ ch_ ne_ np_ al_ ro_ cp_ nr_)))))
def v_X4_whole_0 (n : Nat) (se : Int32) (li : Int32) (wo : Int32) (kn : Nat → Int32) (sp : Nat → Int32) (py : Nat → Int32) (il : Nat → Int32) (fl : Nat → Int32) (wa : Nat → Int32) (bo : Nat → Int32) (so : Nat → Int32) (sd : Nat → Int32) (ti : Nat → Int32) (on : Nat → Int32) (he : Nat → Int32) (la : Nat → Int32) (post : Int32 → (Int32 × Int32 × Int32 × Int32 × Int32 × (Nat → Int32) × (Nat → Int32) × (Nat → Int32)) → Prop) (a1 : Int32) (wm : Int32) (ch : Int32) (ne : Int32) (np : Int32) (al : Int32) (ro : Nat → Int32) (cp : Nat → Int32) (nr : Nat → Int32) : Prop := (((bI (inR a1 0 1)) = 0 → post (-2 : Int32) (wm, ch, ne, np, al, ro, cp, nr)) ∧ (¬ (bI (inR a1 0 1)) = 0 → ((inB a1 2 = true) ∧ (∀ u12 : Int32 × Int32 × Int32 × Int32 × Int32 × (Nat → Int32) × (Nat → Int32) × (Nat → Int32), u12 = ftF n kn sp py il fl wa bo se a1 (wm, ch, ne, np, al, ro, cp, nr) → post u12.1 (u12.1, u12.2.1, u12.2.2.1, u12.2.2.2.1, u12.2.2.2.2.1, u12.2.2.2.2.2.1, u12.2.2.2.2.2.2.1, u12.2.2.2.2.2.2.2)))))
def v_X4_cheapest_0 (n : Nat) (se : Int32) (li : Int32) (wo : Int32) (kn : Nat → Int32) (sp : Nat → Int32) (py : Nat → Int32) (il : Nat → Int32) (fl : Nat → Int32) (wa : Nat → Int32) (bo : Nat → Int32) (so : Nat → Int32) (sd : Nat → Int32) (ti : Nat → Int32) (on : Nat → Int32) (he : Nat → Int32) (la : Nat → Int32) (post : Int32 → (Int32 × Int32 × Int32 × Int32 × Int32 × (Nat → Int32) × (Nat → Int32) × (Nat → Int32)) → Prop) (a1 : Int32) (wm : Int32) (ch : Int32) (ne : Int32) (np : Int32) (al : Int32) (ro : Nat → Int32) (cp : Nat → Int32) (nr : Nat → Int32) : Prop := (((bI (inR a1 0 1)) = 0 → post (-2 : Int32) (wm, ch, ne, np, al, ro, cp, nr)) ∧ (¬ (bI (inR a1 0 1)) = 0 → ((inB a1 2 = true) ∧ (∀ u12 : Int32 × Int32 × Int32 × Int32 × Int32 × (Nat → Int32) × (Nat → Int32) × (Nat → Int32), u12 = ftF n kn sp py il fl wa bo se a1 (wm, ch, ne, np, al, ro, cp, nr) → post u12.2.1 (u12.1, u12.2.1, u12.2.2.1, u12.2.2.2.1, u12.2.2.2.2.1, u12.2.2.2.2.2.1, u12.2.2.2.2.2.2.1, u12.2.2.2.2.2.2.2)))))
def v_X4_nearest_0 (n : Nat) (se : Int32) (li : Int32) (wo : Int32) (kn : Nat → Int32) (sp : Nat → Int32) (py : Nat → Int32) (il : Nat → Int32) (fl : Nat → Int32) (wa : Nat → Int32) (bo : Nat → Int32) (so : Nat → Int32) (sd : Nat → Int32) (ti : Nat → Int32) (on : Nat → Int32) (he : Nat → Int32) (la : Nat → Int32) (post : Int32 → (Int32 × Int32 × Int32 × Int32 × Int32 × (Nat → Int32) × (Nat → Int32) × (Nat → Int32)) → Prop) (a1 : Int32) (wm : Int32) (ch : Int32) (ne : Int32) (np : Int32) (al : Int32) (ro : Nat → Int32) (cp : Nat → Int32) (nr : Nat → Int32) : Prop := (((bI (inR a1 0 1)) = 0 → post (-2 : Int32) (wm, ch, ne, np, al, ro, cp, nr)) ∧ (¬ (bI (inR a1 0 1)) = 0 → ((inB a1 2 = true) ∧ (∀ u12 : Int32 × Int32 × Int32 × Int32 × Int32 × (Nat → Int32) × (Nat → Int32) × (Nat → Int32), u12 = ftF n kn sp py il fl wa bo se a1 (wm, ch, ne, np, al, ro, cp, nr) → post u12.2.2.1 (u12.1, u12.2.1, u12.2.2.1, u12.2.2.2.1, u12.2.2.2.2.1, u12.2.2.2.2.2.1, u12.2.2.2.2.2.2.1, u12.2.2.2.2.2.2.2)))))
def v_X4_take_0 (n : Nat) (se : Int32) (li : Int32) (wo : Int32) (kn : Nat → Int32) (sp : Nat → Int32) (py : Nat → Int32) (il : Nat → Int32) (fl : Nat → Int32) (wa : Nat → Int32) (so : Nat → Int32) (sd : Nat → Int32) (ti : Nat → Int32) (on : Nat → Int32) (he : Nat → Int32) (la : Nat → Int32) (post : Int32 → (Int32 × Int32 × Int32 × Int32 × Int32 × (Nat → Int32) × (Nat → Int32) × (Nat → Int32) × (Nat → Int32)) → Prop) (K39 : Int32 → Int32 → Int32 → Int32 → Int32 → Int32 → Int32 → (Nat → Int32) → (Nat → Int32) → (Nat → Int32) → (Nat → Int32) → Prop) (a1 : Int32) (a2 : Int32) (wm : Int32) (ch : Int32) (ne : Int32) (np : Int32) (al : Int32) (bo : Nat → Int32) (ro : Nat → Int32) (cp : Nat → Int32) (nr : Nat → Int32) : Prop := (((bI (inR a1 0 1)) = 0 → post (-2 : Int32) (wm, ch, ne, np, al, bo, ro, cp, nr)) ∧ (¬ (bI (inR a1 0 1)) = 0 → (((bI (inR a2 (0 : Int32) (1 : Int32))) = 0 → post (-3 : Int32) (wm, ch, ne, np, al, bo, ro, cp, nr)) ∧ (¬ (bI (inR a2 (0 : Int32) (1 : Int32))) = 0 → ((inB a1 2 = true) ∧ (∀ u24 : Int32 × Int32 × Int32 × Int32 × Int32 × (Nat → Int32) × (Nat → Int32) × (Nat → Int32), u24 = ftF n kn sp py il fl wa bo se a1 (wm, ch, ne, np, al, ro, cp, nr) → ((u24.1 = 0 → post (-4 : Int32) (u24.1, u24.2.1, u24.2.2.1, u24.2.2.2.1, u24.2.2.2.2.1, bo, u24.2.2.2.2.2.1, u24.2.2.2.2.2.2.1, u24.2.2.2.2.2.2.2)) ∧ (¬ u24.1 = 0 → K39 a2 (0 : Int32) u24.1 u24.2.1 u24.2.2.1 u24.2.2.2.1 u24.2.2.2.2.1 bo u24.2.2.2.2.2.1 u24.2.2.2.2.2.2.1 u24.2.2.2.2.2.2.2))))))))
def v_X4_take_71 (n : Nat) (se : Int32) (li : Int32) (wo : Int32) (kn : Nat → Int32) (sp : Nat → Int32) (py : Nat → Int32) (il : Nat → Int32) (fl : Nat → Int32) (wa : Nat → Int32) (so : Nat → Int32) (sd : Nat → Int32) (ti : Nat → Int32) (on : Nat → Int32) (he : Nat → Int32) (la : Nat → Int32) (post : Int32 → (Int32 × Int32 × Int32 × Int32 × Int32 × (Nat → Int32) × (Nat → Int32) × (Nat → Int32) × (Nat → Int32)) → Prop) (K39 : Int32 → Int32 → Int32 → Int32 → Int32 → Int32 → Int32 → (Nat → Int32) → (Nat → Int32) → (Nat → Int32) → (Nat → Int32) → Prop) (x2 : Int32) (x3 : Int32) (s0 : Int32) (s1 : Int32) (wm_ : Int32) (ch_ : Int32) (ne_ : Int32) (np_ : Int32) (al_ : Int32) (bo_ : Nat → Int32) (ro_ : Nat → Int32) (cp_ : Nat → Int32) (nr_ : Nat → Int32) : Prop := (vp_in s1 6 ∧ K39 x2 (x3 + 1) wm_ ch_ ne_ np_ al_ (upd bo_ s1.toNatClampNeg s0) ro_ cp_ nr_)
def v_X4_take_39 (n : Nat) (se : Int32) (li : Int32) (wo : Int32) (kn : Nat → Int32) (sp : Nat → Int32) (py : Nat → Int32) (il : Nat → Int32) (fl : Nat → Int32) (wa : Nat → Int32) (so : Nat → Int32) (sd : Nat → Int32) (ti : Nat → Int32) (on : Nat → Int32) (he : Nat → Int32) (la : Nat → Int32) (post : Int32 → (Int32 × Int32 × Int32 × Int32 × Int32 × (Nat → Int32) × (Nat → Int32) × (Nat → Int32) × (Nat → Int32)) → Prop) (K39 : Int32 → Int32 → Int32 → Int32 → Int32 → Int32 → Int32 → (Nat → Int32) → (Nat → Int32) → (Nat → Int32) → (Nat → Int32) → Prop) (x2 : Int32) (x3 : Int32) (wm_ : Int32) (ch_ : Int32) (ne_ : Int32) (np_ : Int32) (al_ : Int32) (bo_ : Nat → Int32) (ro_ : Nat → Int32) (cp_ : Nat → Int32) (nr_ : Nat → Int32) : Prop := (((nI n) ≤ x3 → ((x2 = 0 → post ch_ (wm_, ch_, ne_, np_, al_, bo_, ro_, cp_, nr_)) ∧ (¬ x2 = 0 → post np_ (wm_, ch_, ne_, np_, al_, bo_, ro_, cp_, nr_)))) ∧ (¬ (nI n) ≤ x3 → ((x2 = 0 → (vp_in x3 6 ∧ v_X4_take_71 n se li wo kn sp py il fl wa so sd ti on he la post K39 x2 x3 (cp_ x3.toNatClampNeg) x3 wm_ ch_ ne_ np_ al_ bo_ ro_ cp_ nr_)) ∧ (¬ x2 = 0 → (vp_in x3 6 ∧ v_X4_take_71 n se li wo kn sp py il fl wa so sd ti on he la post K39 x2 x3 (nr_ x3.toNatClampNeg) x3 wm_ ch_ ne_ np_ al_ bo_ ro_ cp_ nr_)))))
def v_X4_seated_0 (n : Nat) (se : Int32) (li : Int32) (wm : Int32) (ch : Int32) (ne : Int32) (np : Int32) (al : Int32) (wo : Int32) (kn : Nat → Int32) (sp : Nat → Int32) (py : Nat → Int32) (il : Nat → Int32) (fl : Nat → Int32) (wa : Nat → Int32) (bo : Nat → Int32) (so : Nat → Int32) (sd : Nat → Int32) (ro : Nat → Int32) (cp : Nat → Int32) (nr : Nat → Int32) (ti : Nat → Int32) (on : Nat → Int32) (he : Nat → Int32) (la : Nat → Int32) (post : Int32 → (Unit) → Prop) (K4 : Int32 → Int32 → Prop) : Prop := K4 (0 : Int32) (0 : Int32)
def v_X4_seated_28 (n : Nat) (se : Int32) (li : Int32) (wm : Int32) (ch : Int32) (ne : Int32) (np : Int32) (al : Int32) (wo : Int32) (kn : Nat → Int32) (sp : Nat → Int32) (py : Nat → Int32) (il : Nat → Int32) (fl : Nat → Int32) (wa : Nat → Int32) (bo : Nat → Int32) (so : Nat → Int32) (sd : Nat → Int32) (ro : Nat → Int32) (cp : Nat → Int32) (nr : Nat → Int32) (ti : Nat → Int32) (on : Nat → Int32) (he : Nat → Int32) (la : Nat → Int32) (post : Int32 → (Unit) → Prop) (K4 : Int32 → Int32 → Prop) (x2 : Int32) (s0 : Int32) (s1 : Int32) : Prop := K4 (s1 + s0) (x2 + 1)
def v_X4_seated_4 (n : Nat) (se : Int32) (li : Int32) (wm : Int32) (ch : Int32) (ne : Int32) (np : Int32) (al : Int32) (wo : Int32) (kn : Nat → Int32) (sp : Nat → Int32) (py : Nat → Int32) (il : Nat → Int32) (fl : Nat → Int32) (wa : Nat → Int32) (bo : Nat → Int32) (so : Nat → Int32) (sd : Nat → Int32) (ro : Nat → Int32) (cp : Nat → Int32) (nr : Nat → Int32) (ti : Nat → Int32) (on : Nat → Int32) (he : Nat → Int32) (la : Nat → Int32) (post : Int32 → (Unit) → Prop) (K4 : Int32 → Int32 → Prop) (x1 : Int32) (x2 : Int32) : Prop := (((nI n) ≤ x2 → post x1 ()) ∧ (¬ (nI n) ≤ x2 → (vp_in x2 6 ∧ (((5 : Int32) ≤ (bo x2.toNatClampNeg) → v_X4_seated_28 n se li wm ch ne np al wo kn sp py il fl wa bo so sd ro cp nr ti on he la post K4 x2 (0 : Int32) x1) ∧ (¬ (5 : Int32) ≤ (bo x2.toNatClampNeg) → v_X4_seated_28 n se li wm ch ne np al wo kn sp py il fl wa bo so sd ro cp nr ti on he la post K4 x2 (1 : Int32) x1)))))
def v_X4_leave_0 (n : Nat) (se : Int32) (li : Int32) (wm : Int32) (ch : Int32) (ne : Int32) (np : Int32) (al : Int32) (wo : Int32) (kn : Nat → Int32) (sp : Nat → Int32) (py : Nat → Int32) (il : Nat → Int32) (fl : Nat → Int32) (wa : Nat → Int32) (so : Nat → Int32) (sd : Nat → Int32) (ro : Nat → Int32) (cp : Nat → Int32) (nr : Nat → Int32) (ti : Nat → Int32) (on : Nat → Int32) (he : Nat → Int32) (la : Nat → Int32) (post : Int32 → ((Nat → Int32)) → Prop) (K7 : Int32 → Int32 → (Nat → Int32) → Prop) (bo : Nat → Int32) : Prop := K7 (sI (fun k => if bo k < 5 then 1 else 0) n) (0 : Int32) bo
def v_X4_leave_7 (n : Nat) (se : Int32) (li : Int32) (wm : Int32) (ch : Int32) (ne : Int32) (np : Int32) (al : Int32) (wo : Int32) (kn : Nat → Int32) (sp : Nat → Int32) (py : Nat → Int32) (il : Nat → Int32) (fl : Nat → Int32) (wa : Nat → Int32) (so : Nat → Int32) (sd : Nat → Int32) (ro : Nat → Int32) (cp : Nat → Int32) (nr : Nat → Int32) (ti : Nat → Int32) (on : Nat → Int32) (he : Nat → Int32) (la : Nat → Int32) (post : Int32 → ((Nat → Int32)) → Prop) (K7 : Int32 → Int32 → (Nat → Int32) → Prop) (x1 : Int32) (x2 : Int32) (bo_ : Nat → Int32) : Prop := (((6 : Int32) ≤ x2 → post x1 bo_) ∧ (¬ (6 : Int32) ≤ x2 → (vp_in x2 6 ∧ K7 x1 (x2 + 1) (upd bo_ x2.toNatClampNeg (5 : Int32)))))
def v_X4_booth_0 (n : Nat) (se : Int32) (li : Int32) (wm : Int32) (ch : Int32) (ne : Int32) (np : Int32) (al : Int32) (wo : Int32) (kn : Nat → Int32) (sp : Nat → Int32) (py : Nat → Int32) (il : Nat → Int32) (fl : Nat → Int32) (wa : Nat → Int32) (bo : Nat → Int32) (so : Nat → Int32) (sd : Nat → Int32) (ro : Nat → Int32) (cp : Nat → Int32) (nr : Nat → Int32) (ti : Nat → Int32) (on : Nat → Int32) (he : Nat → Int32) (la : Nat → Int32) (post : Int32 → (Unit) → Prop) (a1 : Int32) : Prop := (((bI (inR a1 0 (nI n - 1))) = 0 → post (-2 : Int32) ()) ∧ (¬ (bI (inR a1 0 (nI n - 1))) = 0 → (vp_in a1 6 ∧ post (bo a1.toNatClampNeg) ())))
def v_X4_lacking_0 (n : Nat) (se : Int32) (li : Int32) (wm : Int32) (ch : Int32) (ne : Int32) (np : Int32) (al : Int32) (wo : Int32) (kn : Nat → Int32) (sp : Nat → Int32) (py : Nat → Int32) (il : Nat → Int32) (fl : Nat → Int32) (wa : Nat → Int32) (bo : Nat → Int32) (so : Nat → Int32) (sd : Nat → Int32) (ro : Nat → Int32) (cp : Nat → Int32) (nr : Nat → Int32) (ti : Nat → Int32) (on : Nat → Int32) (he : Nat → Int32) (la : Nat → Int32) (post : Int32 → (Unit) → Prop) (K14 : Int32 → Int32 → Int32 → Prop) (K25 : Int32 → Int32 → Int32 → Int32 → Int32 → Prop) (a1 : Int32) : Prop := (((bI (inR a1 0 1)) = 0 → post (-2 : Int32) ()) ∧ (¬ (bI (inR a1 0 1)) = 0 → K14 a1 (0 : Int32) (0 : Int32)))
def v_X4_lacking_14 (n : Nat) (se : Int32) (li : Int32) (wm : Int32) (ch : Int32) (ne : Int32) (np : Int32) (al : Int32) (wo : Int32) (kn : Nat → Int32) (sp : Nat → Int32) (py : Nat → Int32) (il : Nat → Int32) (fl : Nat → Int32) (wa : Nat → Int32) (bo : Nat → Int32) (so : Nat → Int32) (sd : Nat → Int32) (ro : Nat → Int32) (cp : Nat → Int32) (nr : Nat → Int32) (ti : Nat → Int32) (on : Nat → Int32) (he : Nat → Int32) (la : Nat → Int32) (post : Int32 → (Unit) → Prop) (K14 : Int32 → Int32 → Int32 → Prop) (K25 : Int32 → Int32 → Int32 → Int32 → Int32 → Prop) (x1 : Int32) (x2 : Int32) (x3 : Int32) : Prop := (((5 : Int32) ≤ x3 → post x2 ()) ∧ (¬ (5 : Int32) ≤ x3 → K25 x1 x2 x3 (0 : Int32) (0 : Int32)))
def v_X4_lacking_65 (n : Nat) (se : Int32) (li : Int32) (wm : Int32) (ch : Int32) (ne : Int32) (np : Int32) (al : Int32) (wo : Int32) (kn : Nat → Int32) (sp : Nat → Int32) (py : Nat → Int32) (il : Nat → Int32) (fl : Nat → Int32) (wa : Nat → Int32) (bo : Nat → Int32) (so : Nat → Int32) (sd : Nat → Int32) (ro : Nat → Int32) (cp : Nat → Int32) (nr : Nat → Int32) (ti : Nat → Int32) (on : Nat → Int32) (he : Nat → Int32) (la : Nat → Int32) (post : Int32 → (Unit) → Prop) (K14 : Int32 → Int32 → Int32 → Prop) (K25 : Int32 → Int32 → Int32 → Int32 → Int32 → Prop) (x1 : Int32) (x2 : Int32) (x3 : Int32) (x5 : Int32) (s0 : Int32) (s1 : Int32) : Prop := K25 x1 x2 x3 (s1 + s0) (x5 + 1)
def v_X4_lacking_64 (n : Nat) (se : Int32) (li : Int32) (wm : Int32) (ch : Int32) (ne : Int32) (np : Int32) (al : Int32) (wo : Int32) (kn : Nat → Int32) (sp : Nat → Int32) (py : Nat → Int32) (il : Nat → Int32) (fl : Nat → Int32) (wa : Nat → Int32) (bo : Nat → Int32) (so : Nat → Int32) (sd : Nat → Int32) (ro : Nat → Int32) (cp : Nat → Int32) (nr : Nat → Int32) (ti : Nat → Int32) (on : Nat → Int32) (he : Nat → Int32) (la : Nat → Int32) (post : Int32 → (Unit) → Prop) (K14 : Int32 → Int32 → Int32 → Prop) (K25 : Int32 → Int32 → Int32 → Int32 → Int32 → Prop) (x1 : Int32) (x2 : Int32) (x3 : Int32) (x5 : Int32) (s0 : Int32) : Prop := v_X4_lacking_65 n se li wm ch ne np al wo kn sp py il fl wa bo so sd ro cp nr ti on he la post K14 K25 x1 x2 x3 x5 (0 : Int32) s0
def v_X4_lacking_104 (n : Nat) (se : Int32) (li : Int32) (wm : Int32) (ch : Int32) (ne : Int32) (np : Int32) (al : Int32) (wo : Int32) (kn : Nat → Int32) (sp : Nat → Int32) (py : Nat → Int32) (il : Nat → Int32) (fl : Nat → Int32) (wa : Nat → Int32) (bo : Nat → Int32) (so : Nat → Int32) (sd : Nat → Int32) (ro : Nat → Int32) (cp : Nat → Int32) (nr : Nat → Int32) (ti : Nat → Int32) (on : Nat → Int32) (he : Nat → Int32) (la : Nat → Int32) (post : Int32 → (Unit) → Prop) (K14 : Int32 → Int32 → Int32 → Prop) (K25 : Int32 → Int32 → Int32 → Int32 → Int32 → Prop) (x1 : Int32) (x3 : Int32) (s0 : Int32) (s1 : Int32) : Prop := K14 x1 (s1 ||| s0) (x3 + 1)
def v_X4_lacking_103 (n : Nat) (se : Int32) (li : Int32) (wm : Int32) (ch : Int32) (ne : Int32) (np : Int32) (al : Int32) (wo : Int32) (kn : Nat → Int32) (sp : Nat → Int32) (py : Nat → Int32) (il : Nat → Int32) (fl : Nat → Int32) (wa : Nat → Int32) (bo : Nat → Int32) (so : Nat → Int32) (sd : Nat → Int32) (ro : Nat → Int32) (cp : Nat → Int32) (nr : Nat → Int32) (ti : Nat → Int32) (on : Nat → Int32) (he : Nat → Int32) (la : Nat → Int32) (post : Int32 → (Unit) → Prop) (K14 : Int32 → Int32 → Int32 → Prop) (K25 : Int32 → Int32 → Int32 → Int32 → Int32 → Prop) (x1 : Int32) (x3 : Int32) (s0 : Int32) : Prop := v_X4_lacking_104 n se li wm ch ne np al wo kn sp py il fl wa bo so sd ro cp nr ti on he la post K14 K25 x1 x3 (0 : Int32) s0
def v_X4_lacking_25 (n : Nat) (se : Int32) (li : Int32) (wm : Int32) (ch : Int32) (ne : Int32) (np : Int32) (al : Int32) (wo : Int32) (kn : Nat → Int32) (sp : Nat → Int32) (py : Nat → Int32) (il : Nat → Int32) (fl : Nat → Int32) (wa : Nat → Int32) (bo : Nat → Int32) (so : Nat → Int32) (sd : Nat → Int32) (ro : Nat → Int32) (cp : Nat → Int32) (nr : Nat → Int32) (ti : Nat → Int32) (on : Nat → Int32) (he : Nat → Int32) (la : Nat → Int32) (post : Int32 → (Unit) → Prop) (K14 : Int32 → Int32 → Int32 → Prop) (K25 : Int32 → Int32 → Int32 → Int32 → Int32 → Prop) (x1 : Int32) (x2 : Int32) (x3 : Int32) (x4 : Int32) (x5 : Int32) : Prop := (((nI n) ≤ x5 → (vp_in x1 2 ∧ (((bI (hs (wa x1.toNatClampNeg) x3)) = 0 → v_X4_lacking_103 n se li wm ch ne np al wo kn sp py il fl wa bo so sd ro cp nr ti on he la post K14 K25 x1 x3 x2) ∧ (¬ (bI (hs (wa x1.toNatClampNeg) x3)) = 0 → ((se ≤ x4 → v_X4_lacking_103 n se li wm ch ne np al wo kn sp py il fl wa bo so sd ro cp nr ti on he la post K14 K25 x1 x3 x2) ∧ (¬ se ≤ x4 → v_X4_lacking_104 n se li wm ch ne np al wo kn sp py il fl wa bo so sd ro cp nr ti on he la post K14 K25 x1 x3 ((1 : Int32) <<< (x3 &&& 31)) x2)))))) ∧ (¬ (nI n) ≤ x5 → (vp_in x5 6 ∧ (((il x5.toNatClampNeg) = 0 → (vp_in x5 6 ∧ (((bI (hs (sp x5.toNatClampNeg) x3)) = 0 → v_X4_lacking_64 n se li wm ch ne np al wo kn sp py il fl wa bo so sd ro cp nr ti on he la post K14 K25 x1 x2 x3 x5 x4) ∧ (¬ (bI (hs (sp x5.toNatClampNeg) x3)) = 0 → v_X4_lacking_65 n se li wm ch ne np al wo kn sp py il fl wa bo so sd ro cp nr ti on he la post K14 K25 x1 x2 x3 x5 (1 : Int32) x4)))) ∧ (¬ (il x5.toNatClampNeg) = 0 → v_X4_lacking_64 n se li wm ch ne np al wo kn sp py il fl wa bo so sd ro cp nr ti on he la post K14 K25 x1 x2 x3 x5 x4)))))
def v_X4_needed_0 (n : Nat) (se : Int32) (li : Int32) (wo : Int32) (kn : Nat → Int32) (sp : Nat → Int32) (py : Nat → Int32) (il : Nat → Int32) (fl : Nat → Int32) (wa : Nat → Int32) (bo : Nat → Int32) (so : Nat → Int32) (sd : Nat → Int32) (ti : Nat → Int32) (on : Nat → Int32) (he : Nat → Int32) (la : Nat → Int32) (post : Int32 → (Int32 × Int32 × Int32 × Int32 × Int32 × (Nat → Int32) × (Nat → Int32) × (Nat → Int32)) → Prop) (a1 : Int32) (a2 : Int32) (wm : Int32) (ch : Int32) (ne : Int32) (np : Int32) (al : Int32) (ro : Nat → Int32) (cp : Nat → Int32) (nr : Nat → Int32) : Prop := (((bI (inR a1 0 (nI n - 1))) = 0 → post (-2 : Int32) (wm, ch, ne, np, al, ro, cp, nr)) ∧ (¬ (bI (inR a1 0 (nI n - 1))) = 0 → (((bI (inR a2 0 1)) = 0 → post (-2 : Int32) (wm, ch, ne, np, al, ro, cp, nr)) ∧ (¬ (bI (inR a2 0 1)) = 0 → ((inB a2 2 = true) ∧ (∀ u20 : Int32 × Int32 × Int32 × Int32 × Int32 × (Nat → Int32) × (Nat → Int32) × (Nat → Int32), u20 = ftF n kn sp py il fl wa bo se a2 (wm, ch, ne, np, al, ro, cp, nr) → ((u20.1 ≤ 0 → post (0 : Int32) (u20.1, u20.2.1, u20.2.2.1, u20.2.2.2.1, u20.2.2.2.2.1, u20.2.2.2.2.2.1, u20.2.2.2.2.2.2.1, u20.2.2.2.2.2.2.2)) ∧ (¬ u20.1 ≤ 0 → (((bI (hs u20.2.2.2.2.1 a1)) = 0 → post (0 : Int32) (u20.1, u20.2.1, u20.2.2.1, u20.2.2.2.1, u20.2.2.2.2.1, u20.2.2.2.2.2.1, u20.2.2.2.2.2.2.1, u20.2.2.2.2.2.2.2)) ∧ (¬ (bI (hs u20.2.2.2.2.1 a1)) = 0 → post (1 : Int32) (u20.1, u20.2.1, u20.2.2.1, u20.2.2.2.1, u20.2.2.2.2.1, u20.2.2.2.2.2.1, u20.2.2.2.2.2.2.1, u20.2.2.2.2.2.2.2)))))))))))
def v_X4_speak_0 (n : Nat) (se : Int32) (li : Int32) (wm : Int32) (ch : Int32) (ne : Int32) (np : Int32) (al : Int32) (wo : Int32) (kn : Nat → Int32) (sp : Nat → Int32) (py : Nat → Int32) (il : Nat → Int32) (fl : Nat → Int32) (wa : Nat → Int32) (bo : Nat → Int32) (ro : Nat → Int32) (cp : Nat → Int32) (nr : Nat → Int32) (ti : Nat → Int32) (on : Nat → Int32) (he : Nat → Int32) (la : Nat → Int32) (post : Int32 → ((Nat → Int32) × (Nat → Int32)) → Prop) (a1 : Int32) (a2 : Int32) (a3 : Int32) (so : Nat → Int32) (sd : Nat → Int32) : Prop := (((bI (inR a1 0 15)) = 0 → post (-2 : Int32) (so, sd)) ∧ (¬ (bI (inR a1 0 15)) = 0 → (((bI (inR a2 0 4)) = 0 → post (-2 : Int32) (so, sd)) ∧ (¬ (bI (inR a2 0 4)) = 0 → (((bI (inR a3 (1 : Int32) (9 : Int32))) = 0 → post (-3 : Int32) (so, sd)) ∧ (¬ (bI (inR a3 (1 : Int32) (9 : Int32))) = 0 → (vp_in a1 16 ∧ (vp_in a1 16 ∧ post (1 : Int32) (upd so a1.toNatClampNeg a2, upd sd a1.toNatClampNeg a3)))))))))
def v_X4_silence_25 (n : Nat) (se : Int32) (li : Int32) (wm : Int32) (ch : Int32) (ne : Int32) (np : Int32) (al : Int32) (wo : Int32) (kn : Nat → Int32) (sp : Nat → Int32) (py : Nat → Int32) (il : Nat → Int32) (fl : Nat → Int32) (wa : Nat → Int32) (bo : Nat → Int32) (sd : Nat → Int32) (ro : Nat → Int32) (cp : Nat → Int32) (nr : Nat → Int32) (ti : Nat → Int32) (on : Nat → Int32) (he : Nat → Int32) (la : Nat → Int32) (post : Int32 → ((Nat → Int32)) → Prop) (x1 : Int32) (s0 : Int32) (so_ : Nat → Int32) : Prop := (vp_in x1 16 ∧ post s0 (upd so_ x1.toNatClampNeg (-1 : Int32)))
def v_X4_silence_0 (n : Nat) (se : Int32) (li : Int32) (wm : Int32) (ch : Int32) (ne : Int32) (np : Int32) (al : Int32) (wo : Int32) (kn : Nat → Int32) (sp : Nat → Int32) (py : Nat → Int32) (il : Nat → Int32) (fl : Nat → Int32) (wa : Nat → Int32) (bo : Nat → Int32) (sd : Nat → Int32) (ro : Nat → Int32) (cp : Nat → Int32) (nr : Nat → Int32) (ti : Nat → Int32) (on : Nat → Int32) (he : Nat → Int32) (la : Nat → Int32) (post : Int32 → ((Nat → Int32)) → Prop) (a1 : Int32) (so : Nat → Int32) : Prop := (((bI (inR a1 0 15)) = 0 → post (-2 : Int32) so) ∧ (¬ (bI (inR a1 0 15)) = 0 → (vp_in a1 16 ∧ (((so a1.toNatClampNeg) = (-1 : Int32) → v_X4_silence_25 n se li wm ch ne np al wo kn sp py il fl wa bo sd ro cp nr ti on he la post  a1 (0 : Int32) so) ∧ (¬ (so a1.toNatClampNeg) = (-1 : Int32) → v_X4_silence_25 n se li wm ch ne np al wo kn sp py il fl wa bo sd ro cp nr ti on he la post  a1 (1 : Int32) so)))))
def v_X4_limit_0 (n : Nat) (se : Int32) (wm : Int32) (ch : Int32) (ne : Int32) (np : Int32) (al : Int32) (wo : Int32) (kn : Nat → Int32) (sp : Nat → Int32) (py : Nat → Int32) (il : Nat → Int32) (fl : Nat → Int32) (wa : Nat → Int32) (bo : Nat → Int32) (so : Nat → Int32) (sd : Nat → Int32) (ro : Nat → Int32) (cp : Nat → Int32) (nr : Nat → Int32) (ti : Nat → Int32) (on : Nat → Int32) (he : Nat → Int32) (la : Nat → Int32) (post : Int32 → (Int32) → Prop) (a1 : Int32) (li : Int32) : Prop := (((bI (inR a1 (5 : Int32) (60 : Int32))) = 0 → post (-3 : Int32) li) ∧ (¬ (bI (inR a1 (5 : Int32) (60 : Int32))) = 0 → post li a1))
def v_X4_knowsIt_0 (n : Nat) (se : Int32) (li : Int32) (wm : Int32) (ch : Int32) (ne : Int32) (np : Int32) (al : Int32) (wo : Int32) (kn : Nat → Int32) (sp : Nat → Int32) (py : Nat → Int32) (il : Nat → Int32) (fl : Nat → Int32) (wa : Nat → Int32) (bo : Nat → Int32) (so : Nat → Int32) (sd : Nat → Int32) (ro : Nat → Int32) (cp : Nat → Int32) (nr : Nat → Int32) (ti : Nat → Int32) (on : Nat → Int32) (he : Nat → Int32) (la : Nat → Int32) (post : Int32 → (Unit) → Prop) (a1 : Int32) (a2 : Int32) : Prop := ((a1 = (-1 : Int32) → post (0 : Int32) ()) ∧ (¬ a1 = (-1 : Int32) → (vp_in a1 6 ∧ (((bI (hs (kn a1.toNatClampNeg) a2)) = 0 → post (0 : Int32) ()) ∧ (¬ (bI (hs (kn a1.toNatClampNeg) a2)) = 0 → post (1 : Int32) ())))))
end
section
/-! the reference's day, in the words of the class's -/
theorem upd_upd (f : Nat → Int32) (k : Nat) (a b : Int32) : upd (upd f k a) k b = upd f k b := by
  funext j
  by_cases h : j = k <;> simp [upd, h]
theorem upd_at (f : Nat → Int32) (k : Nat) (a : Int32) : upd f k a k = a := by simp [upd]
theorem upd_ne (f : Nat → Int32) {k j : Nat} (a : Int32) (h : j ≠ k) : upd f k a j = f j := by simp [upd, h]
theorem hs_0 (f : Int32) : hs 0 f = false := by
  have e : (0 : Int32) >>> (f &&& 31) = 0 := Int32.zero_shiftRight
  unfold hs
  rw [e]
  decide
theorem nI_m1 {j : Nat} (hj : j < 2 ^ 31) : ¬ nI j = -1 := by
  intro h
  have h1 := nI_toInt hj
  rw [h] at h1
  have h2 : (-1 : Int32).toInt = -1 := by decide
  omega
theorem inB_m1 (m : Int32) : inB (-1) m = false := by
  unfold inB
  have : (-1 : Int32) < 0 := by decide
  simp [this]
theorem chO_val (n : Nat) (bo ti on : Nat → Int32) (hn : n ≤ 6) : ∀ k, k ≤ n → ∀ t, t < 5 → chO n bo ti on k t = -1 ∨ ∃ j, j < k ∧ chO n bo ti on k t = nI j ∧ bo j = nI t := by
  intro k
  induction k with
  | zero => intro _ t ht; left; simp [chO, fillA, ht]
  | succ k ih =>
    intro hk t ht
    rw [chO]
    split
    · next h =>
      rw [Bool.and_eq_true] at h
      obtain ⟨r, hr, hbr⟩ := (inB_iff (n := 5) (by omega)).mp h.1
      have ec : (bo k).toNatClampNeg = r := by rw [hbr, nI_clamp (by omega)]
      by_cases e : t = r
      · right
        refine ⟨k, by omega, ?_, ?_⟩
        · rw [ec, ← e, upd_at]
        · rw [hbr, e]
      · rw [ec, upd_ne _ _ e]
        rcases ih (by omega) t ht with q | ⟨j, h1, h2, h3⟩
        · exact Or.inl q
        · exact Or.inr ⟨j, by omega, h2, h3⟩
    · rcases ih (by omega) t ht with q | ⟨j, h1, h2, h3⟩
      · exact Or.inl q
      · exact Or.inr ⟨j, by omega, h2, h3⟩
theorem chO_step (n : Nat) (bo ti on : Nat → Int32) (hn : n ≤ 6) {k t : Nat} (hk : k < n) (ht : t < 5) : chO n bo ti on (k + 1) t = if bo k = nI t then (if (chO n bo ti on k t = -1 ∨ ¬ ti (chO n bo ti on k t).toNatClampNeg ≤ ti k) then nI k else chO n bo ti on k t) else chO n bo ti on k t := by
  rw [chO]
  by_cases hb : bo k = nI t
  · have hi : inB (bo k) 5 = true := by rw [hb]; exact inB_nI (n := 5) ht (by omega)
    have ec : (bo k).toNatClampNeg = t := by rw [hb, nI_clamp (by omega)]
    rw [hi, ec, if_pos hb, Bool.true_and]
    have ek : (nI k).toNatClampNeg = k := nI_clamp (by omega)
    rcases chO_val n bo ti on hn k (by omega) t ht with q | ⟨j, h1, h2, h3⟩
    · have e : frF n ti (nI k) (chO n bo ti on k t) = true := by rw [q, frF, inB_m1]; rfl
      rw [e, if_pos rfl, upd_at, if_pos (Or.inl q)]
    · have hj : inB (chO n bo ti on k t) (nI n) = true := by rw [h2]; exact inB_nI (by omega) (by omega)
      have hne : ¬ chO n bo ti on k t = -1 := by rw [h2]; exact nI_m1 (by omega)
      by_cases hle : ti (chO n bo ti on k t).toNatClampNeg ≤ ti k
      · have e : frF n ti (nI k) (chO n bo ti on k t) = false := by simp [frF, hj, ek, hle]
        rw [e, if_neg (by decide), if_neg (fun q => q.elim hne (fun q2 => q2 hle))]
      · have e : frF n ti (nI k) (chO n bo ti on k t) = true := by simp [frF, ek, hle]
        rw [e, if_pos rfl, upd_at, if_pos (Or.inr hle)]
  · rw [if_neg hb]
    split
    · next h =>
      rw [Bool.and_eq_true] at h
      obtain ⟨r, hr, hbr⟩ := (inB_iff (n := 5) (by omega)).mp h.1
      have ec : (bo k).toNatClampNeg = r := by rw [hbr, nI_clamp (by omega)]
      have hrt : t ≠ r := fun e => hb (by rw [hbr, e])
      rw [ec, upd_ne _ _ hrt]
    · rfl
/-- beyond the booths nothing is written -/
theorem chO_out (n : Nat) (bo ti on : Nat → Int32) : ∀ k j, ¬ j < 5 → chO n bo ti on k j = on j := by
  intro k
  induction k with
  | zero => intro j hj; simp [chO, fillA, hj]
  | succ k ih =>
    intro j hj
    rw [chO]
    split
    · next h =>
      rw [Bool.and_eq_true] at h
      obtain ⟨r, hr, hbr⟩ := (inB_iff (n := 5) (by omega)).mp h.1
      have ec : (bo k).toNatClampNeg = r := by rw [hbr, nI_clamp (by omega)]
      rw [ec, upd_ne _ _ (by omega)]
      exact ih j hj
    · exact ih j hj
theorem chO_fill (n : Nat) (bo ti on : Nat → Int32) : fillN on 5 (chO n bo ti on n) = chO n bo ti on n := by
  funext j
  by_cases h : j < 5
  · simp [fillN, h]
  · simp [fillN, h, chO_out n bo ti on n j h]
theorem kn_at (n : Nat) (kn bo ti on : Nat → Int32) (hn : n ≤ 6) (f : Int32) {t : Nat} (ht : t < 5) : hs (atP n kn 0 (chO n bo ti on n t)) f = (!decide (chO n bo ti on n t = -1) && hs (kn (chO n bo ti on n t).toNatClampNeg) f) := by
  rcases chO_val n bo ti on hn n (Nat.le_refl _) t ht with q | ⟨j, h1, h2, h3⟩
  · rw [q, atP, inB_m1, if_neg (by decide), hs_0]; simp
  · rw [h2, atP_nI h1 (by omega), nI_clamp (by omega), decide_eq_false (nI_m1 (by omega))]; simp
theorem on_in (n : Nat) (bo ti on : Nat → Int32) (hn : n ≤ 6) {t : Nat} (ht : t < 5) (h : ¬ chO n bo ti on n t = -1) : inB (chO n bo ti on n t) 6 = true ∧ ∃ j, j < n ∧ chO n bo ti on n t = nI j := by
  rcases chO_val n bo ti on hn n (Nat.le_refl _) t ht with q | ⟨j, h1, h2, h3⟩
  · exact absurd q h
  · exact ⟨by rw [h2]; exact inB_nI (n := 6) (by omega) (by omega), j, h1, h2⟩
def tiV (n : Nat) (bo on he : Nat → Int32) (w : Int32) (ti : Nat → Int32) (k : Nat) : Int32 := if tuF n bo on he (nI k) = true then ti k + w else (if (0 : Int32) < ti k - 2 then ti k - 2 else 0)
theorem tiF_eq (n : Nat) (bo on he : Nat → Int32) (w : Int32) (ti : Nat → Int32) : ∀ m, tiF n bo on he w ti m = fillN ti m (tiV n bo on he w ti) := by
  intro m
  induction m with
  | zero => rw [tiF, fillN_0]
  | succ m ih =>
    have e : fillN ti m (tiV n bo on he w ti) m = ti m := by simp [fillN]
    rw [tiF, ih, e, ← fillN_succ]
    rfl
def wkF (on he : Nat → Int32) (k : Nat) : Nat → Bool
  | 0 => false
  | t + 1 => wkF on he k t || (decide (on t = nI k) && !decide (he t = -1))
theorem wk_tu (n : Nat) (bo ti on he : Nat → Int32) (hn : n ≤ 6) {k : Nat} (hk : k < n) : wkF (chO n bo ti on n) he k 5 = tuF n bo (chO n bo ti on n) he (nI k) := by
  have eb : atP n bo 5 (nI k) = bo k := atP_nI hk (by omega)
  have only : ∀ t, t < 5 → chO n bo ti on n t = nI k → bo k = nI t := by
    intro t ht h
    rcases chO_val n bo ti on hn n (Nat.le_refl _) t ht with q | ⟨j, h1, h2, h3⟩
    · rw [q] at h; exact absurd h.symm (nI_m1 (by omega))
    · have : j = k := (nI_eq (by omega) (by omega)).mp (h2.symm.trans h)
      subst this; exact h3
  have pre : ∀ t, t ≤ 5 → (wkF (chO n bo ti on n) he k t = true ↔ ∃ r, r < t ∧ chO n bo ti on n r = nI k ∧ ¬ he r = -1) := by
    intro t
    induction t with
    | zero => intro _; simp [wkF]
    | succ t ih =>
      intro ht
      rw [wkF, Bool.or_eq_true, ih (by omega)]
      constructor
      · rintro (⟨r, h1, h2⟩ | h)
        · exact ⟨r, by omega, h2⟩
        · rw [Bool.and_eq_true] at h
          exact ⟨t, by omega, by simpa using h.1, by simpa using h.2⟩
      · rintro ⟨r, h1, h2, h3⟩
        by_cases e : r = t
        · subst e; right; simp [h2, h3]
        · left; exact ⟨r, by omega, h2, h3⟩
  have key : wkF (chO n bo ti on n) he k 5 = true ↔ tuF n bo (chO n bo ti on n) he (nI k) = true := by
    rw [pre 5 (Nat.le_refl _), tuF, eb, Bool.and_eq_true, Bool.and_eq_true]
    constructor
    · rintro ⟨r, h1, h2, h3⟩
      have hb := only r h1 h2
      have ec : (bo k).toNatClampNeg = r := by rw [hb, nI_clamp (by omega)]
      rw [ec]
      exact ⟨by rw [hb]; exact inB_nI (n := 5) h1 (by omega), by simp [h2], by simp [h3]⟩
    · rintro ⟨h1, h2, h3⟩
      obtain ⟨r, hr, hbr⟩ := (inB_iff (n := 5) (by omega)).mp h1
      have ec : (bo k).toNatClampNeg = r := by rw [hbr, nI_clamp (by omega)]
      rw [ec] at h2 h3
      exact ⟨r, hr, by simpa using h2, by simpa using h3⟩
  cases ha : wkF (chO n bo ti on n) he k 5 <;> cases hb : tuF n bo (chO n bo ti on n) he (nI k)
  · rfl
  · rw [key.mpr hb] at ha; exact ha.symm
  · rw [key.mp ha] at hb; exact hb
  · rfl
theorem ti_low {a : Nat} (ha : a < 2 ^ 20) : (if (0 : Int32) < nI a - 2 then nI a - 2 else 0) = (if nI a ≤ 2 then 0 else nI a - 2) := by
  have e2 : (2 : Int32) = nI 2 := rfl
  by_cases h : a ≤ 2
  · have h1 : nI a ≤ 2 := by rw [e2]; exact nI_le h (by omega)
    have h2 : a = 0 ∨ a = 1 ∨ a = 2 := by omega
    rw [if_pos h1]
    rcases h2 with rfl | rfl | rfl <;> decide
  · have h1 : ¬ nI a ≤ 2 := by rw [e2, nI_leI (by omega) (by omega)]; exact h
    have e3 : nI a - 2 = nI (a - 2) := by rw [e2, pk_sub (by omega)]
    rw [if_neg h1, e3, if_pos]
    exact nI_lt (a := 0) (by omega) (by omega)
theorem inR_9 {v : Int32} (h : inR v 0 9 = true) : ∃ b, b ≤ 9 ∧ v = nI b := by
  have : inR v 0 (nI 9) = inB v (nI (9 + 1)) := inR_b (by omega)
  have h2 : inB v (nI 10) = true := by rw [← this]; exact h
  obtain ⟨b, hb, e⟩ := (inB_iff (by omega)).mp h2
  exact ⟨b, by omega, e⟩
theorem plT_bd (n : Nat) (kn bo so sd : Nat → Int32) (x : DS) (hn : n ≤ 6) (hsd : ∀ h, h < 16 → inR (sd h) 0 9 = true) : ∀ h, h ≤ 16 → ∀ k, k < 6 → ∃ a, a ≤ 9 * h ∧ (plT n kn bo so sd x h).1 k = nI a := by
  intro h
  induction h with
  | zero => intro _ k hk; exact ⟨0, by omega, by simp [plT, fillA, hk]; rfl⟩
  | succ h ih =>
    intro hh k hk
    obtain ⟨a, ha, e⟩ := ih (by omega) k hk
    have eh : inB (nI h) 16 = true := inB_nI (n := 16) (by omega) (by omega)
    rw [plT, plH, if_pos eh, plG, nI_clamp (by omega)]
    show ∃ b, b ≤ 9 * (h + 1) ∧ tiF n bo _ _ (sd h) (plT n kn bo so sd x h).1 n k = nI b
    rw [tiF_eq]
    by_cases hkn : k < n
    · simp only [fillN, if_pos hkn, tiV, e]
      obtain ⟨b, hb, eb⟩ := inR_9 (hsd h (by omega))
      split
      · exact ⟨a + b, by omega, by rw [eb, nI_add]⟩
      · rw [ti_low (by omega)]
        split
        · exact ⟨0, by omega, rfl⟩
        · next hq =>
          have e2 : (2 : Int32) = nI 2 := rfl
          rw [e2, nI_leI (by omega) (by omega)] at hq
          exact ⟨a - 2, by omega, by rw [e2, pk_sub (by omega)]⟩
    · simp only [fillN, if_neg hkn, e]
      exact ⟨a, by omega, rfl⟩
def gtF (n : Nat) (kn bo so sd : Nat → Int32) (li : Int32) (x : DS) (la : Nat → Int32) (h : Nat) : Int32 × (Nat → Int32) × (Nat → Int32) × (Nat → Int32) × (Nat → Int32) := (woO n kn bo so sd x li h, (plT n kn bo so sd x h).1, (plT n kn bo so sd x h).2.1, (plT n kn bo so sd x h).2.2, fillN la 5 (fun t => laO n kn bo so sd x (nI t) h))
def rcO (n : Nat) (il bo so : Nat → Int32) (se a : Int32) : Int32 := if a = 0 then nI n else if a = 1 then sI (fun k => if il k = 0 then 0 else 1) n else if a = 2 then sI (fun k => if bo k < 5 then 1 else 0) n else if a = 3 then sI (fun k => bI (!decide (so k = -1))) 16 else if a = 4 then se else -3
theorem fillA_succ (f : Nat → Int32) (k : Nat) (v : Int32) : upd (fillA f k v) k v = fillA f (k + 1) v := by
  funext j
  simp only [upd, fillA]
  by_cases h1 : j = k
  · subst h1; simp
  · have h2 : (j < k + 1) = (j < k) := by apply propext; omega
    simp [h1, h2]
end
section
def v_X4_findOn_0 (n : Nat) (se : Int32) (li : Int32) (wm : Int32) (ch : Int32) (ne : Int32) (np : Int32) (al : Int32) (wo : Int32) (kn : Nat → Int32) (sp : Nat → Int32) (py : Nat → Int32) (il : Nat → Int32) (fl : Nat → Int32) (wa : Nat → Int32) (bo : Nat → Int32) (so : Nat → Int32) (sd : Nat → Int32) (ro : Nat → Int32) (cp : Nat → Int32) (nr : Nat → Int32) (ti : Nat → Int32) (la : Nat → Int32) (post : ((Nat → Int32) × (Nat → Int32)) → Prop) (K2 : Int32 → Int32 → (Nat → Int32) → (Nat → Int32) → Prop) (K16 : Int32 → Int32 → Int32 → (Nat → Int32) → (Nat → Int32) → Prop) (K101 : Int32 → Int32 → (Nat → Int32) → (Nat → Int32) → Prop) (K136 : Int32 → Int32 → Int32 → (Nat → Int32) → (Nat → Int32) → Prop) (a1 : Int32) (on : Nat → Int32) (he : Nat → Int32) : Prop := K2 a1 (0 : Int32) on he
def v_X4_findOn_2 (n : Nat) (se : Int32) (li : Int32) (wm : Int32) (ch : Int32) (ne : Int32) (np : Int32) (al : Int32) (wo : Int32) (kn : Nat → Int32) (sp : Nat → Int32) (py : Nat → Int32) (il : Nat → Int32) (fl : Nat → Int32) (wa : Nat → Int32) (bo : Nat → Int32) (so : Nat → Int32) (sd : Nat → Int32) (ro : Nat → Int32) (cp : Nat → Int32) (nr : Nat → Int32) (ti : Nat → Int32) (la : Nat → Int32) (post : ((Nat → Int32) × (Nat → Int32)) → Prop) (K2 : Int32 → Int32 → (Nat → Int32) → (Nat → Int32) → Prop) (K16 : Int32 → Int32 → Int32 → (Nat → Int32) → (Nat → Int32) → Prop) (K101 : Int32 → Int32 → (Nat → Int32) → (Nat → Int32) → Prop) (K136 : Int32 → Int32 → Int32 → (Nat → Int32) → (Nat → Int32) → Prop) (x1 : Int32) (x2 : Int32) (on_ : Nat → Int32) (he_ : Nat → Int32) : Prop := (((5 : Int32) ≤ x2 → (vp_in x1 16 ∧ K101 (so x1.toNatClampNeg) (0 : Int32) on_ he_)) ∧ (¬ (5 : Int32) ≤ x2 → (vp_in x2 5 ∧ K16 x1 x2 (0 : Int32) (upd on_ x2.toNatClampNeg (-1 : Int32)) he_)))
def v_X4_findOn_79 (n : Nat) (se : Int32) (li : Int32) (wm : Int32) (ch : Int32) (ne : Int32) (np : Int32) (al : Int32) (wo : Int32) (kn : Nat → Int32) (sp : Nat → Int32) (py : Nat → Int32) (il : Nat → Int32) (fl : Nat → Int32) (wa : Nat → Int32) (bo : Nat → Int32) (so : Nat → Int32) (sd : Nat → Int32) (ro : Nat → Int32) (cp : Nat → Int32) (nr : Nat → Int32) (ti : Nat → Int32) (la : Nat → Int32) (post : ((Nat → Int32) × (Nat → Int32)) → Prop) (K2 : Int32 → Int32 → (Nat → Int32) → (Nat → Int32) → Prop) (K16 : Int32 → Int32 → Int32 → (Nat → Int32) → (Nat → Int32) → Prop) (K101 : Int32 → Int32 → (Nat → Int32) → (Nat → Int32) → Prop) (K136 : Int32 → Int32 → Int32 → (Nat → Int32) → (Nat → Int32) → Prop) (x1 : Int32) (x2 : Int32) (x3 : Int32) (s0 : Int32) (s1 : Int32) (on_ : Nat → Int32) (he_ : Nat → Int32) : Prop := (vp_in s1 5 ∧ K16 x1 x2 (x3 + 1) (upd on_ s1.toNatClampNeg s0) he_)
def v_X4_findOn_69 (n : Nat) (se : Int32) (li : Int32) (wm : Int32) (ch : Int32) (ne : Int32) (np : Int32) (al : Int32) (wo : Int32) (kn : Nat → Int32) (sp : Nat → Int32) (py : Nat → Int32) (il : Nat → Int32) (fl : Nat → Int32) (wa : Nat → Int32) (bo : Nat → Int32) (so : Nat → Int32) (sd : Nat → Int32) (ro : Nat → Int32) (cp : Nat → Int32) (nr : Nat → Int32) (ti : Nat → Int32) (la : Nat → Int32) (post : ((Nat → Int32) × (Nat → Int32)) → Prop) (K2 : Int32 → Int32 → (Nat → Int32) → (Nat → Int32) → Prop) (K16 : Int32 → Int32 → Int32 → (Nat → Int32) → (Nat → Int32) → Prop) (K101 : Int32 → Int32 → (Nat → Int32) → (Nat → Int32) → Prop) (K136 : Int32 → Int32 → Int32 → (Nat → Int32) → (Nat → Int32) → Prop) (x1 : Int32) (x2 : Int32) (x3 : Int32) (s0 : Int32) (on_ : Nat → Int32) (he_ : Nat → Int32) : Prop := v_X4_findOn_79 n se li wm ch ne np al wo kn sp py il fl wa bo so sd ro cp nr ti la post K2 K16 K101 K136 x1 x2 x3 x3 s0 on_ he_
def v_X4_findOn_73 (n : Nat) (se : Int32) (li : Int32) (wm : Int32) (ch : Int32) (ne : Int32) (np : Int32) (al : Int32) (wo : Int32) (kn : Nat → Int32) (sp : Nat → Int32) (py : Nat → Int32) (il : Nat → Int32) (fl : Nat → Int32) (wa : Nat → Int32) (bo : Nat → Int32) (so : Nat → Int32) (sd : Nat → Int32) (ro : Nat → Int32) (cp : Nat → Int32) (nr : Nat → Int32) (ti : Nat → Int32) (la : Nat → Int32) (post : ((Nat → Int32) × (Nat → Int32)) → Prop) (K2 : Int32 → Int32 → (Nat → Int32) → (Nat → Int32) → Prop) (K16 : Int32 → Int32 → Int32 → (Nat → Int32) → (Nat → Int32) → Prop) (K101 : Int32 → Int32 → (Nat → Int32) → (Nat → Int32) → Prop) (K136 : Int32 → Int32 → Int32 → (Nat → Int32) → (Nat → Int32) → Prop) (x1 : Int32) (x2 : Int32) (x3 : Int32) (s0 : Int32) (on_ : Nat → Int32) (he_ : Nat → Int32) : Prop := (vp_in x2 5 ∧ v_X4_findOn_79 n se li wm ch ne np al wo kn sp py il fl wa bo so sd ro cp nr ti la post K2 K16 K101 K136 x1 x2 x3 (on_ x2.toNatClampNeg) s0 on_ he_)
def v_X4_findOn_16 (n : Nat) (se : Int32) (li : Int32) (wm : Int32) (ch : Int32) (ne : Int32) (np : Int32) (al : Int32) (wo : Int32) (kn : Nat → Int32) (sp : Nat → Int32) (py : Nat → Int32) (il : Nat → Int32) (fl : Nat → Int32) (wa : Nat → Int32) (bo : Nat → Int32) (so : Nat → Int32) (sd : Nat → Int32) (ro : Nat → Int32) (cp : Nat → Int32) (nr : Nat → Int32) (ti : Nat → Int32) (la : Nat → Int32) (post : ((Nat → Int32) × (Nat → Int32)) → Prop) (K2 : Int32 → Int32 → (Nat → Int32) → (Nat → Int32) → Prop) (K16 : Int32 → Int32 → Int32 → (Nat → Int32) → (Nat → Int32) → Prop) (K101 : Int32 → Int32 → (Nat → Int32) → (Nat → Int32) → Prop) (K136 : Int32 → Int32 → Int32 → (Nat → Int32) → (Nat → Int32) → Prop) (x1 : Int32) (x2 : Int32) (x3 : Int32) (on_ : Nat → Int32) (he_ : Nat → Int32) : Prop := (((nI n) ≤ x3 → K2 x1 (x2 + 1) on_ he_) ∧ (¬ (nI n) ≤ x3 → (vp_in x3 6 ∧ (((bo x3.toNatClampNeg) = x2 → (vp_in x2 5 ∧ (((on_ x2.toNatClampNeg) = (-1 : Int32) → v_X4_findOn_69 n se li wm ch ne np al wo kn sp py il fl wa bo so sd ro cp nr ti la post K2 K16 K101 K136 x1 x2 x3 x2 on_ he_) ∧ (¬ (on_ x2.toNatClampNeg) = (-1 : Int32) → (vp_in x3 6 ∧ (vp_in x2 5 ∧ (vp_in (on_ x2.toNatClampNeg) 6 ∧ (((ti (on_ x2.toNatClampNeg).toNatClampNeg) ≤ (ti x3.toNatClampNeg) → v_X4_findOn_73 n se li wm ch ne np al wo kn sp py il fl wa bo so sd ro cp nr ti la post K2 K16 K101 K136 x1 x2 x3 x2 on_ he_) ∧ (¬ (ti (on_ x2.toNatClampNeg).toNatClampNeg) ≤ (ti x3.toNatClampNeg) → v_X4_findOn_69 n se li wm ch ne np al wo kn sp py il fl wa bo so sd ro cp nr ti la post K2 K16 K101 K136 x1 x2 x3 x2 on_ he_))))))))) ∧ (¬ (bo x3.toNatClampNeg) = x2 → v_X4_findOn_73 n se li wm ch ne np al wo kn sp py il fl wa bo so sd ro cp nr ti la post K2 K16 K101 K136 x1 x2 x3 x2 on_ he_)))))
def v_X4_findOn_244 (n : Nat) (se : Int32) (li : Int32) (wm : Int32) (ch : Int32) (ne : Int32) (np : Int32) (al : Int32) (wo : Int32) (kn : Nat → Int32) (sp : Nat → Int32) (py : Nat → Int32) (il : Nat → Int32) (fl : Nat → Int32) (wa : Nat → Int32) (bo : Nat → Int32) (so : Nat → Int32) (sd : Nat → Int32) (ro : Nat → Int32) (cp : Nat → Int32) (nr : Nat → Int32) (ti : Nat → Int32) (la : Nat → Int32) (post : ((Nat → Int32) × (Nat → Int32)) → Prop) (K2 : Int32 → Int32 → (Nat → Int32) → (Nat → Int32) → Prop) (K16 : Int32 → Int32 → Int32 → (Nat → Int32) → (Nat → Int32) → Prop) (K101 : Int32 → Int32 → (Nat → Int32) → (Nat → Int32) → Prop) (K136 : Int32 → Int32 → Int32 → (Nat → Int32) → (Nat → Int32) → Prop) (x2 : Int32) (x3 : Int32) (on_ : Nat → Int32) (he_ : Nat → Int32) : Prop := K101 x2 (x3 + 1) on_ he_
def v_X4_findOn_101 (n : Nat) (se : Int32) (li : Int32) (wm : Int32) (ch : Int32) (ne : Int32) (np : Int32) (al : Int32) (wo : Int32) (kn : Nat → Int32) (sp : Nat → Int32) (py : Nat → Int32) (il : Nat → Int32) (fl : Nat → Int32) (wa : Nat → Int32) (bo : Nat → Int32) (so : Nat → Int32) (sd : Nat → Int32) (ro : Nat → Int32) (cp : Nat → Int32) (nr : Nat → Int32) (ti : Nat → Int32) (la : Nat → Int32) (post : ((Nat → Int32) × (Nat → Int32)) → Prop) (K2 : Int32 → Int32 → (Nat → Int32) → (Nat → Int32) → Prop) (K16 : Int32 → Int32 → Int32 → (Nat → Int32) → (Nat → Int32) → Prop) (K101 : Int32 → Int32 → (Nat → Int32) → (Nat → Int32) → Prop) (K136 : Int32 → Int32 → Int32 → (Nat → Int32) → (Nat → Int32) → Prop) (x2 : Int32) (x3 : Int32) (on_ : Nat → Int32) (he_ : Nat → Int32) : Prop := (((5 : Int32) ≤ x3 → post (on_, he_)) ∧ (¬ (5 : Int32) ≤ x3 → (vp_in x3 5 ∧ ((x2 = (-1 : Int32) → v_X4_findOn_244 n se li wm ch ne np al wo kn sp py il fl wa bo so sd ro cp nr ti la post K2 K16 K101 K136 x2 x3 on_ (upd he_ x3.toNatClampNeg (-1 : Int32))) ∧ (¬ x2 = (-1 : Int32) → ((x3 = x2 → v_X4_findOn_244 n se li wm ch ne np al wo kn sp py il fl wa bo so sd ro cp nr ti la post K2 K16 K101 K136 x2 x3 on_ (upd he_ x3.toNatClampNeg (-1 : Int32))) ∧ (¬ x3 = x2 → (vp_in x3 5 ∧ (((on_ x3.toNatClampNeg) = (-1 : Int32) → v_X4_findOn_244 n se li wm ch ne np al wo kn sp py il fl wa bo so sd ro cp nr ti la post K2 K16 K101 K136 x2 x3 on_ (upd he_ x3.toNatClampNeg (-1 : Int32))) ∧ (¬ (on_ x3.toNatClampNeg) = (-1 : Int32) → K136 x2 x3 (4 : Int32) on_ (upd he_ x3.toNatClampNeg (-1 : Int32))))))))))))
def v_X4_findOn_203 (n : Nat) (se : Int32) (li : Int32) (wm : Int32) (ch : Int32) (ne : Int32) (np : Int32) (al : Int32) (wo : Int32) (kn : Nat → Int32) (sp : Nat → Int32) (py : Nat → Int32) (il : Nat → Int32) (fl : Nat → Int32) (wa : Nat → Int32) (bo : Nat → Int32) (so : Nat → Int32) (sd : Nat → Int32) (ro : Nat → Int32) (cp : Nat → Int32) (nr : Nat → Int32) (ti : Nat → Int32) (la : Nat → Int32) (post : ((Nat → Int32) × (Nat → Int32)) → Prop) (K2 : Int32 → Int32 → (Nat → Int32) → (Nat → Int32) → Prop) (K16 : Int32 → Int32 → Int32 → (Nat → Int32) → (Nat → Int32) → Prop) (K101 : Int32 → Int32 → (Nat → Int32) → (Nat → Int32) → Prop) (K136 : Int32 → Int32 → Int32 → (Nat → Int32) → (Nat → Int32) → Prop) (x2 : Int32) (x3 : Int32) (x4 : Int32) (s0 : Int32) (s1 : Int32) (on_ : Nat → Int32) (he_ : Nat → Int32) : Prop := (vp_in s1 5 ∧ K136 x2 x3 (x4 + (-1)) on_ (upd he_ s1.toNatClampNeg s0))
def v_X4_findOn_197 (n : Nat) (se : Int32) (li : Int32) (wm : Int32) (ch : Int32) (ne : Int32) (np : Int32) (al : Int32) (wo : Int32) (kn : Nat → Int32) (sp : Nat → Int32) (py : Nat → Int32) (il : Nat → Int32) (fl : Nat → Int32) (wa : Nat → Int32) (bo : Nat → Int32) (so : Nat → Int32) (sd : Nat → Int32) (ro : Nat → Int32) (cp : Nat → Int32) (nr : Nat → Int32) (ti : Nat → Int32) (la : Nat → Int32) (post : ((Nat → Int32) × (Nat → Int32)) → Prop) (K2 : Int32 → Int32 → (Nat → Int32) → (Nat → Int32) → Prop) (K16 : Int32 → Int32 → Int32 → (Nat → Int32) → (Nat → Int32) → Prop) (K101 : Int32 → Int32 → (Nat → Int32) → (Nat → Int32) → Prop) (K136 : Int32 → Int32 → Int32 → (Nat → Int32) → (Nat → Int32) → Prop) (x2 : Int32) (x3 : Int32) (x4 : Int32) (s0 : Int32) (on_ : Nat → Int32) (he_ : Nat → Int32) : Prop := (vp_in x3 5 ∧ v_X4_findOn_203 n se li wm ch ne np al wo kn sp py il fl wa bo so sd ro cp nr ti la post K2 K16 K101 K136 x2 x3 x4 (he_ x3.toNatClampNeg) s0 on_ he_)
def v_X4_findOn_243 (n : Nat) (se : Int32) (li : Int32) (wm : Int32) (ch : Int32) (ne : Int32) (np : Int32) (al : Int32) (wo : Int32) (kn : Nat → Int32) (sp : Nat → Int32) (py : Nat → Int32) (il : Nat → Int32) (fl : Nat → Int32) (wa : Nat → Int32) (bo : Nat → Int32) (so : Nat → Int32) (sd : Nat → Int32) (ro : Nat → Int32) (cp : Nat → Int32) (nr : Nat → Int32) (ti : Nat → Int32) (la : Nat → Int32) (post : ((Nat → Int32) × (Nat → Int32)) → Prop) (K2 : Int32 → Int32 → (Nat → Int32) → (Nat → Int32) → Prop) (K16 : Int32 → Int32 → Int32 → (Nat → Int32) → (Nat → Int32) → Prop) (K101 : Int32 → Int32 → (Nat → Int32) → (Nat → Int32) → Prop) (K136 : Int32 → Int32 → Int32 → (Nat → Int32) → (Nat → Int32) → Prop) (x2 : Int32) (x3 : Int32) (s0 : Int32) (s1 : Int32) (on_ : Nat → Int32) (he_ : Nat → Int32) : Prop := (vp_in s1 5 ∧ v_X4_findOn_244 n se li wm ch ne np al wo kn sp py il fl wa bo so sd ro cp nr ti la post K2 K16 K101 K136 x2 x3 on_ (upd he_ s1.toNatClampNeg s0))
def v_X4_findOn_136 (n : Nat) (se : Int32) (li : Int32) (wm : Int32) (ch : Int32) (ne : Int32) (np : Int32) (al : Int32) (wo : Int32) (kn : Nat → Int32) (sp : Nat → Int32) (py : Nat → Int32) (il : Nat → Int32) (fl : Nat → Int32) (wa : Nat → Int32) (bo : Nat → Int32) (so : Nat → Int32) (sd : Nat → Int32) (ro : Nat → Int32) (cp : Nat → Int32) (nr : Nat → Int32) (ti : Nat → Int32) (la : Nat → Int32) (post : ((Nat → Int32) × (Nat → Int32)) → Prop) (K2 : Int32 → Int32 → (Nat → Int32) → (Nat → Int32) → Prop) (K16 : Int32 → Int32 → Int32 → (Nat → Int32) → (Nat → Int32) → Prop) (K101 : Int32 → Int32 → (Nat → Int32) → (Nat → Int32) → Prop) (K136 : Int32 → Int32 → Int32 → (Nat → Int32) → (Nat → Int32) → Prop) (x2 : Int32) (x3 : Int32) (x4 : Int32) (on_ : Nat → Int32) (he_ : Nat → Int32) : Prop := ((x4 < 0 → (vp_in x3 5 ∧ (vp_in (on_ x3.toNatClampNeg) 6 ∧ (((bI (hs (kn (on_ x3.toNatClampNeg).toNatClampNeg) x2)) = 0 → (vp_in x3 5 ∧ v_X4_findOn_243 n se li wm ch ne np al wo kn sp py il fl wa bo so sd ro cp nr ti la post K2 K16 K101 K136 x2 x3 (he_ x3.toNatClampNeg) x3 on_ he_)) ∧ (¬ (bI (hs (kn (on_ x3.toNatClampNeg).toNatClampNeg) x2)) = 0 → v_X4_findOn_243 n se li wm ch ne np al wo kn sp py il fl wa bo so sd ro cp nr ti la post K2 K16 K101 K136 x2 x3 x3 x3 on_ he_))))) ∧ (¬ x4 < 0 → ((x4 = x2 → v_X4_findOn_197 n se li wm ch ne np al wo kn sp py il fl wa bo so sd ro cp nr ti la post K2 K16 K101 K136 x2 x3 x4 x3 on_ he_) ∧ (¬ x4 = x2 → ((x4 = x3 → v_X4_findOn_197 n se li wm ch ne np al wo kn sp py il fl wa bo so sd ro cp nr ti la post K2 K16 K101 K136 x2 x3 x4 x3 on_ he_) ∧ (¬ x4 = x3 → (vp_in x4 5 ∧ (((on_ x4.toNatClampNeg) = -1 ∨ inB (on_ x4.toNatClampNeg) 6 = true) ∧ (((bI (!decide ((on_ x4.toNatClampNeg) = -1) && hs (kn (on_ x4.toNatClampNeg).toNatClampNeg) x2)) = 0 → v_X4_findOn_197 n se li wm ch ne np al wo kn sp py il fl wa bo so sd ro cp nr ti la post K2 K16 K101 K136 x2 x3 x4 x3 on_ he_) ∧ (¬ (bI (!decide ((on_ x4.toNatClampNeg) = -1) && hs (kn (on_ x4.toNatClampNeg).toNatClampNeg) x2)) = 0 → (vp_in x3 5 ∧ (vp_in (on_ x3.toNatClampNeg) 6 ∧ (((bI (hs (kn (on_ x3.toNatClampNeg).toNatClampNeg) x4)) = 0 → v_X4_findOn_197 n se li wm ch ne np al wo kn sp py il fl wa bo so sd ro cp nr ti la post K2 K16 K101 K136 x2 x3 x4 x3 on_ he_) ∧ (¬ (bI (hs (kn (on_ x3.toNatClampNeg).toNatClampNeg) x4)) = 0 → v_X4_findOn_203 n se li wm ch ne np al wo kn sp py il fl wa bo so sd ro cp nr ti la post K2 K16 K101 K136 x2 x3 x4 x4 x3 on_ he_))))))))))))))
def v_X4_goTo_0 (n : Nat) (se : Int32) (li : Int32) (wm : Int32) (ch : Int32) (ne : Int32) (np : Int32) (al : Int32) (kn : Nat → Int32) (sp : Nat → Int32) (py : Nat → Int32) (il : Nat → Int32) (fl : Nat → Int32) (wa : Nat → Int32) (bo : Nat → Int32) (so : Nat → Int32) (sd : Nat → Int32) (ro : Nat → Int32) (cp : Nat → Int32) (nr : Nat → Int32) (post : (Int32 × (Nat → Int32) × (Nat → Int32) × (Nat → Int32) × (Nat → Int32)) → Prop) (K7 : Int32 → Int32 → Int32 → (Nat → Int32) → (Nat → Int32) → (Nat → Int32) → (Nat → Int32) → Prop) (K28 : Int32 → Int32 → Int32 → (Nat → Int32) → (Nat → Int32) → (Nat → Int32) → (Nat → Int32) → Prop) (K48 : Int32 → Int32 → Int32 → (Nat → Int32) → (Nat → Int32) → (Nat → Int32) → (Nat → Int32) → Prop) (K60 : Int32 → Int32 → Int32 → Int32 → (Nat → Int32) → (Nat → Int32) → (Nat → Int32) → (Nat → Int32) → Prop) (K74 : Int32 → Int32 → Int32 → Int32 → Int32 → Int32 → (Nat → Int32) → (Nat → Int32) → (Nat → Int32) → (Nat → Int32) → Prop) (K206 : Int32 → Int32 → Int32 → Int32 → (Nat → Int32) → (Nat → Int32) → (Nat → Int32) → (Nat → Int32) → Prop) (a1 : Int32) (wo : Int32) (ti : Nat → Int32) (on : Nat → Int32) (he : Nat → Int32) (la : Nat → Int32) : Prop := K7 a1 (0 : Int32) (0 : Int32) ti on he la
def v_X4_goTo_7 (n : Nat) (se : Int32) (li : Int32) (wm : Int32) (ch : Int32) (ne : Int32) (np : Int32) (al : Int32) (kn : Nat → Int32) (sp : Nat → Int32) (py : Nat → Int32) (il : Nat → Int32) (fl : Nat → Int32) (wa : Nat → Int32) (bo : Nat → Int32) (so : Nat → Int32) (sd : Nat → Int32) (ro : Nat → Int32) (cp : Nat → Int32) (nr : Nat → Int32) (post : (Int32 × (Nat → Int32) × (Nat → Int32) × (Nat → Int32) × (Nat → Int32)) → Prop) (K7 : Int32 → Int32 → Int32 → (Nat → Int32) → (Nat → Int32) → (Nat → Int32) → (Nat → Int32) → Prop) (K28 : Int32 → Int32 → Int32 → (Nat → Int32) → (Nat → Int32) → (Nat → Int32) → (Nat → Int32) → Prop) (K48 : Int32 → Int32 → Int32 → (Nat → Int32) → (Nat → Int32) → (Nat → Int32) → (Nat → Int32) → Prop) (K60 : Int32 → Int32 → Int32 → Int32 → (Nat → Int32) → (Nat → Int32) → (Nat → Int32) → (Nat → Int32) → Prop) (K74 : Int32 → Int32 → Int32 → Int32 → Int32 → Int32 → (Nat → Int32) → (Nat → Int32) → (Nat → Int32) → (Nat → Int32) → Prop) (K206 : Int32 → Int32 → Int32 → Int32 → (Nat → Int32) → (Nat → Int32) → (Nat → Int32) → (Nat → Int32) → Prop) (x1 : Int32) (x2 : Int32) (wo_ : Int32) (ti_ : Nat → Int32) (on_ : Nat → Int32) (he_ : Nat → Int32) (la_ : Nat → Int32) : Prop := (((6 : Int32) ≤ x2 → K28 x1 (0 : Int32) wo_ ti_ on_ he_ la_) ∧ (¬ (6 : Int32) ≤ x2 → (vp_in x2 6 ∧ K7 x1 (x2 + 1) wo_ (upd ti_ x2.toNatClampNeg (0 : Int32)) on_ he_ la_)))
def v_X4_goTo_28 (n : Nat) (se : Int32) (li : Int32) (wm : Int32) (ch : Int32) (ne : Int32) (np : Int32) (al : Int32) (kn : Nat → Int32) (sp : Nat → Int32) (py : Nat → Int32) (il : Nat → Int32) (fl : Nat → Int32) (wa : Nat → Int32) (bo : Nat → Int32) (so : Nat → Int32) (sd : Nat → Int32) (ro : Nat → Int32) (cp : Nat → Int32) (nr : Nat → Int32) (post : (Int32 × (Nat → Int32) × (Nat → Int32) × (Nat → Int32) × (Nat → Int32)) → Prop) (K7 : Int32 → Int32 → Int32 → (Nat → Int32) → (Nat → Int32) → (Nat → Int32) → (Nat → Int32) → Prop) (K28 : Int32 → Int32 → Int32 → (Nat → Int32) → (Nat → Int32) → (Nat → Int32) → (Nat → Int32) → Prop) (K48 : Int32 → Int32 → Int32 → (Nat → Int32) → (Nat → Int32) → (Nat → Int32) → (Nat → Int32) → Prop) (K60 : Int32 → Int32 → Int32 → Int32 → (Nat → Int32) → (Nat → Int32) → (Nat → Int32) → (Nat → Int32) → Prop) (K74 : Int32 → Int32 → Int32 → Int32 → Int32 → Int32 → (Nat → Int32) → (Nat → Int32) → (Nat → Int32) → (Nat → Int32) → Prop) (K206 : Int32 → Int32 → Int32 → Int32 → (Nat → Int32) → (Nat → Int32) → (Nat → Int32) → (Nat → Int32) → Prop) (x1 : Int32) (x2 : Int32) (wo_ : Int32) (ti_ : Nat → Int32) (on_ : Nat → Int32) (he_ : Nat → Int32) (la_ : Nat → Int32) : Prop := (((5 : Int32) ≤ x2 → K48 x1 (0 : Int32) wo_ ti_ on_ he_ la_) ∧ (¬ (5 : Int32) ≤ x2 → (vp_in x2 5 ∧ K28 x1 (x2 + 1) wo_ ti_ on_ he_ (upd la_ x2.toNatClampNeg (0 : Int32)))))
def v_X4_goTo_48 (n : Nat) (se : Int32) (li : Int32) (wm : Int32) (ch : Int32) (ne : Int32) (np : Int32) (al : Int32) (kn : Nat → Int32) (sp : Nat → Int32) (py : Nat → Int32) (il : Nat → Int32) (fl : Nat → Int32) (wa : Nat → Int32) (bo : Nat → Int32) (so : Nat → Int32) (sd : Nat → Int32) (ro : Nat → Int32) (cp : Nat → Int32) (nr : Nat → Int32) (post : (Int32 × (Nat → Int32) × (Nat → Int32) × (Nat → Int32) × (Nat → Int32)) → Prop) (K7 : Int32 → Int32 → Int32 → (Nat → Int32) → (Nat → Int32) → (Nat → Int32) → (Nat → Int32) → Prop) (K28 : Int32 → Int32 → Int32 → (Nat → Int32) → (Nat → Int32) → (Nat → Int32) → (Nat → Int32) → Prop) (K48 : Int32 → Int32 → Int32 → (Nat → Int32) → (Nat → Int32) → (Nat → Int32) → (Nat → Int32) → Prop) (K60 : Int32 → Int32 → Int32 → Int32 → (Nat → Int32) → (Nat → Int32) → (Nat → Int32) → (Nat → Int32) → Prop) (K74 : Int32 → Int32 → Int32 → Int32 → Int32 → Int32 → (Nat → Int32) → (Nat → Int32) → (Nat → Int32) → (Nat → Int32) → Prop) (K206 : Int32 → Int32 → Int32 → Int32 → (Nat → Int32) → (Nat → Int32) → (Nat → Int32) → (Nat → Int32) → Prop) (x1 : Int32) (x2 : Int32) (wo_ : Int32) (ti_ : Nat → Int32) (on_ : Nat → Int32) (he_ : Nat → Int32) (la_ : Nat → Int32) : Prop := ((x1 < x2 → post (wo_, ti_, on_, he_, la_)) ∧ (¬ x1 < x2 → ((inB x2 16 = true) ∧ K60 x1 x2 (0 : Int32) wo_ ti_ (chO n bo ti_ on_ n) (heF n kn (chO n bo ti_ on_ n) (so x2.toNatClampNeg) he_ 5) la_)))
def v_X4_goTo_60 (n : Nat) (se : Int32) (li : Int32) (wm : Int32) (ch : Int32) (ne : Int32) (np : Int32) (al : Int32) (kn : Nat → Int32) (sp : Nat → Int32) (py : Nat → Int32) (il : Nat → Int32) (fl : Nat → Int32) (wa : Nat → Int32) (bo : Nat → Int32) (so : Nat → Int32) (sd : Nat → Int32) (ro : Nat → Int32) (cp : Nat → Int32) (nr : Nat → Int32) (post : (Int32 × (Nat → Int32) × (Nat → Int32) × (Nat → Int32) × (Nat → Int32)) → Prop) (K7 : Int32 → Int32 → Int32 → (Nat → Int32) → (Nat → Int32) → (Nat → Int32) → (Nat → Int32) → Prop) (K28 : Int32 → Int32 → Int32 → (Nat → Int32) → (Nat → Int32) → (Nat → Int32) → (Nat → Int32) → Prop) (K48 : Int32 → Int32 → Int32 → (Nat → Int32) → (Nat → Int32) → (Nat → Int32) → (Nat → Int32) → Prop) (K60 : Int32 → Int32 → Int32 → Int32 → (Nat → Int32) → (Nat → Int32) → (Nat → Int32) → (Nat → Int32) → Prop) (K74 : Int32 → Int32 → Int32 → Int32 → Int32 → Int32 → (Nat → Int32) → (Nat → Int32) → (Nat → Int32) → (Nat → Int32) → Prop) (K206 : Int32 → Int32 → Int32 → Int32 → (Nat → Int32) → (Nat → Int32) → (Nat → Int32) → (Nat → Int32) → Prop) (x1 : Int32) (x2 : Int32) (x3 : Int32) (wo_ : Int32) (ti_ : Nat → Int32) (on_ : Nat → Int32) (he_ : Nat → Int32) (la_ : Nat → Int32) : Prop := (((nI n) ≤ x3 → K206 x1 x2 (0 : Int32) wo_ ti_ on_ he_ la_) ∧ (¬ (nI n) ≤ x3 → K74 x1 x2 x3 (0 : Int32) (0 : Int32) wo_ ti_ on_ he_ la_))
def v_X4_goTo_112 (n : Nat) (se : Int32) (li : Int32) (wm : Int32) (ch : Int32) (ne : Int32) (np : Int32) (al : Int32) (kn : Nat → Int32) (sp : Nat → Int32) (py : Nat → Int32) (il : Nat → Int32) (fl : Nat → Int32) (wa : Nat → Int32) (bo : Nat → Int32) (so : Nat → Int32) (sd : Nat → Int32) (ro : Nat → Int32) (cp : Nat → Int32) (nr : Nat → Int32) (post : (Int32 × (Nat → Int32) × (Nat → Int32) × (Nat → Int32) × (Nat → Int32)) → Prop) (K7 : Int32 → Int32 → Int32 → (Nat → Int32) → (Nat → Int32) → (Nat → Int32) → (Nat → Int32) → Prop) (K28 : Int32 → Int32 → Int32 → (Nat → Int32) → (Nat → Int32) → (Nat → Int32) → (Nat → Int32) → Prop) (K48 : Int32 → Int32 → Int32 → (Nat → Int32) → (Nat → Int32) → (Nat → Int32) → (Nat → Int32) → Prop) (K60 : Int32 → Int32 → Int32 → Int32 → (Nat → Int32) → (Nat → Int32) → (Nat → Int32) → (Nat → Int32) → Prop) (K74 : Int32 → Int32 → Int32 → Int32 → Int32 → Int32 → (Nat → Int32) → (Nat → Int32) → (Nat → Int32) → (Nat → Int32) → Prop) (K206 : Int32 → Int32 → Int32 → Int32 → (Nat → Int32) → (Nat → Int32) → (Nat → Int32) → (Nat → Int32) → Prop) (x1 : Int32) (x2 : Int32) (x3 : Int32) (x5 : Int32) (s0 : Int32) (wo_ : Int32) (ti_ : Nat → Int32) (on_ : Nat → Int32) (he_ : Nat → Int32) (la_ : Nat → Int32) : Prop := K74 x1 x2 x3 s0 (x5 + 1) wo_ ti_ on_ he_ la_
def v_X4_goTo_107 (n : Nat) (se : Int32) (li : Int32) (wm : Int32) (ch : Int32) (ne : Int32) (np : Int32) (al : Int32) (kn : Nat → Int32) (sp : Nat → Int32) (py : Nat → Int32) (il : Nat → Int32) (fl : Nat → Int32) (wa : Nat → Int32) (bo : Nat → Int32) (so : Nat → Int32) (sd : Nat → Int32) (ro : Nat → Int32) (cp : Nat → Int32) (nr : Nat → Int32) (post : (Int32 × (Nat → Int32) × (Nat → Int32) × (Nat → Int32) × (Nat → Int32)) → Prop) (K7 : Int32 → Int32 → Int32 → (Nat → Int32) → (Nat → Int32) → (Nat → Int32) → (Nat → Int32) → Prop) (K28 : Int32 → Int32 → Int32 → (Nat → Int32) → (Nat → Int32) → (Nat → Int32) → (Nat → Int32) → Prop) (K48 : Int32 → Int32 → Int32 → (Nat → Int32) → (Nat → Int32) → (Nat → Int32) → (Nat → Int32) → Prop) (K60 : Int32 → Int32 → Int32 → Int32 → (Nat → Int32) → (Nat → Int32) → (Nat → Int32) → (Nat → Int32) → Prop) (K74 : Int32 → Int32 → Int32 → Int32 → Int32 → Int32 → (Nat → Int32) → (Nat → Int32) → (Nat → Int32) → (Nat → Int32) → Prop) (K206 : Int32 → Int32 → Int32 → Int32 → (Nat → Int32) → (Nat → Int32) → (Nat → Int32) → (Nat → Int32) → Prop) (x1 : Int32) (x2 : Int32) (x3 : Int32) (x5 : Int32) (wo_ : Int32) (ti_ : Nat → Int32) (on_ : Nat → Int32) (he_ : Nat → Int32) (la_ : Nat → Int32) : Prop := v_X4_goTo_112 n se li wm ch ne np al kn sp py il fl wa bo so sd ro cp nr post K7 K28 K48 K60 K74 K206 x1 x2 x3 x5 (1 : Int32) wo_ ti_ on_ he_ la_
def v_X4_goTo_111 (n : Nat) (se : Int32) (li : Int32) (wm : Int32) (ch : Int32) (ne : Int32) (np : Int32) (al : Int32) (kn : Nat → Int32) (sp : Nat → Int32) (py : Nat → Int32) (il : Nat → Int32) (fl : Nat → Int32) (wa : Nat → Int32) (bo : Nat → Int32) (so : Nat → Int32) (sd : Nat → Int32) (ro : Nat → Int32) (cp : Nat → Int32) (nr : Nat → Int32) (post : (Int32 × (Nat → Int32) × (Nat → Int32) × (Nat → Int32) × (Nat → Int32)) → Prop) (K7 : Int32 → Int32 → Int32 → (Nat → Int32) → (Nat → Int32) → (Nat → Int32) → (Nat → Int32) → Prop) (K28 : Int32 → Int32 → Int32 → (Nat → Int32) → (Nat → Int32) → (Nat → Int32) → (Nat → Int32) → Prop) (K48 : Int32 → Int32 → Int32 → (Nat → Int32) → (Nat → Int32) → (Nat → Int32) → (Nat → Int32) → Prop) (K60 : Int32 → Int32 → Int32 → Int32 → (Nat → Int32) → (Nat → Int32) → (Nat → Int32) → (Nat → Int32) → Prop) (K74 : Int32 → Int32 → Int32 → Int32 → Int32 → Int32 → (Nat → Int32) → (Nat → Int32) → (Nat → Int32) → (Nat → Int32) → Prop) (K206 : Int32 → Int32 → Int32 → Int32 → (Nat → Int32) → (Nat → Int32) → (Nat → Int32) → (Nat → Int32) → Prop) (x1 : Int32) (x2 : Int32) (x3 : Int32) (x5 : Int32) (wo_ : Int32) (ti_ : Nat → Int32) (on_ : Nat → Int32) (he_ : Nat → Int32) (la_ : Nat → Int32) : Prop := v_X4_goTo_112 n se li wm ch ne np al kn sp py il fl wa bo so sd ro cp nr post K7 K28 K48 K60 K74 K206 x1 x2 x3 x5 (0 : Int32) wo_ ti_ on_ he_ la_
def v_X4_goTo_194 (n : Nat) (se : Int32) (li : Int32) (wm : Int32) (ch : Int32) (ne : Int32) (np : Int32) (al : Int32) (kn : Nat → Int32) (sp : Nat → Int32) (py : Nat → Int32) (il : Nat → Int32) (fl : Nat → Int32) (wa : Nat → Int32) (bo : Nat → Int32) (so : Nat → Int32) (sd : Nat → Int32) (ro : Nat → Int32) (cp : Nat → Int32) (nr : Nat → Int32) (post : (Int32 × (Nat → Int32) × (Nat → Int32) × (Nat → Int32) × (Nat → Int32)) → Prop) (K7 : Int32 → Int32 → Int32 → (Nat → Int32) → (Nat → Int32) → (Nat → Int32) → (Nat → Int32) → Prop) (K28 : Int32 → Int32 → Int32 → (Nat → Int32) → (Nat → Int32) → (Nat → Int32) → (Nat → Int32) → Prop) (K48 : Int32 → Int32 → Int32 → (Nat → Int32) → (Nat → Int32) → (Nat → Int32) → (Nat → Int32) → Prop) (K60 : Int32 → Int32 → Int32 → Int32 → (Nat → Int32) → (Nat → Int32) → (Nat → Int32) → (Nat → Int32) → Prop) (K74 : Int32 → Int32 → Int32 → Int32 → Int32 → Int32 → (Nat → Int32) → (Nat → Int32) → (Nat → Int32) → (Nat → Int32) → Prop) (K206 : Int32 → Int32 → Int32 → Int32 → (Nat → Int32) → (Nat → Int32) → (Nat → Int32) → (Nat → Int32) → Prop) (x1 : Int32) (x2 : Int32) (x3 : Int32) (s0 : Int32) (s1 : Int32) (wo_ : Int32) (ti_ : Nat → Int32) (on_ : Nat → Int32) (he_ : Nat → Int32) (la_ : Nat → Int32) : Prop := K60 x1 x2 (x3 + 1) (s1 ||| s0) ti_ on_ he_ la_
def v_X4_goTo_168 (n : Nat) (se : Int32) (li : Int32) (wm : Int32) (ch : Int32) (ne : Int32) (np : Int32) (al : Int32) (kn : Nat → Int32) (sp : Nat → Int32) (py : Nat → Int32) (il : Nat → Int32) (fl : Nat → Int32) (wa : Nat → Int32) (bo : Nat → Int32) (so : Nat → Int32) (sd : Nat → Int32) (ro : Nat → Int32) (cp : Nat → Int32) (nr : Nat → Int32) (post : (Int32 × (Nat → Int32) × (Nat → Int32) × (Nat → Int32) × (Nat → Int32)) → Prop) (K7 : Int32 → Int32 → Int32 → (Nat → Int32) → (Nat → Int32) → (Nat → Int32) → (Nat → Int32) → Prop) (K28 : Int32 → Int32 → Int32 → (Nat → Int32) → (Nat → Int32) → (Nat → Int32) → (Nat → Int32) → Prop) (K48 : Int32 → Int32 → Int32 → (Nat → Int32) → (Nat → Int32) → (Nat → Int32) → (Nat → Int32) → Prop) (K60 : Int32 → Int32 → Int32 → Int32 → (Nat → Int32) → (Nat → Int32) → (Nat → Int32) → (Nat → Int32) → Prop) (K74 : Int32 → Int32 → Int32 → Int32 → Int32 → Int32 → (Nat → Int32) → (Nat → Int32) → (Nat → Int32) → (Nat → Int32) → Prop) (K206 : Int32 → Int32 → Int32 → Int32 → (Nat → Int32) → (Nat → Int32) → (Nat → Int32) → (Nat → Int32) → Prop) (x1 : Int32) (x2 : Int32) (x3 : Int32) (s0 : Int32) (s1 : Int32) (wo_ : Int32) (ti_ : Nat → Int32) (on_ : Nat → Int32) (he_ : Nat → Int32) (la_ : Nat → Int32) : Prop := (vp_in s1 6 ∧ (vp_in x3 6 ∧ ((((upd ti_ s1.toNatClampNeg s0) x3.toNatClampNeg) ≤ li → v_X4_goTo_194 n se li wm ch ne np al kn sp py il fl wa bo so sd ro cp nr post K7 K28 K48 K60 K74 K206 x1 x2 x3 (0 : Int32) wo_ wo_ (upd ti_ s1.toNatClampNeg s0) on_ he_ la_) ∧ (¬ ((upd ti_ s1.toNatClampNeg s0) x3.toNatClampNeg) ≤ li → v_X4_goTo_194 n se li wm ch ne np al kn sp py il fl wa bo so sd ro cp nr post K7 K28 K48 K60 K74 K206 x1 x2 x3 ((1 : Int32) <<< (x3 &&& 31)) wo_ wo_ (upd ti_ s1.toNatClampNeg s0) on_ he_ la_))))
def v_X4_goTo_74 (n : Nat) (se : Int32) (li : Int32) (wm : Int32) (ch : Int32) (ne : Int32) (np : Int32) (al : Int32) (kn : Nat → Int32) (sp : Nat → Int32) (py : Nat → Int32) (il : Nat → Int32) (fl : Nat → Int32) (wa : Nat → Int32) (bo : Nat → Int32) (so : Nat → Int32) (sd : Nat → Int32) (ro : Nat → Int32) (cp : Nat → Int32) (nr : Nat → Int32) (post : (Int32 × (Nat → Int32) × (Nat → Int32) × (Nat → Int32) × (Nat → Int32)) → Prop) (K7 : Int32 → Int32 → Int32 → (Nat → Int32) → (Nat → Int32) → (Nat → Int32) → (Nat → Int32) → Prop) (K28 : Int32 → Int32 → Int32 → (Nat → Int32) → (Nat → Int32) → (Nat → Int32) → (Nat → Int32) → Prop) (K48 : Int32 → Int32 → Int32 → (Nat → Int32) → (Nat → Int32) → (Nat → Int32) → (Nat → Int32) → Prop) (K60 : Int32 → Int32 → Int32 → Int32 → (Nat → Int32) → (Nat → Int32) → (Nat → Int32) → (Nat → Int32) → Prop) (K74 : Int32 → Int32 → Int32 → Int32 → Int32 → Int32 → (Nat → Int32) → (Nat → Int32) → (Nat → Int32) → (Nat → Int32) → Prop) (K206 : Int32 → Int32 → Int32 → Int32 → (Nat → Int32) → (Nat → Int32) → (Nat → Int32) → (Nat → Int32) → Prop) (x1 : Int32) (x2 : Int32) (x3 : Int32) (x4 : Int32) (x5 : Int32) (wo_ : Int32) (ti_ : Nat → Int32) (on_ : Nat → Int32) (he_ : Nat → Int32) (la_ : Nat → Int32) : Prop := (((5 : Int32) ≤ x5 → ((x4 = 0 → (vp_in x3 6 ∧ (((ti_ x3.toNatClampNeg) ≤ (2 : Int32) → v_X4_goTo_168 n se li wm ch ne np al kn sp py il fl wa bo so sd ro cp nr post K7 K28 K48 K60 K74 K206 x1 x2 x3 (0 : Int32) x3 wo_ ti_ on_ he_ la_) ∧ (¬ (ti_ x3.toNatClampNeg) ≤ (2 : Int32) → (vp_in x3 6 ∧ v_X4_goTo_168 n se li wm ch ne np al kn sp py il fl wa bo so sd ro cp nr post K7 K28 K48 K60 K74 K206 x1 x2 x3 ((ti_ x3.toNatClampNeg) - (2 : Int32)) x3 wo_ ti_ on_ he_ la_))))) ∧ (¬ x4 = 0 → (vp_in x3 6 ∧ (vp_in x2 16 ∧ v_X4_goTo_168 n se li wm ch ne np al kn sp py il fl wa bo so sd ro cp nr post K7 K28 K48 K60 K74 K206 x1 x2 x3 ((ti_ x3.toNatClampNeg) + (sd x2.toNatClampNeg)) x3 wo_ ti_ on_ he_ la_))))) ∧ (¬ (5 : Int32) ≤ x5 → ((x4 = 0 → (vp_in x5 5 ∧ (((on_ x5.toNatClampNeg) = x3 → (vp_in x5 5 ∧ (((he_ x5.toNatClampNeg) = (-1 : Int32) → v_X4_goTo_111 n se li wm ch ne np al kn sp py il fl wa bo so sd ro cp nr post K7 K28 K48 K60 K74 K206 x1 x2 x3 x5 wo_ ti_ on_ he_ la_) ∧ (¬ (he_ x5.toNatClampNeg) = (-1 : Int32) → v_X4_goTo_107 n se li wm ch ne np al kn sp py il fl wa bo so sd ro cp nr post K7 K28 K48 K60 K74 K206 x1 x2 x3 x5 wo_ ti_ on_ he_ la_)))) ∧ (¬ (on_ x5.toNatClampNeg) = x3 → v_X4_goTo_111 n se li wm ch ne np al kn sp py il fl wa bo so sd ro cp nr post K7 K28 K48 K60 K74 K206 x1 x2 x3 x5 wo_ ti_ on_ he_ la_)))) ∧ (¬ x4 = 0 → v_X4_goTo_107 n se li wm ch ne np al kn sp py il fl wa bo so sd ro cp nr post K7 K28 K48 K60 K74 K206 x1 x2 x3 x5 wo_ ti_ on_ he_ la_))))
def v_X4_goTo_270 (n : Nat) (se : Int32) (li : Int32) (wm : Int32) (ch : Int32) (ne : Int32) (np : Int32) (al : Int32) (kn : Nat → Int32) (sp : Nat → Int32) (py : Nat → Int32) (il : Nat → Int32) (fl : Nat → Int32) (wa : Nat → Int32) (bo : Nat → Int32) (so : Nat → Int32) (sd : Nat → Int32) (ro : Nat → Int32) (cp : Nat → Int32) (nr : Nat → Int32) (post : (Int32 × (Nat → Int32) × (Nat → Int32) × (Nat → Int32) × (Nat → Int32)) → Prop) (K7 : Int32 → Int32 → Int32 → (Nat → Int32) → (Nat → Int32) → (Nat → Int32) → (Nat → Int32) → Prop) (K28 : Int32 → Int32 → Int32 → (Nat → Int32) → (Nat → Int32) → (Nat → Int32) → (Nat → Int32) → Prop) (K48 : Int32 → Int32 → Int32 → (Nat → Int32) → (Nat → Int32) → (Nat → Int32) → (Nat → Int32) → Prop) (K60 : Int32 → Int32 → Int32 → Int32 → (Nat → Int32) → (Nat → Int32) → (Nat → Int32) → (Nat → Int32) → Prop) (K74 : Int32 → Int32 → Int32 → Int32 → Int32 → Int32 → (Nat → Int32) → (Nat → Int32) → (Nat → Int32) → (Nat → Int32) → Prop) (K206 : Int32 → Int32 → Int32 → Int32 → (Nat → Int32) → (Nat → Int32) → (Nat → Int32) → (Nat → Int32) → Prop) (x1 : Int32) (x2 : Int32) (x3 : Int32) (s0 : Int32) (s1 : Int32) (s2 : Int32) (wo_ : Int32) (ti_ : Nat → Int32) (on_ : Nat → Int32) (he_ : Nat → Int32) (la_ : Nat → Int32) : Prop := (vp_in s2 5 ∧ K206 x1 x2 (x3 + 1) wo_ ti_ on_ he_ (upd la_ s2.toNatClampNeg (s1 + s0)))
def v_X4_goTo_226 (n : Nat) (se : Int32) (li : Int32) (wm : Int32) (ch : Int32) (ne : Int32) (np : Int32) (al : Int32) (kn : Nat → Int32) (sp : Nat → Int32) (py : Nat → Int32) (il : Nat → Int32) (fl : Nat → Int32) (wa : Nat → Int32) (bo : Nat → Int32) (so : Nat → Int32) (sd : Nat → Int32) (ro : Nat → Int32) (cp : Nat → Int32) (nr : Nat → Int32) (post : (Int32 × (Nat → Int32) × (Nat → Int32) × (Nat → Int32) × (Nat → Int32)) → Prop) (K7 : Int32 → Int32 → Int32 → (Nat → Int32) → (Nat → Int32) → (Nat → Int32) → (Nat → Int32) → Prop) (K28 : Int32 → Int32 → Int32 → (Nat → Int32) → (Nat → Int32) → (Nat → Int32) → (Nat → Int32) → Prop) (K48 : Int32 → Int32 → Int32 → (Nat → Int32) → (Nat → Int32) → (Nat → Int32) → (Nat → Int32) → Prop) (K60 : Int32 → Int32 → Int32 → Int32 → (Nat → Int32) → (Nat → Int32) → (Nat → Int32) → (Nat → Int32) → Prop) (K74 : Int32 → Int32 → Int32 → Int32 → Int32 → Int32 → (Nat → Int32) → (Nat → Int32) → (Nat → Int32) → (Nat → Int32) → Prop) (K206 : Int32 → Int32 → Int32 → Int32 → (Nat → Int32) → (Nat → Int32) → (Nat → Int32) → (Nat → Int32) → Prop) (x1 : Int32) (x2 : Int32) (x3 : Int32) (s0 : Int32) (wo_ : Int32) (ti_ : Nat → Int32) (on_ : Nat → Int32) (he_ : Nat → Int32) (la_ : Nat → Int32) : Prop := (vp_in x3 5 ∧ (vp_in x3 5 ∧ (((he_ x3.toNatClampNeg) = (-1 : Int32) → v_X4_goTo_270 n se li wm ch ne np al kn sp py il fl wa bo so sd ro cp nr post K7 K28 K48 K60 K74 K206 x1 x2 x3 (0 : Int32) (la_ x3.toNatClampNeg) x3 wo_ ti_ on_ he_ la_) ∧ (¬ (he_ x3.toNatClampNeg) = (-1 : Int32) → (vp_in x3 5 ∧ (((he_ x3.toNatClampNeg) = x3 → v_X4_goTo_270 n se li wm ch ne np al kn sp py il fl wa bo so sd ro cp nr post K7 K28 K48 K60 K74 K206 x1 x2 x3 s0 (la_ x3.toNatClampNeg) x3 wo_ ti_ on_ he_ la_) ∧ (¬ (he_ x3.toNatClampNeg) = x3 → v_X4_goTo_270 n se li wm ch ne np al kn sp py il fl wa bo so sd ro cp nr post K7 K28 K48 K60 K74 K206 x1 x2 x3 (((2 : Int32) * s0) + (1 : Int32)) (la_ x3.toNatClampNeg) x3 wo_ ti_ on_ he_ la_)))))))
def v_X4_goTo_206 (n : Nat) (se : Int32) (li : Int32) (wm : Int32) (ch : Int32) (ne : Int32) (np : Int32) (al : Int32) (kn : Nat → Int32) (sp : Nat → Int32) (py : Nat → Int32) (il : Nat → Int32) (fl : Nat → Int32) (wa : Nat → Int32) (bo : Nat → Int32) (so : Nat → Int32) (sd : Nat → Int32) (ro : Nat → Int32) (cp : Nat → Int32) (nr : Nat → Int32) (post : (Int32 × (Nat → Int32) × (Nat → Int32) × (Nat → Int32) × (Nat → Int32)) → Prop) (K7 : Int32 → Int32 → Int32 → (Nat → Int32) → (Nat → Int32) → (Nat → Int32) → (Nat → Int32) → Prop) (K28 : Int32 → Int32 → Int32 → (Nat → Int32) → (Nat → Int32) → (Nat → Int32) → (Nat → Int32) → Prop) (K48 : Int32 → Int32 → Int32 → (Nat → Int32) → (Nat → Int32) → (Nat → Int32) → (Nat → Int32) → Prop) (K60 : Int32 → Int32 → Int32 → Int32 → (Nat → Int32) → (Nat → Int32) → (Nat → Int32) → (Nat → Int32) → Prop) (K74 : Int32 → Int32 → Int32 → Int32 → Int32 → Int32 → (Nat → Int32) → (Nat → Int32) → (Nat → Int32) → (Nat → Int32) → Prop) (K206 : Int32 → Int32 → Int32 → Int32 → (Nat → Int32) → (Nat → Int32) → (Nat → Int32) → (Nat → Int32) → Prop) (x1 : Int32) (x2 : Int32) (x3 : Int32) (wo_ : Int32) (ti_ : Nat → Int32) (on_ : Nat → Int32) (he_ : Nat → Int32) (la_ : Nat → Int32) : Prop := (((5 : Int32) ≤ x3 → K48 x1 (x2 + 1) wo_ ti_ on_ he_ la_) ∧ (¬ (5 : Int32) ≤ x3 → (vp_in x2 16 ∧ (((sd x2.toNatClampNeg) ≤ (5 : Int32) → v_X4_goTo_226 n se li wm ch ne np al kn sp py il fl wa bo so sd ro cp nr post K7 K28 K48 K60 K74 K206 x1 x2 x3 (1 : Int32) wo_ ti_ on_ he_ la_) ∧ (¬ (sd x2.toNatClampNeg) ≤ (5 : Int32) → v_X4_goTo_226 n se li wm ch ne np al kn sp py il fl wa bo so sd ro cp nr post K7 K28 K48 K60 K74 K206 x1 x2 x3 (2 : Int32) wo_ ti_ on_ he_ la_)))))
def v_X4_on_0 (n : Nat) (se : Int32) (li : Int32) (wm : Int32) (ch : Int32) (ne : Int32) (np : Int32) (al : Int32) (kn : Nat → Int32) (sp : Nat → Int32) (py : Nat → Int32) (il : Nat → Int32) (fl : Nat → Int32) (wa : Nat → Int32) (bo : Nat → Int32) (so : Nat → Int32) (sd : Nat → Int32) (ro : Nat → Int32) (cp : Nat → Int32) (nr : Nat → Int32) (post : Int32 → (Int32 × (Nat → Int32) × (Nat → Int32) × (Nat → Int32) × (Nat → Int32)) → Prop) (a1 : Int32) (a2 : Int32) (wo : Int32) (ti : Nat → Int32) (on : Nat → Int32) (he : Nat → Int32) (la : Nat → Int32) : Prop := (((bI (inR a1 0 4)) = 0 → post (-2 : Int32) (wo, ti, on, he, la)) ∧ (¬ (bI (inR a1 0 4)) = 0 → (((bI (inR a2 0 15)) = 0 → post (-2 : Int32) (wo, ti, on, he, la)) ∧ (¬ (bI (inR a2 0 15)) = 0 → ((inB a2 16 = true) ∧ ((∀ h, h < 16 → inR (sd h) 0 9 = true) ∧ (∀ u19 : Int32 × (Nat → Int32) × (Nat → Int32) × (Nat → Int32) × (Nat → Int32), u19 = gtF n kn bo so sd li (ti, on, he) la (a2.toNatClampNeg + 1) → (vp_in a1 5 ∧ post (u19.2.2.1 a1.toNatClampNeg) (u19.1, u19.2.1, u19.2.2.1, u19.2.2.2.1, u19.2.2.2.2)))))))))
def v_X4_heard_0 (n : Nat) (se : Int32) (li : Int32) (wm : Int32) (ch : Int32) (ne : Int32) (np : Int32) (al : Int32) (kn : Nat → Int32) (sp : Nat → Int32) (py : Nat → Int32) (il : Nat → Int32) (fl : Nat → Int32) (wa : Nat → Int32) (bo : Nat → Int32) (so : Nat → Int32) (sd : Nat → Int32) (ro : Nat → Int32) (cp : Nat → Int32) (nr : Nat → Int32) (post : Int32 → (Int32 × (Nat → Int32) × (Nat → Int32) × (Nat → Int32) × (Nat → Int32)) → Prop) (a1 : Int32) (a2 : Int32) (wo : Int32) (ti : Nat → Int32) (on : Nat → Int32) (he : Nat → Int32) (la : Nat → Int32) : Prop := (((bI (inR a1 0 4)) = 0 → post (-2 : Int32) (wo, ti, on, he, la)) ∧ (¬ (bI (inR a1 0 4)) = 0 → (((bI (inR a2 0 15)) = 0 → post (-2 : Int32) (wo, ti, on, he, la)) ∧ (¬ (bI (inR a2 0 15)) = 0 → ((inB a2 16 = true) ∧ ((∀ h, h < 16 → inR (sd h) 0 9 = true) ∧ (∀ u19 : Int32 × (Nat → Int32) × (Nat → Int32) × (Nat → Int32) × (Nat → Int32), u19 = gtF n kn bo so sd li (ti, on, he) la (a2.toNatClampNeg + 1) → (vp_in a1 5 ∧ post (u19.2.2.2.1 a1.toNatClampNeg) (u19.1, u19.2.1, u19.2.2.1, u19.2.2.2.1, u19.2.2.2.2)))))))))
def v_X4_tired_0 (n : Nat) (se : Int32) (li : Int32) (wm : Int32) (ch : Int32) (ne : Int32) (np : Int32) (al : Int32) (kn : Nat → Int32) (sp : Nat → Int32) (py : Nat → Int32) (il : Nat → Int32) (fl : Nat → Int32) (wa : Nat → Int32) (bo : Nat → Int32) (so : Nat → Int32) (sd : Nat → Int32) (ro : Nat → Int32) (cp : Nat → Int32) (nr : Nat → Int32) (post : Int32 → (Int32 × (Nat → Int32) × (Nat → Int32) × (Nat → Int32) × (Nat → Int32)) → Prop) (a1 : Int32) (a2 : Int32) (wo : Int32) (ti : Nat → Int32) (on : Nat → Int32) (he : Nat → Int32) (la : Nat → Int32) : Prop := (((bI (inR a1 0 (nI n - 1))) = 0 → post (-2 : Int32) (wo, ti, on, he, la)) ∧ (¬ (bI (inR a1 0 (nI n - 1))) = 0 → (((bI (inR a2 0 15)) = 0 → post (-2 : Int32) (wo, ti, on, he, la)) ∧ (¬ (bI (inR a2 0 15)) = 0 → ((inB a2 16 = true) ∧ ((∀ h, h < 16 → inR (sd h) 0 9 = true) ∧ (∀ u20 : Int32 × (Nat → Int32) × (Nat → Int32) × (Nat → Int32) × (Nat → Int32), u20 = gtF n kn bo so sd li (ti, on, he) la (a2.toNatClampNeg + 1) → (vp_in a1 6 ∧ post (u20.2.1 a1.toNatClampNeg) (u20.1, u20.2.1, u20.2.2.1, u20.2.2.2.1, u20.2.2.2.2)))))))))
def v_X4_late_0 (n : Nat) (se : Int32) (li : Int32) (wm : Int32) (ch : Int32) (ne : Int32) (np : Int32) (al : Int32) (kn : Nat → Int32) (sp : Nat → Int32) (py : Nat → Int32) (il : Nat → Int32) (fl : Nat → Int32) (wa : Nat → Int32) (bo : Nat → Int32) (so : Nat → Int32) (sd : Nat → Int32) (ro : Nat → Int32) (cp : Nat → Int32) (nr : Nat → Int32) (post : Int32 → (Int32 × (Nat → Int32) × (Nat → Int32) × (Nat → Int32) × (Nat → Int32)) → Prop) (a1 : Int32) (wo : Int32) (ti : Nat → Int32) (on : Nat → Int32) (he : Nat → Int32) (la : Nat → Int32) : Prop := (((bI (inR a1 0 4)) = 0 → post (-2 : Int32) (wo, ti, on, he, la)) ∧ (¬ (bI (inR a1 0 4)) = 0 → ((inB (15 : Int32) 16 = true) ∧ ((∀ h, h < 16 → inR (sd h) 0 9 = true) ∧ (∀ u13 : Int32 × (Nat → Int32) × (Nat → Int32) × (Nat → Int32) × (Nat → Int32), u13 = gtF n kn bo so sd li (ti, on, he) la ((15 : Int32).toNatClampNeg + 1) → (vp_in a1 5 ∧ post (u13.2.2.2.2 a1.toNatClampNeg) (u13.1, u13.2.1, u13.2.2.1, u13.2.2.2.1, u13.2.2.2.2)))))))
def v_X4_worn_0 (n : Nat) (se : Int32) (li : Int32) (wm : Int32) (ch : Int32) (ne : Int32) (np : Int32) (al : Int32) (kn : Nat → Int32) (sp : Nat → Int32) (py : Nat → Int32) (il : Nat → Int32) (fl : Nat → Int32) (wa : Nat → Int32) (bo : Nat → Int32) (so : Nat → Int32) (sd : Nat → Int32) (ro : Nat → Int32) (cp : Nat → Int32) (nr : Nat → Int32) (post : Int32 → (Int32 × (Nat → Int32) × (Nat → Int32) × (Nat → Int32) × (Nat → Int32)) → Prop) (wo : Int32) (ti : Nat → Int32) (on : Nat → Int32) (he : Nat → Int32) (la : Nat → Int32) : Prop := ((inB (15 : Int32) 16 = true) ∧ ((∀ h, h < 16 → inR (sd h) 0 9 = true) ∧ (∀ u3 : Int32 × (Nat → Int32) × (Nat → Int32) × (Nat → Int32) × (Nat → Int32), u3 = gtF n kn bo so sd li (ti, on, he) la ((15 : Int32).toNatClampNeg + 1) → post u3.1 (u3.1, u3.2.1, u3.2.2.1, u3.2.2.2.1, u3.2.2.2.2))))
def v_X4_count_0 (n : Nat) (se : Int32) (li : Int32) (wm : Int32) (ch : Int32) (ne : Int32) (np : Int32) (al : Int32) (wo : Int32) (kn : Nat → Int32) (sp : Nat → Int32) (py : Nat → Int32) (il : Nat → Int32) (fl : Nat → Int32) (wa : Nat → Int32) (bo : Nat → Int32) (so : Nat → Int32) (sd : Nat → Int32) (ro : Nat → Int32) (cp : Nat → Int32) (nr : Nat → Int32) (ti : Nat → Int32) (on : Nat → Int32) (he : Nat → Int32) (la : Nat → Int32) (post : Int32 → (Unit) → Prop) (K43 : Int32 → Int32 → Prop) (K83 : Int32 → Int32 → Prop) (a1 : Int32) : Prop := ((a1 = 0 → post (nI n) ()) ∧ (a1 = 1 → K43 (0 : Int32) (0 : Int32)) ∧ (a1 = 2 → post (sI (fun k => if bo k < 5 then 1 else 0) n) ()) ∧ (a1 = 3 → K83 (0 : Int32) (0 : Int32)) ∧ (a1 = 4 → post se ()) ∧ (¬ a1 = 0 ∧ ¬ a1 = 1 ∧ ¬ a1 = 2 ∧ ¬ a1 = 3 ∧ ¬ a1 = 4 → post (-3 : Int32) ()))
def v_X4_count_66 (n : Nat) (se : Int32) (li : Int32) (wm : Int32) (ch : Int32) (ne : Int32) (np : Int32) (al : Int32) (wo : Int32) (kn : Nat → Int32) (sp : Nat → Int32) (py : Nat → Int32) (il : Nat → Int32) (fl : Nat → Int32) (wa : Nat → Int32) (bo : Nat → Int32) (so : Nat → Int32) (sd : Nat → Int32) (ro : Nat → Int32) (cp : Nat → Int32) (nr : Nat → Int32) (ti : Nat → Int32) (on : Nat → Int32) (he : Nat → Int32) (la : Nat → Int32) (post : Int32 → (Unit) → Prop) (K43 : Int32 → Int32 → Prop) (K83 : Int32 → Int32 → Prop) (x3 : Int32) (s0 : Int32) (s1 : Int32) : Prop := K43 (s1 + s0) (x3 + 1)
def v_X4_count_43 (n : Nat) (se : Int32) (li : Int32) (wm : Int32) (ch : Int32) (ne : Int32) (np : Int32) (al : Int32) (wo : Int32) (kn : Nat → Int32) (sp : Nat → Int32) (py : Nat → Int32) (il : Nat → Int32) (fl : Nat → Int32) (wa : Nat → Int32) (bo : Nat → Int32) (so : Nat → Int32) (sd : Nat → Int32) (ro : Nat → Int32) (cp : Nat → Int32) (nr : Nat → Int32) (ti : Nat → Int32) (on : Nat → Int32) (he : Nat → Int32) (la : Nat → Int32) (post : Int32 → (Unit) → Prop) (K43 : Int32 → Int32 → Prop) (K83 : Int32 → Int32 → Prop) (x2 : Int32) (x3 : Int32) : Prop := (((nI n) ≤ x3 → post x2 ()) ∧ (¬ (nI n) ≤ x3 → (vp_in x3 6 ∧ (((il x3.toNatClampNeg) = 0 → v_X4_count_66 n se li wm ch ne np al wo kn sp py il fl wa bo so sd ro cp nr ti on he la post K43 K83 x3 (0 : Int32) x2) ∧ (¬ (il x3.toNatClampNeg) = 0 → v_X4_count_66 n se li wm ch ne np al wo kn sp py il fl wa bo so sd ro cp nr ti on he la post K43 K83 x3 (1 : Int32) x2)))))
def v_X4_count_105 (n : Nat) (se : Int32) (li : Int32) (wm : Int32) (ch : Int32) (ne : Int32) (np : Int32) (al : Int32) (wo : Int32) (kn : Nat → Int32) (sp : Nat → Int32) (py : Nat → Int32) (il : Nat → Int32) (fl : Nat → Int32) (wa : Nat → Int32) (bo : Nat → Int32) (so : Nat → Int32) (sd : Nat → Int32) (ro : Nat → Int32) (cp : Nat → Int32) (nr : Nat → Int32) (ti : Nat → Int32) (on : Nat → Int32) (he : Nat → Int32) (la : Nat → Int32) (post : Int32 → (Unit) → Prop) (K43 : Int32 → Int32 → Prop) (K83 : Int32 → Int32 → Prop) (x3 : Int32) (s0 : Int32) (s1 : Int32) : Prop := K83 (s1 + s0) (x3 + 1)
def v_X4_count_83 (n : Nat) (se : Int32) (li : Int32) (wm : Int32) (ch : Int32) (ne : Int32) (np : Int32) (al : Int32) (wo : Int32) (kn : Nat → Int32) (sp : Nat → Int32) (py : Nat → Int32) (il : Nat → Int32) (fl : Nat → Int32) (wa : Nat → Int32) (bo : Nat → Int32) (so : Nat → Int32) (sd : Nat → Int32) (ro : Nat → Int32) (cp : Nat → Int32) (nr : Nat → Int32) (ti : Nat → Int32) (on : Nat → Int32) (he : Nat → Int32) (la : Nat → Int32) (post : Int32 → (Unit) → Prop) (K43 : Int32 → Int32 → Prop) (K83 : Int32 → Int32 → Prop) (x2 : Int32) (x3 : Int32) : Prop := (((16 : Int32) ≤ x3 → post x2 ()) ∧ (¬ (16 : Int32) ≤ x3 → (vp_in x3 16 ∧ (((so x3.toNatClampNeg) = (-1 : Int32) → v_X4_count_105 n se li wm ch ne np al wo kn sp py il fl wa bo so sd ro cp nr ti on he la post K43 K83 x3 (0 : Int32) x2) ∧ (¬ (so x3.toNatClampNeg) = (-1 : Int32) → v_X4_count_105 n se li wm ch ne np al wo kn sp py il fl wa bo so sd ro cp nr ti on he la post K43 K83 x3 (1 : Int32) x2)))))
end
section
set_option maxHeartbeats 2000000 in
theorem h_X4_findOn (n : Nat) (se : Int32) (li : Int32) (wm : Int32) (ch : Int32) (ne : Int32) (np : Int32) (al : Int32) (wo : Int32) (kn : Nat → Int32) (sp : Nat → Int32) (py : Nat → Int32) (il : Nat → Int32) (fl : Nat → Int32) (wa : Nat → Int32) (bo : Nat → Int32) (so : Nat → Int32) (sd : Nat → Int32) (ro : Nat → Int32) (cp : Nat → Int32) (nr : Nat → Int32) (ti : Nat → Int32) (la : Nat → Int32) (on : Nat → Int32) (he : Nat → Int32) (a1 : Int32) (hn : n ≤ 6) (h0 : inB a1 16 = true) (K2 : Int32 → Int32 → (Nat → Int32) → (Nat → Int32) → Prop) (K16 : Int32 → Int32 → Int32 → (Nat → Int32) → (Nat → Int32) → Prop) (K101 : Int32 → Int32 → (Nat → Int32) → (Nat → Int32) → Prop) (K136 : Int32 → Int32 → Int32 → (Nat → Int32) → (Nat → Int32) → Prop) (R2 : ∀ x1 x2 on_ he_, v_X4_findOn_2 n se li wm ch ne np al wo kn sp py il fl wa bo so sd ro cp nr ti la (fun u => u = (chO n bo ti on n, heF n kn (chO n bo ti on n) (so a1.toNatClampNeg) he 5)) K2 K16 K101 K136 x1 x2 on_ he_ → K2 x1 x2 on_ he_) (R16 : ∀ x1 x2 x3 on_ he_, v_X4_findOn_16 n se li wm ch ne np al wo kn sp py il fl wa bo so sd ro cp nr ti la (fun u => u = (chO n bo ti on n, heF n kn (chO n bo ti on n) (so a1.toNatClampNeg) he 5)) K2 K16 K101 K136 x1 x2 x3 on_ he_ → K16 x1 x2 x3 on_ he_) (R101 : ∀ x2 x3 on_ he_, v_X4_findOn_101 n se li wm ch ne np al wo kn sp py il fl wa bo so sd ro cp nr ti la (fun u => u = (chO n bo ti on n, heF n kn (chO n bo ti on n) (so a1.toNatClampNeg) he 5)) K2 K16 K101 K136 x2 x3 on_ he_ → K101 x2 x3 on_ he_) (R136 : ∀ x2 x3 x4 on_ he_, v_X4_findOn_136 n se li wm ch ne np al wo kn sp py il fl wa bo so sd ro cp nr ti la (fun u => u = (chO n bo ti on n, heF n kn (chO n bo ti on n) (so a1.toNatClampNeg) he 5)) K2 K16 K101 K136 x2 x3 x4 on_ he_ → K136 x2 x3 x4 on_ he_) : v_X4_findOn_0 n se li wm ch ne np al wo kn sp py il fl wa bo so sd ro cp nr ti la (fun u => u = (chO n bo ti on n, heF n kn (chO n bo ti on n) (so a1.toNatClampNeg) he 5)) K2 K16 K101 K136 a1 on he := by
  unfold v_X4_findOn_0
  have hv : vp_in a1 16 := inB_in (n := 16) h0 (Nat.le_refl _) (by omega)
  generalize hf0 : so a1.toNatClampNeg = f at *
  -- the second loop: how each booth is heard
  have second : K101 f (nI 0) (chO n bo ti on n) he := by
    have key := up_ind (fun t => K101 f (nI t) (chO n bo ti on n) (heF n kn (chO n bo ti on n) f he t)) 5 (R101 _ _ _ _ ?_) (fun t ht ih => R101 _ _ _ _ ?_)
    · exact key
    · exact ⟨fun _ => rfl, fun h => absurd (nI_le (a := 5) (b := 5) (Nat.le_refl _) (by omega)) h⟩
    · have ec : (nI t).toNatClampNeg = t := nI_clamp (by omega)
      have h5 : vp_in (nI t) 5 := vp_in_nI ht (by omega)
      refine ⟨fun h => absurd h (nI_ge (b := 5) ht (by omega)), fun _ => ⟨h5, ?_⟩⟩
      simp only [v_X4_findOn_244, nI_1, ec]
      rw [heF] at ih
      refine ⟨fun g => ?_, fun g => ⟨fun g2 => ?_, fun g2 => ⟨h5, fun g3 => ?_, fun g3 => ?_⟩⟩⟩
      · have e : wyF n kn (chO n bo ti on n) f (nI t) = -1 := by simp [wyF, g]
        rw [e] at ih; exact ih
      · have e : wyF n kn (chO n bo ti on n) f (nI t) = -1 := by simp [wyF, g2]
        rw [e] at ih; exact ih
      · have e : wyF n kn (chO n bo ti on n) f (nI t) = -1 := by rw [wyF, ec, if_pos g3]; simp
        rw [e] at ih; exact ih
      · obtain ⟨hon6, j, hj, hjo⟩ := on_in n bo ti on hn ht g3
        have ekt : atP n kn 0 (chO n bo ti on n t) = kn (chO n bo ti on n t).toNatClampNeg := by rw [hjo, atP_nI hj (by omega), nI_clamp (by omega)]
        have hvo : vp_in (chO n bo ti on n t) 6 := inB_in (n := 6) hon6 (Nat.le_refl _) (by omega)
        have g2b : ¬ f = nI t := fun q => g2 q.symm
        have ewy : wyF n kn (chO n bo ti on n) f (nI t) = if hs (kn (chO n bo ti on n t).toNatClampNeg) f = true then nI t else wyL (wyC n kn (chO n bo ti on n) f (nI t) (kn (chO n bo ti on n t).toNatClampNeg)) 5 0 := by
          rw [wyF, ec, if_neg g, if_neg g2b, if_neg g3, ekt]
        rw [ewy] at ih
        have dn : ∀ r, r ≤ 5 → K136 f (nI t) (nI r - 1) (chO n bo ti on n) (upd (heF n kn (chO n bo ti on n) f he t) t (wyL (wyC n kn (chO n bo ti on n) f (nI t) (kn (chO n bo ti on n t).toNatClampNeg)) (5 - r) r)) := by
          intro r
          induction r with
          | zero =>
            intro _
            refine R136 _ _ _ _ _ ⟨fun _ => ⟨h5, ?_⟩, fun h => absurd (by decide) h⟩
            simp only [ec, bI_0, Bool.not_eq_false, v_X4_findOn_243, v_X4_findOn_244, nI_1, upd_at, upd_upd]
            refine ⟨hvo, fun q => ⟨h5, h5, ?_⟩, fun q => ⟨h5, ?_⟩⟩
            · rw [q, if_neg (by decide)] at ih; exact ih
            · rw [q, if_pos rfl] at ih; exact ih
          | succ r ihr =>
            intro hr
            have er : (nI r).toNatClampNeg = r := nI_clamp (by omega)
            have hr5 : vp_in (nI r) 5 := vp_in_nI (by omega) (by omega)
            have em : nI r + (-1) = nI r - 1 := (Int32.sub_eq_add_neg _ _).symm
            have ihr2 := ihr (by omega)
            have e5 : 5 - r = (5 - (r + 1)) + 1 := by omega
            have eL : wyL (wyC n kn (chO n bo ti on n) f (nI t) (kn (chO n bo ti on n t).toNatClampNeg)) (5 - r) r = if wyC n kn (chO n bo ti on n) f (nI t) (kn (chO n bo ti on n t).toNatClampNeg) r = true then nI r else wyL (wyC n kn (chO n bo ti on n) f (nI t) (kn (chO n bo ti on n t).toNatClampNeg)) (5 - (r + 1)) (r + 1) := by rw [e5, wyL]
            rw [eL] at ihr2
            rw [nI_pred]
            refine R136 _ _ _ _ _ ⟨fun h => absurd h (nI_pos (by omega)), fun _ => ?_⟩
            simp only [ec, er, em, bI_0, Bool.not_eq_false, v_X4_findOn_197, v_X4_findOn_203, upd_at, upd_upd]
            have ekr := kn_at n kn bo ti on hn f (t := r) (by omega)
            have no : wyC n kn (chO n bo ti on n) f (nI t) (kn (chO n bo ti on n t).toNatClampNeg) r = false → K136 f (nI t) (nI r - 1) (chO n bo ti on n) (upd (heF n kn (chO n bo ti on n) f he t) t (wyL (wyC n kn (chO n bo ti on n) f (nI t) (kn (chO n bo ti on n t).toNatClampNeg)) (5 - (r + 1)) (r + 1))) := fun q => by
              rw [q, if_neg (by decide)] at ihr2; exact ihr2
            have hor : chO n bo ti on n r = -1 ∨ inB (chO n bo ti on n r) 6 = true := by
              by_cases q : chO n bo ti on n r = -1
              · exact Or.inl q
              · exact Or.inr (on_in n bo ti on hn (by omega) q).1
            refine ⟨fun q => ⟨h5, h5, no (by simp [wyC, q])⟩, fun q => ⟨fun q2 => ⟨h5, h5, no (by simp [wyC, q2])⟩, fun q2 => ⟨hr5, hor, fun q3 => ⟨h5, h5, no ?_⟩, fun q3 => ⟨h5, hvo, fun q4 => ⟨h5, h5, no (by simp [wyC, q4])⟩, fun q4 => ⟨h5, ?_⟩⟩⟩⟩⟩
            · rw [wyC, ekr, q3]; simp
            · have ey : wyC n kn (chO n bo ti on n) f (nI t) (kn (chO n bo ti on n t).toNatClampNeg) r = true := by
                rw [wyC, ekr, q3, q4]; simp [q, q2]
              rw [ey, if_pos rfl] at ihr2; exact ihr2
        exact dn 5 (Nat.le_refl _)
  have key := up_ind (fun t => K2 a1 (nI t) (fillN on t (chO n bo ti on n)) he) 5 (R2 _ _ _ _ ?_) (fun t ht ih => R2 _ _ _ _ ?_)
  · have k2 : K2 a1 (nI 0) (fillN on 0 (chO n bo ti on n)) he := key
    rw [fillN_0] at k2
    exact k2
  · refine ⟨fun _ => ⟨hv, ?_⟩, fun h => absurd (nI_le (a := 5) (b := 5) (Nat.le_refl _) (by omega)) h⟩
    rw [hf0, chO_fill]
    exact second
  · have ec : (nI t).toNatClampNeg = t := nI_clamp (by omega)
    have h5 : vp_in (nI t) 5 := vp_in_nI ht (by omega)
    refine ⟨fun h => absurd h (nI_ge (b := 5) ht (by omega)), fun _ => ⟨h5, ?_⟩⟩
    rw [ec]
    have k2 := up_ind (fun k => K16 a1 (nI t) (nI k) (upd (fillN on t (chO n bo ti on n)) t (chO n bo ti on k t)) he) n (R16 _ _ _ _ _ ?_) (fun k hk ih2 => R16 _ _ _ _ _ ?_)
    · have k3 : K16 a1 (nI t) (nI 0) (upd (fillN on t (chO n bo ti on n)) t (chO n bo ti on 0 t)) he := k2
      have e0 : chO n bo ti on 0 t = -1 := by simp [chO, fillA, ht]
      rw [e0] at k3
      exact k3
    · refine ⟨fun _ => ?_, fun h => absurd (nI_le (Nat.le_refl _) (by omega)) h⟩
      rw [nI_1, fillN_succ]
      exact ih
    · have ek : (nI k).toNatClampNeg = k := nI_clamp (by omega)
      have h6 : vp_in (nI k) 6 := vp_in_nI (by omega) (by omega)
      refine ⟨fun h => absurd h (nI_ge hk (by omega)), fun _ => ⟨h6, ?_⟩⟩
      rw [chO_step n bo ti on hn hk ht] at ih2
      simp only [ec, ek, v_X4_findOn_69, v_X4_findOn_73, v_X4_findOn_79, nI_1, upd_at, upd_upd]
      refine ⟨fun g => ⟨h5, fun g2 => ⟨h5, ?_⟩, fun g2 => ⟨h6, h5, ?_, fun g3 => ⟨h5, h5, ?_⟩, fun g3 => ⟨h5, ?_⟩⟩⟩, fun g => ⟨h5, h5, ?_⟩⟩
      · rw [if_pos g, if_pos (Or.inl g2)] at ih2; exact ih2
      · rcases chO_val n bo ti on hn k (by omega) t ht with q | ⟨j, h1, h2, h3⟩
        · exact absurd q g2
        · rw [h2]; exact vp_in_nI (by omega) (by omega)
      · rw [if_pos g, if_neg (fun q => q.elim g2 (fun q2 => q2 g3))] at ih2; exact ih2
      · rw [if_pos g, if_pos (Or.inr g3)] at ih2; exact ih2
      · rw [if_neg g] at ih2; exact ih2
set_option maxHeartbeats 2000000 in
theorem h_X4_goTo (n : Nat) (se : Int32) (li : Int32) (wm : Int32) (ch : Int32) (ne : Int32) (np : Int32) (al : Int32) (kn : Nat → Int32) (sp : Nat → Int32) (py : Nat → Int32) (il : Nat → Int32) (fl : Nat → Int32) (wa : Nat → Int32) (bo : Nat → Int32) (so : Nat → Int32) (sd : Nat → Int32) (ro : Nat → Int32) (cp : Nat → Int32) (nr : Nat → Int32) (wo : Int32) (ti : Nat → Int32) (on : Nat → Int32) (he : Nat → Int32) (la : Nat → Int32) (a1 : Int32) (hn : n ≤ 6) (h0 : inB a1 16 = true) (h1 : ∀ h, h < 16 → inR (sd h) 0 9 = true) (K7 : Int32 → Int32 → Int32 → (Nat → Int32) → (Nat → Int32) → (Nat → Int32) → (Nat → Int32) → Prop) (K28 : Int32 → Int32 → Int32 → (Nat → Int32) → (Nat → Int32) → (Nat → Int32) → (Nat → Int32) → Prop) (K48 : Int32 → Int32 → Int32 → (Nat → Int32) → (Nat → Int32) → (Nat → Int32) → (Nat → Int32) → Prop) (K60 : Int32 → Int32 → Int32 → Int32 → (Nat → Int32) → (Nat → Int32) → (Nat → Int32) → (Nat → Int32) → Prop) (K74 : Int32 → Int32 → Int32 → Int32 → Int32 → Int32 → (Nat → Int32) → (Nat → Int32) → (Nat → Int32) → (Nat → Int32) → Prop) (K206 : Int32 → Int32 → Int32 → Int32 → (Nat → Int32) → (Nat → Int32) → (Nat → Int32) → (Nat → Int32) → Prop) (R7 : ∀ x1 x2 wo_ ti_ on_ he_ la_, v_X4_goTo_7 n se li wm ch ne np al kn sp py il fl wa bo so sd ro cp nr (fun u => u = gtF n kn bo so sd li (ti, on, he) la (a1.toNatClampNeg + 1)) K7 K28 K48 K60 K74 K206 x1 x2 wo_ ti_ on_ he_ la_ → K7 x1 x2 wo_ ti_ on_ he_ la_) (R28 : ∀ x1 x2 wo_ ti_ on_ he_ la_, v_X4_goTo_28 n se li wm ch ne np al kn sp py il fl wa bo so sd ro cp nr (fun u => u = gtF n kn bo so sd li (ti, on, he) la (a1.toNatClampNeg + 1)) K7 K28 K48 K60 K74 K206 x1 x2 wo_ ti_ on_ he_ la_ → K28 x1 x2 wo_ ti_ on_ he_ la_) (R48 : ∀ x1 x2 wo_ ti_ on_ he_ la_, v_X4_goTo_48 n se li wm ch ne np al kn sp py il fl wa bo so sd ro cp nr (fun u => u = gtF n kn bo so sd li (ti, on, he) la (a1.toNatClampNeg + 1)) K7 K28 K48 K60 K74 K206 x1 x2 wo_ ti_ on_ he_ la_ → K48 x1 x2 wo_ ti_ on_ he_ la_) (R60 : ∀ x1 x2 x3 wo_ ti_ on_ he_ la_, v_X4_goTo_60 n se li wm ch ne np al kn sp py il fl wa bo so sd ro cp nr (fun u => u = gtF n kn bo so sd li (ti, on, he) la (a1.toNatClampNeg + 1)) K7 K28 K48 K60 K74 K206 x1 x2 x3 wo_ ti_ on_ he_ la_ → K60 x1 x2 x3 wo_ ti_ on_ he_ la_) (R74 : ∀ x1 x2 x3 x4 x5 wo_ ti_ on_ he_ la_, v_X4_goTo_74 n se li wm ch ne np al kn sp py il fl wa bo so sd ro cp nr (fun u => u = gtF n kn bo so sd li (ti, on, he) la (a1.toNatClampNeg + 1)) K7 K28 K48 K60 K74 K206 x1 x2 x3 x4 x5 wo_ ti_ on_ he_ la_ → K74 x1 x2 x3 x4 x5 wo_ ti_ on_ he_ la_) (R206 : ∀ x1 x2 x3 wo_ ti_ on_ he_ la_, v_X4_goTo_206 n se li wm ch ne np al kn sp py il fl wa bo so sd ro cp nr (fun u => u = gtF n kn bo so sd li (ti, on, he) la (a1.toNatClampNeg + 1)) K7 K28 K48 K60 K74 K206 x1 x2 x3 wo_ ti_ on_ he_ la_ → K206 x1 x2 x3 wo_ ti_ on_ he_ la_) : v_X4_goTo_0 n se li wm ch ne np al kn sp py il fl wa bo so sd ro cp nr (fun u => u = gtF n kn bo so sd li (ti, on, he) la (a1.toNatClampNeg + 1)) K7 K28 K48 K60 K74 K206 a1 wo ti on he la := by
  unfold v_X4_goTo_0
  obtain ⟨hq, hhq, rfl⟩ := (inB_iff (n := 16) (by omega)).mp h0
  have eh : (nI hq).toNatClampNeg = hq := nI_clamp (by omega)
  rw [eh] at R7 R28 R48 R60 R74 R206
  generalize hpost : gtF n kn bo so sd li (ti, on, he) la (hq + 1) = T at *
  have main := up_ind (fun h => K48 (nI hq) (nI h) (woO n kn bo so sd (ti, on, he) li h) (plT n kn bo so sd (ti, on, he) h).1 (plT n kn bo so sd (ti, on, he) h).2.1 (plT n kn bo so sd (ti, on, he) h).2.2 (fillN la 5 (fun t => laO n kn bo so sd (ti, on, he) (nI t) h))) (hq + 1) (R48 _ _ _ _ _ _ _ ?_) (fun h hh ih => R48 _ _ _ _ _ _ _ ?_)
  · have e0 : fillN la 5 (fun t => laO n kn bo so sd (ti, on, he) (nI t) 0) = fillA la 5 0 := rfl
    have m0 : K48 (nI hq) (nI 0) 0 (fillA ti 6 0) on he (fillN la 5 (fun t => laO n kn bo so sd (ti, on, he) (nI t) 0)) := main
    rw [e0] at m0
    have k28 := up_ind (fun t => K28 (nI hq) (nI t) 0 (fillA ti 6 0) on he (fillA la t 0)) 5 (R28 _ _ _ _ _ _ _ ?_) (fun t ht ih => R28 _ _ _ _ _ _ _ ?_)
    · have k28b : K28 (nI hq) (nI 0) 0 (fillA ti 6 0) on he (fillA la 0 0) := k28
      have f0 : fillA la 0 0 = la := by funext j; simp [fillA]
      rw [f0] at k28b
      have k7 := up_ind (fun k => K7 (nI hq) (nI k) 0 (fillA ti k 0) on he la) 6 (R7 _ _ _ _ _ _ _ ?_) (fun k hk ih => R7 _ _ _ _ _ _ _ ?_)
      · have k7b : K7 (nI hq) (nI 0) 0 (fillA ti 0 0) on he la := k7
        have f1 : fillA ti 0 0 = ti := by funext j; simp [fillA]
        rw [f1] at k7b
        exact k7b
      · exact ⟨fun _ => k28b, fun h => absurd (nI_le (a := 6) (b := 6) (Nat.le_refl _) (by omega)) h⟩
      · refine ⟨fun h => absurd h (nI_ge (b := 6) hk (by omega)), fun _ => ⟨vp_in_nI hk (by omega), ?_⟩⟩
        rw [nI_1, nI_clamp (by omega), fillA_succ]
        exact ih
    · exact ⟨fun _ => m0, fun h => absurd (nI_le (a := 5) (b := 5) (Nat.le_refl _) (by omega)) h⟩
    · refine ⟨fun h => absurd h (nI_ge (b := 5) ht (by omega)), fun _ => ⟨vp_in_nI ht (by omega), ?_⟩⟩
      rw [nI_1, nI_clamp (by omega), fillA_succ]
      exact ih
  · exact ⟨fun _ => hpost, fun h => absurd (nI_lt (Nat.lt_succ_self hq) (by omega)) h⟩
  · have hb : ∀ k, k < 6 → ∃ a, a ≤ 9 * h ∧ (plT n kn bo so sd (ti, on, he) h).1 k = nI a := plT_bd n kn bo so sd (ti, on, he) hn h1 h (by omega)
    have ec : (nI h).toNatClampNeg = h := nI_clamp (by omega)
    have i16 : inB (nI h) 16 = true := inB_nI (n := 16) (by omega) (by omega)
    have v16 : vp_in (nI h) 16 := vp_in_nI (by omega) (by omega)
    have ep : plT n kn bo so sd (ti, on, he) (h + 1) = plG n kn bo (so h) (sd h) (plT n kn bo so sd (ti, on, he) h) := by rw [plT, plH, if_pos i16, ec]
    have ew : woO n kn bo so sd (ti, on, he) li (h + 1) = woO n kn bo so sd (ti, on, he) li h ||| taF (plT n kn bo so sd (ti, on, he) (h + 1)).1 li n := rfl
    have el : ∀ t, laO n kn bo so sd (ti, on, he) (nI t) (h + 1) = laO n kn bo so sd (ti, on, he) (nI t) h + laF sd (plT n kn bo so sd (ti, on, he) (h + 1)).2.2 (nI h) (nI t) := fun t => rfl
    simp only [el] at ih
    rw [ew, ep] at ih
    generalize woO n kn bo so sd (ti, on, he) li h = w0 at ih ⊢
    generalize hA : (fun t => laO n kn bo so sd (ti, on, he) (nI t) h) = A at ih ⊢
    have ihA : ∀ t, laO n kn bo so sd (ti, on, he) (nI t) h = A t := fun t => by rw [← hA]
    simp only [ihA] at ih
    generalize plT n kn bo so sd (ti, on, he) h = x at ih hb ep ⊢
    obtain ⟨T0, O0, E0⟩ := x
    simp only [plG] at ih
    dsimp only at ih hb ⊢
    refine ⟨fun g => absurd g (nI_nlt (by omega) (by omega)), fun _ => ⟨i16, ?_⟩⟩
    rw [ec]
    generalize hO1 : chO n bo T0 O0 n = O1 at ih ⊢
    generalize hE1 : heF n kn O1 (so h) E0 5 = E1 at ih ⊢
    rw [tiF_eq] at ih
    -- the persons' loop
    have k60 := up_ind (fun k => K60 (nI hq) (nI h) (nI k) (w0 ||| taF (fillN T0 n (tiV n bo O1 E1 (sd h) T0)) li k) (fillN T0 k (tiV n bo O1 E1 (sd h) T0)) O1 E1 (fillN la 5 A)) n (R60 _ _ _ _ _ _ _ _ ?_) (fun k hk ih60 => R60 _ _ _ _ _ _ _ _ ?_)
    · have k0 : K60 (nI hq) (nI h) (nI 0) (w0 ||| 0) (fillN T0 0 (tiV n bo O1 E1 (sd h) T0)) O1 E1 (fillN la 5 A) := k60
      rw [fillN_0, Int32.or_zero] at k0
      exact k0
    · refine ⟨fun _ => ?_, fun g => absurd (nI_le (Nat.le_refl _) (by omega)) g⟩
      have k206 := up_ind (fun t => K206 (nI hq) (nI h) (nI t) (w0 ||| taF (fillN T0 n (tiV n bo O1 E1 (sd h) T0)) li n) (fillN T0 n (tiV n bo O1 E1 (sd h) T0)) O1 E1 (fillN (fillN la 5 A) t (fun t => A t + laF sd E1 (nI h) (nI t)))) 5 (R206 _ _ _ _ _ _ _ _ ?_) (fun t ht ih6 => R206 _ _ _ _ _ _ _ _ ?_)
      · have k0 : K206 (nI hq) (nI h) (nI 0) (w0 ||| taF (fillN T0 n (tiV n bo O1 E1 (sd h) T0)) li n) (fillN T0 n (tiV n bo O1 E1 (sd h) T0)) O1 E1 (fillN (fillN la 5 A) 0 (fun t => A t + laF sd E1 (nI h) (nI t))) := k206
        rw [fillN_0] at k0
        exact k0
      · refine ⟨fun _ => ?_, fun g => absurd (nI_le (a := 5) (b := 5) (Nat.le_refl _) (by omega)) g⟩
        have ef : fillN (fillN la 5 A) 5 (fun t => A t + laF sd E1 (nI h) (nI t)) = fillN la 5 (fun t => A t + laF sd E1 (nI h) (nI t)) := by
          funext j
          by_cases hj : j < 5 <;> simp [fillN, hj]
        rw [nI_1, ef]
        exact ih
      · have et : (nI t).toNatClampNeg = t := nI_clamp (by omega)
        have h5 : vp_in (nI t) 5 := vp_in_nI ht (by omega)
        have i5 : inB (nI t) 5 = true := inB_nI (n := 5) ht (by omega)
        have e0 : fillN (fillN la 5 A) t (fun t => A t + laF sd E1 (nI h) (nI t)) t = A t := by simp [fillN, ht]
        have es : ∀ v, A t + v = A t + laF sd E1 (nI h) (nI t) → upd (fillN (fillN la 5 A) t (fun t => A t + laF sd E1 (nI h) (nI t))) t (A t + v) = fillN (fillN la 5 A) (t + 1) (fun t => A t + laF sd E1 (nI h) (nI t)) := fun v hv => by
          rw [hv]; exact fillN_succ (fillN la 5 A) (fun t => A t + laF sd E1 (nI h) (nI t)) t
        have eLa : laF sd E1 (nI h) (nI t) = if E1 t = -1 then 0 else if E1 t = nI t then (if sd h ≤ 5 then 1 else 2) else 2 * (if sd h ≤ 5 then 1 else 2) + 1 := by
          rw [laF, i16, i5, et, ec, Bool.and_self, if_pos rfl]
        refine ⟨fun g => absurd g (nI_ge (b := 5) ht (by omega)), fun _ => ⟨v16, ?_⟩⟩
        simp only [ec, et, v_X4_goTo_226, v_X4_goTo_270, nI_1, e0]
        refine ⟨fun g => ⟨h5, h5, fun g2 => ⟨h5, ?_⟩, fun g2 => ⟨h5, fun g3 => ⟨h5, ?_⟩, fun g3 => ⟨h5, ?_⟩⟩⟩, fun g => ⟨h5, h5, fun g2 => ⟨h5, ?_⟩, fun g2 => ⟨h5, fun g3 => ⟨h5, ?_⟩, fun g3 => ⟨h5, ?_⟩⟩⟩⟩
        · rw [es 0 (by rw [eLa, if_pos g2])]; exact ih6
        · rw [es 1 (by rw [eLa, if_neg g2, if_pos g3, if_pos g])]; exact ih6
        · rw [es _ (by rw [eLa, if_neg g2, if_neg g3, if_pos g])]; exact ih6
        · rw [es 0 (by rw [eLa, if_pos g2])]; exact ih6
        · rw [es 2 (by rw [eLa, if_neg g2, if_pos g3, if_neg g])]; exact ih6
        · rw [es _ (by rw [eLa, if_neg g2, if_neg g3, if_neg g])]; exact ih6
    · refine ⟨fun g => absurd g (nI_ge hk (by omega)), fun _ => ?_⟩
      have ek : (nI k).toNatClampNeg = k := nI_clamp (by omega)
      have h6 : vp_in (nI k) 6 := vp_in_nI (by omega) (by omega)
      obtain ⟨a, ha, eTa⟩ := hb k (by omega)
      have eTk : fillN T0 k (tiV n bo O1 E1 (sd h) T0) k = T0 k := by simp [fillN]
      have eTn : fillN T0 n (tiV n bo O1 E1 (sd h) T0) k = tiV n bo O1 E1 (sd h) T0 k := by simp [fillN, hk]
      rw [taF, eTn] at ih60
      have last : ∀ v, v = tiV n bo O1 E1 (sd h) T0 k → v_X4_goTo_168 n se li wm ch ne np al kn sp py il fl wa bo so sd ro cp nr (fun u => u = T) K7 K28 K48 K60 K74 K206 (nI hq) (nI h) (nI k) v (nI k) (w0 ||| taF (fillN T0 n (tiV n bo O1 E1 (sd h) T0)) li k) (fillN T0 k (tiV n bo O1 E1 (sd h) T0)) O1 E1 (fillN la 5 A) := by
        intro v hv
        subst hv
        unfold v_X4_goTo_168
        simp only [ek, upd_at, v_X4_goTo_194, nI_1, fillN_succ]
        refine ⟨h6, h6, fun g => ?_, fun g => ?_⟩
        · rw [if_pos g] at ih60
          rw [Int32.or_zero]; exact ih60
        · rw [if_neg g] at ih60
          rw [Int32.or_assoc]; exact ih60
      have k74 := up_ind (fun t => K74 (nI hq) (nI h) (nI k) (bI (wkF O1 E1 k t)) (nI t) (w0 ||| taF (fillN T0 n (tiV n bo O1 E1 (sd h) T0)) li k) (fillN T0 k (tiV n bo O1 E1 (sd h) T0)) O1 E1 (fillN la 5 A)) 5 (R74 _ _ _ _ _ _ _ _ _ _ ?_) (fun t ht ih74 => R74 _ _ _ _ _ _ _ _ _ _ ?_)
      · exact k74
      · refine ⟨fun _ => ?_, fun g => absurd (nI_le (a := 5) (b := 5) (Nat.le_refl _) (by omega)) g⟩
        have etu : wkF O1 E1 k 5 = tuF n bo O1 E1 (nI k) := by rw [← hO1]; exact wk_tu n bo T0 O0 E1 hn hk
        rw [etu]
        simp only [bI_0, Bool.not_eq_false, ek, ec, eTk]
        refine ⟨fun g => ⟨h6, fun g2 => last _ ?_, fun g2 => ⟨h6, last _ ?_⟩⟩, fun g => ⟨h6, v16, last _ ?_⟩⟩
        · rw [eTa] at g2
          rw [tiV, g, if_neg (by decide), eTa, ti_low (by omega), if_pos g2]
        · rw [eTa] at g2
          rw [tiV, g, if_neg (by decide), eTa, ti_low (by omega), if_neg g2]
        · rw [tiV, g, if_pos rfl]
      · have et : (nI t).toNatClampNeg = t := nI_clamp (by omega)
        have h5 : vp_in (nI t) 5 := vp_in_nI ht (by omega)
        refine ⟨fun g => absurd g (nI_ge (b := 5) ht (by omega)), fun _ => ?_⟩
        rw [wkF] at ih74
        simp only [bI_0, Bool.not_eq_false, et, v_X4_goTo_107, v_X4_goTo_111, v_X4_goTo_112, nI_1]
        refine ⟨fun g => ⟨h5, fun g2 => ⟨h5, fun g3 => ?_, fun g3 => ?_⟩, fun g2 => ?_⟩, fun g => ?_⟩
        · have e : (wkF O1 E1 k t || (decide (O1 t = nI k) && !decide (E1 t = -1))) = false := by simp [g, g3]
          rw [e] at ih74; exact ih74
        · have e : (wkF O1 E1 k t || (decide (O1 t = nI k) && !decide (E1 t = -1))) = true := by simp [g2, g3]
          rw [e] at ih74; exact ih74
        · have e : (wkF O1 E1 k t || (decide (O1 t = nI k) && !decide (E1 t = -1))) = false := by simp [g, g2]
          rw [e] at ih74; exact ih74
        · have e : (wkF O1 E1 k t || (decide (O1 t = nI k) && !decide (E1 t = -1))) = true := by simp [g]
          rw [e] at ih74; exact ih74
theorem h_X4_on (n : Nat) (se : Int32) (li : Int32) (wm : Int32) (ch : Int32) (ne : Int32) (np : Int32) (al : Int32) (kn : Nat → Int32) (sp : Nat → Int32) (py : Nat → Int32) (il : Nat → Int32) (fl : Nat → Int32) (wa : Nat → Int32) (bo : Nat → Int32) (so : Nat → Int32) (sd : Nat → Int32) (ro : Nat → Int32) (cp : Nat → Int32) (nr : Nat → Int32) (wo : Int32) (ti : Nat → Int32) (on : Nat → Int32) (he : Nat → Int32) (la : Nat → Int32) (a1 : Int32) (a2 : Int32) (hn : n ≤ 6) (h0 : ∀ h, h < 16 → inR (sd h) 0 9 = true) : v_X4_on_0 n se li wm ch ne np al kn sp py il fl wa bo so sd ro cp nr (fun r u => r = (if (inR a1 0 4 && inR a2 0 15) = true then (gtF n kn bo so sd li (ti, on, he) la (a2.toNatClampNeg + 1)).2.2.1 a1.toNatClampNeg else (-2)) ∧ u = (if (inR a1 0 4 && inR a2 0 15) = true then (gtF n kn bo so sd li (ti, on, he) la (a2.toNatClampNeg + 1)) else (wo, ti, on, he, la)))  a1 a2 wo ti on he la := by
  unfold v_X4_on_0
  simp only [bI_0, Bool.not_eq_false]
  refine ⟨fun h => ?_, fun h => ⟨fun h2 => ?_, fun h2 => ⟨by rw [← inR_16]; exact h2, h0, fun u hu => ⟨inB_in (n := 5) (by rw [← inR_b (m := 4) (by omega)]; exact h) (Nat.le_refl _) (by omega), ?_⟩⟩⟩⟩
  · simp [h]
  · simp [h2]
  · have hc : (inR a1 0 4 && inR a2 0 15) = true := by simp [h, h2]
    rw [if_pos hc, if_pos hc, hu]
    exact ⟨rfl, rfl⟩
theorem h_X4_heard (n : Nat) (se : Int32) (li : Int32) (wm : Int32) (ch : Int32) (ne : Int32) (np : Int32) (al : Int32) (kn : Nat → Int32) (sp : Nat → Int32) (py : Nat → Int32) (il : Nat → Int32) (fl : Nat → Int32) (wa : Nat → Int32) (bo : Nat → Int32) (so : Nat → Int32) (sd : Nat → Int32) (ro : Nat → Int32) (cp : Nat → Int32) (nr : Nat → Int32) (wo : Int32) (ti : Nat → Int32) (on : Nat → Int32) (he : Nat → Int32) (la : Nat → Int32) (a1 : Int32) (a2 : Int32) (hn : n ≤ 6) (h0 : ∀ h, h < 16 → inR (sd h) 0 9 = true) : v_X4_heard_0 n se li wm ch ne np al kn sp py il fl wa bo so sd ro cp nr (fun r u => r = (if (inR a1 0 4 && inR a2 0 15) = true then (gtF n kn bo so sd li (ti, on, he) la (a2.toNatClampNeg + 1)).2.2.2.1 a1.toNatClampNeg else (-2)) ∧ u = (if (inR a1 0 4 && inR a2 0 15) = true then (gtF n kn bo so sd li (ti, on, he) la (a2.toNatClampNeg + 1)) else (wo, ti, on, he, la)))  a1 a2 wo ti on he la := by
  unfold v_X4_heard_0
  simp only [bI_0, Bool.not_eq_false]
  refine ⟨fun h => ?_, fun h => ⟨fun h2 => ?_, fun h2 => ⟨by rw [← inR_16]; exact h2, h0, fun u hu => ⟨inB_in (n := 5) (by rw [← inR_b (m := 4) (by omega)]; exact h) (Nat.le_refl _) (by omega), ?_⟩⟩⟩⟩
  · simp [h]
  · simp [h2]
  · have hc : (inR a1 0 4 && inR a2 0 15) = true := by simp [h, h2]
    rw [if_pos hc, if_pos hc, hu]
    exact ⟨rfl, rfl⟩
theorem h_X4_tired (n : Nat) (se : Int32) (li : Int32) (wm : Int32) (ch : Int32) (ne : Int32) (np : Int32) (al : Int32) (kn : Nat → Int32) (sp : Nat → Int32) (py : Nat → Int32) (il : Nat → Int32) (fl : Nat → Int32) (wa : Nat → Int32) (bo : Nat → Int32) (so : Nat → Int32) (sd : Nat → Int32) (ro : Nat → Int32) (cp : Nat → Int32) (nr : Nat → Int32) (wo : Int32) (ti : Nat → Int32) (on : Nat → Int32) (he : Nat → Int32) (la : Nat → Int32) (a1 : Int32) (a2 : Int32) (hn : n ≤ 6) (h0 : ∀ h, h < 16 → inR (sd h) 0 9 = true) : v_X4_tired_0 n se li wm ch ne np al kn sp py il fl wa bo so sd ro cp nr (fun r u => r = (if (inR a1 0 (nI n - 1) && inR a2 0 15) = true then (gtF n kn bo so sd li (ti, on, he) la (a2.toNatClampNeg + 1)).2.1 a1.toNatClampNeg else (-2)) ∧ u = (if (inR a1 0 (nI n - 1) && inR a2 0 15) = true then (gtF n kn bo so sd li (ti, on, he) la (a2.toNatClampNeg + 1)) else (wo, ti, on, he, la)))  a1 a2 wo ti on he la := by
  unfold v_X4_tired_0
  simp only [bI_0, Bool.not_eq_false]
  refine ⟨fun h => ?_, fun h => ⟨fun h2 => ?_, fun h2 => ⟨by rw [← inR_16]; exact h2, h0, fun u hu => ⟨inB_in (n := n) (by rw [← inR_p hn]; exact h) hn (by omega), ?_⟩⟩⟩⟩
  · simp [h]
  · simp [h2]
  · have hc : (inR a1 0 (nI n - 1) && inR a2 0 15) = true := by simp [h, h2]
    rw [if_pos hc, if_pos hc, hu]
    exact ⟨rfl, rfl⟩
theorem h_X4_late (n : Nat) (se : Int32) (li : Int32) (wm : Int32) (ch : Int32) (ne : Int32) (np : Int32) (al : Int32) (kn : Nat → Int32) (sp : Nat → Int32) (py : Nat → Int32) (il : Nat → Int32) (fl : Nat → Int32) (wa : Nat → Int32) (bo : Nat → Int32) (so : Nat → Int32) (sd : Nat → Int32) (ro : Nat → Int32) (cp : Nat → Int32) (nr : Nat → Int32) (wo : Int32) (ti : Nat → Int32) (on : Nat → Int32) (he : Nat → Int32) (la : Nat → Int32) (a1 : Int32) (hn : n ≤ 6) (h0 : ∀ h, h < 16 → inR (sd h) 0 9 = true) : v_X4_late_0 n se li wm ch ne np al kn sp py il fl wa bo so sd ro cp nr (fun r u => r = (if inR a1 0 4 = true then (gtF n kn bo so sd li (ti, on, he) la 16).2.2.2.2 a1.toNatClampNeg else (-2)) ∧ u = (if inR a1 0 4 = true then (gtF n kn bo so sd li (ti, on, he) la 16) else (wo, ti, on, he, la)))  a1 wo ti on he la := by
  unfold v_X4_late_0
  simp only [bI_0, Bool.not_eq_false]
  refine ⟨fun h => ?_, fun h => ⟨by decide, h0, fun u hu => ⟨inB_in (n := 5) (by rw [← inR_b (m := 4) (by omega)]; exact h) (Nat.le_refl _) (by omega), ?_⟩⟩⟩
  · simp [h]
  · rw [if_pos h, if_pos h, hu]
    exact ⟨rfl, rfl⟩
theorem h_X4_worn (n : Nat) (se : Int32) (li : Int32) (wm : Int32) (ch : Int32) (ne : Int32) (np : Int32) (al : Int32) (kn : Nat → Int32) (sp : Nat → Int32) (py : Nat → Int32) (il : Nat → Int32) (fl : Nat → Int32) (wa : Nat → Int32) (bo : Nat → Int32) (so : Nat → Int32) (sd : Nat → Int32) (ro : Nat → Int32) (cp : Nat → Int32) (nr : Nat → Int32) (wo : Int32) (ti : Nat → Int32) (on : Nat → Int32) (he : Nat → Int32) (la : Nat → Int32) (hn : n ≤ 6) (h0 : ∀ h, h < 16 → inR (sd h) 0 9 = true) : v_X4_worn_0 n se li wm ch ne np al kn sp py il fl wa bo so sd ro cp nr (fun r u => r = (gtF n kn bo so sd li (ti, on, he) la 16).1 ∧ u = (gtF n kn bo so sd li (ti, on, he) la 16))   wo ti on he la := by
  unfold v_X4_worn_0
  refine ⟨by decide, h0, fun u hu => ?_⟩
  rw [hu]
  exact ⟨rfl, rfl⟩
theorem h_X4_count (n : Nat) (se : Int32) (li : Int32) (wm : Int32) (ch : Int32) (ne : Int32) (np : Int32) (al : Int32) (wo : Int32) (kn : Nat → Int32) (sp : Nat → Int32) (py : Nat → Int32) (il : Nat → Int32) (fl : Nat → Int32) (wa : Nat → Int32) (bo : Nat → Int32) (so : Nat → Int32) (sd : Nat → Int32) (ro : Nat → Int32) (cp : Nat → Int32) (nr : Nat → Int32) (ti : Nat → Int32) (on : Nat → Int32) (he : Nat → Int32) (la : Nat → Int32) (a1 : Int32) (hn : n ≤ 6) (K43 : Int32 → Int32 → Prop) (K83 : Int32 → Int32 → Prop) (R43 : ∀ x2 x3, v_X4_count_43 n se li wm ch ne np al wo kn sp py il fl wa bo so sd ro cp nr ti on he la (fun r _ => r = rcO n il bo so se a1) K43 K83 x2 x3 → K43 x2 x3) (R83 : ∀ x2 x3, v_X4_count_83 n se li wm ch ne np al wo kn sp py il fl wa bo so sd ro cp nr ti on he la (fun r _ => r = rcO n il bo so se a1) K43 K83 x2 x3 → K83 x2 x3) : v_X4_count_0 n se li wm ch ne np al wo kn sp py il fl wa bo so sd ro cp nr ti on he la (fun r _ => r = rcO n il bo so se a1) K43 K83 a1 := by
  unfold v_X4_count_0
  refine ⟨fun h => ?_, fun h => ?_, fun h => ?_, fun h => ?_, fun h => ?_, fun h => ?_⟩
  · subst h; rfl
  · subst h
    have key := up_ind (fun k => K43 (sI (fun k => if il k = 0 then 0 else 1) k) (nI k)) n (R43 _ _ ?_) (fun k hk ih => R43 _ _ ?_)
    · exact key
    · exact ⟨fun _ => rfl, fun h => absurd (nI_le (Nat.le_refl _) (by omega)) h⟩
    · refine ⟨fun h => absurd h (nI_ge hk (by omega)), fun _ => ⟨vp_in_nI (by omega) (by omega), ?_⟩⟩
      have ek : (nI k).toNatClampNeg = k := nI_clamp (by omega)
      simp only [ek, v_X4_count_66, nI_1]
      refine ⟨fun g => ?_, fun g => ?_⟩
      · simpa only [sI, if_pos g] using ih
      · simpa only [sI, if_neg g] using ih
  · subst h; rfl
  · subst h
    have key := up_ind (fun k => K83 (sI (fun k => bI (!decide (so k = -1))) k) (nI k)) 16 (R83 _ _ ?_) (fun k hk ih => R83 _ _ ?_)
    · exact key
    · exact ⟨fun _ => rfl, fun h => absurd (nI_le (a := 16) (b := 16) (Nat.le_refl _) (by omega)) h⟩
    · refine ⟨fun h => absurd h (nI_ge (b := 16) hk (by omega)), fun _ => ⟨vp_in_nI (by omega) (by omega), ?_⟩⟩
      have ek : (nI k).toNatClampNeg = k := nI_clamp (by omega)
      simp only [ek, v_X4_count_105, nI_1]
      refine ⟨fun g => ?_, fun g => ?_⟩
      · simpa [sI, g, bI] using ih
      · simpa [sI, g, bI] using ih
  · subst h; rfl
  · obtain ⟨g0, g1, g2, g3, g4⟩ := h
    rw [rcO, if_neg g0, if_neg g1, if_neg g2, if_neg g3, if_neg g4]
end
section
/-! ===== Int32 by its bits: bt x i (a family of the kit's, pasted) ===== -/
def bt (x : Int32) (i : Nat) : Bool := x.toBitVec.getLsbD i
theorem b_ext {x y : Int32} (h : ∀ i, i < 32 → bt x i = bt y i) : x = y := Int32.toBitVec_inj.mp (BitVec.eq_of_getLsbD_eq (fun i hi => h i hi))
theorem b_or (x y : Int32) (i : Nat) : bt (x ||| y) i = (bt x i || bt y i) := by unfold bt; rw [Int32.toBitVec_or, BitVec.getLsbD_or]
theorem b_and (x y : Int32) (i : Nat) : bt (x &&& y) i = (bt x i && bt y i) := by unfold bt; rw [Int32.toBitVec_and, BitVec.getLsbD_and]
theorem b_xor (x y : Int32) (i : Nat) : bt (x ^^^ y) i = (bt x i ^^ bt y i) := by unfold bt; rw [Int32.toBitVec_xor, BitVec.getLsbD_xor]
theorem b_m1 : ∀ i, i < 32 → bt (-1) i = true := by decide +kernel
theorem b_0 (i : Nat) : bt 0 i = false := BitVec.getLsbD_zero
theorem s_l : ∀ n, n < 32 → ((nI n &&& 31).toBitVec.smod 32).toNat = n := by decide +kernel
theorem b_shl (n : Nat) (hn : n < 32) (x : Int32) {i : Nat} (hi : i < 32) : bt (x <<< (nI n &&& 31)) i = (decide (n ≤ i) && bt x (i - n)) := by
  unfold bt
  rw [Int32.toBitVec_shiftLeft]
  show (x.toBitVec <<< ((nI n &&& 31).toBitVec.smod 32).toNat).getLsbD i = _
  rw [s_l n hn, BitVec.getLsbD_shiftLeft]
  rcases Nat.lt_or_ge i n with h | h
  · simp [h, Nat.not_le.mpr h]
  · simp [hi, h, Nat.not_lt.mpr h]
theorem b_sshr (n : Nat) (hn : n < 32) (x : Int32) {i : Nat} (hi : i < 32) : bt (x >>> (nI n &&& 31)) i = if n + i < 32 then bt x (n + i) else bt x 31 := by
  unfold bt
  rw [Int32.toBitVec_shiftRight]
  show (x.toBitVec.sshiftRight ((nI n &&& 31).toBitVec.smod 32).toNat).getLsbD i = _
  rw [s_l n hn, BitVec.getLsbD_sshiftRight, BitVec.msb_eq_getLsbD_last]
  simp [hi]
theorem b_1 : ∀ i, i < 32 → bt 1 i = decide (i = 0) := by decide +kernel
theorem and1 (y : Int32) : (y &&& 1 = 1) ↔ bt y 0 = true := by
  constructor
  · intro h
    have h2 := congrArg (fun z => bt z 0) h
    simp only [b_and] at h2
    have h1 : bt 1 0 = true := by decide
    rw [h1, Bool.and_true] at h2
    exact h2
  · intro h
    apply b_ext
    intro i hi
    rw [b_and, b_1 i hi]
    by_cases e : i = 0
    · subst e; simp [h]
    · simp [e]
theorem hs_bt (x : Int32) {k : Nat} (hk : k < 32) : hs x (nI k) = bt x k := by
  have e := b_sshr k hk x (i := 0) (by omega)
  rw [if_pos (by omega), Nat.add_zero] at e
  unfold hs
  rw [← e]
  cases h : bt (x >>> (nI k &&& 31)) 0
  · exact decide_eq_false (fun q => by rw [and1, h] at q; exact absurd q (by decide))
  · exact decide_eq_true ((and1 _).mpr h)
theorem hs_and (x y : Int32) {k : Nat} (hk : k < 32) : hs (x &&& y) (nI k) = (hs x (nI k) && hs y (nI k)) := by rw [hs_bt _ hk, hs_bt _ hk, hs_bt _ hk, b_and]
theorem hs_or (x y : Int32) {k : Nat} (hk : k < 32) : hs (x ||| y) (nI k) = (hs x (nI k) || hs y (nI k)) := by rw [hs_bt _ hk, hs_bt _ hk, hs_bt _ hk, b_or]
theorem bt_one {j i : Nat} (hj : j < 32) (hi : i < 32) : bt ((1 : Int32) <<< (nI j &&& 31)) i = decide (i = j) := by
  rw [b_shl j hj _ hi, b_1 _ (by omega)]
  by_cases h : i = j
  · subst h; simp
  · by_cases h2 : j ≤ i
    · have : ¬ i - j = 0 := by omega
      simp [h, h2, this]
    · simp [h, h2]
theorem hs_one {j k : Nat} (hj : j < 32) (hk : k < 32) : hs ((1 : Int32) <<< (nI j &&& 31)) (nI k) = decide (k = j) := by rw [hs_bt _ hk, bt_one hj hk]
theorem hs_set (x : Int32) {j k : Nat} (hj : j < 32) (hk : k < 32) : hs (x ||| ((1 : Int32) <<< (nI j &&& 31))) (nI k) = (hs x (nI k) || decide (k = j)) := by rw [hs_or _ _ hk, hs_one hj hk]
theorem hs_clr (x : Int32) {j k : Nat} (hj : j < 32) (hk : k < 32) : hs (x &&& (((1 : Int32) <<< (nI j &&& 31)) ^^^ (-1))) (nI k) = (hs x (nI k) && !decide (k = j)) := by
  rw [hs_and _ _ hk]
  congr 1
  rw [hs_bt _ hk, b_xor, bt_one hj hk, b_m1 k hk]
  simp
theorem bt_small : ∀ b, b < 32 → ∀ i, i < 32 → 5 ≤ i → bt (nI b) i = false := by decide +kernel
theorem inR_31 {f : Int32} (h : inR f 0 31 = true) : ∃ b, b < 32 ∧ f = nI b := by
  have e : inR f 0 (nI 31) = inB f (nI (31 + 1)) := inR_b (by omega)
  have h2 : inB f (nI 32) = true := by rw [← e]; exact h
  obtain ⟨b, hb, e⟩ := (inB_iff (by omega)).mp h2
  exact ⟨b, hb, e⟩
theorem mask_iff {f r : Int32} (hf : inR f 0 31 = true) : f &&& (r ^^^ (-1)) = 0 ↔ ∀ a, a < 5 → hs f (nI a) = true → hs r (nI a) = true := by
  obtain ⟨b, hb, ef⟩ := inR_31 hf
  have bit : ∀ i, i < 32 → bt (f &&& (r ^^^ (-1))) i = (bt f i && !bt r i) := fun i hi => by
    rw [b_and, b_xor, b_m1 i hi]; cases bt r i <;> simp
  constructor
  · intro h a ha h1
    have h2 := bit a (by omega)
    rw [h, b_0, ← hs_bt f (by omega), h1, Bool.true_and] at h2
    rw [hs_bt r (by omega)]
    cases hr : bt r a
    · rw [hr] at h2; exact absurd h2 (by decide)
    · rfl
  · intro h
    apply b_ext
    intro i hi
    rw [bit i hi, b_0]
    by_cases h5 : i < 5
    · cases hfi : bt f i
      · rfl
      · have := h i h5 (by rw [hs_bt _ hi, hfi])
        rw [hs_bt _ hi] at this
        rw [this]; rfl
    · rw [ef, bt_small b hb i hi (by omega)]; rfl
/-! ===== whether a team is whole ===== -/
theorem akF_congr {kn ro ro' : Nat → Int32} {t f : Int32} : ∀ {n : Nat}, (∀ k, k < n → ro k = ro' k) → akF kn ro t f n = akF kn ro' t f n := by
  intro n
  induction n with
  | zero => intro _; rfl
  | succ n ih => intro h; rw [akF, akF, ih (fun k hk => h k (by omega)), h n (by omega)]
theorem hs_31 : ∀ a, a < 5 → hs 31 (nI a) = true := by decide +kernel
theorem shK_hs (kn tr sk : Nat → Int32) {t a : Nat} (ht : t < 5) (ha : a < 5) : ∀ n, hs (shK kn tr sk n t) (nI a) = akF kn tr (nI t) (nI a) n := by
  intro n
  induction n with
  | zero => simp [shK, fillA, ht, akF, hs_31 a ha]
  | succ n ih =>
    rw [shK, akF, ← ih]
    by_cases hi : inB (tr n) 5 = true
    · rw [if_pos hi]
      obtain ⟨r, hr, e⟩ := (inB_iff (n := 5) (by omega)).mp hi
      have ec : (tr n).toNatClampNeg = r := by rw [e, nI_clamp (by omega)]
      rw [ec]
      by_cases hrt : t = r
      · subst hrt
        rw [upd_at, hs_and _ _ (by omega), e]; simp
      · rw [upd_ne _ _ hrt]
        have hne : ¬ tr n = nI t := fun q => hrt ((nI_eq (by omega) (by omega)).mp (q.symm.trans e))
        simp [hne]
    · rw [if_neg hi]
      have hne : ¬ tr n = nI t := fun q => hi (by rw [q]; exact inB_nI (n := 5) ht (by omega))
      simp [hne]
theorem rch_hs (w : Int32) (sk : Nat → Int32) {t a : Nat} (ht : t < 5) (ha : a < 5) : ∀ k, k ≤ 5 → (hs (rch w sk (nI t) k) (nI a) = true ↔ hs (sk t) (nI a) = true ∨ a = t ∨ ∃ r, r < k ∧ r ≠ t ∧ hs w (nI r) = true ∧ hs (sk t) (nI r) = true ∧ hs (sk r) (nI a) = true) := by
  intro k
  have ec : (nI t).toNatClampNeg = t := nI_clamp (by omega)
  induction k with
  | zero =>
    intro _
    rw [rch, ec, hs_set _ (by omega) (by omega), Bool.or_eq_true, decide_eq_true_eq]
    constructor
    · rintro (h | h)
      · exact Or.inl h
      · exact Or.inr (Or.inl h)
    · rintro (h | h | ⟨r, h, _⟩)
      · exact Or.inl h
      · exact Or.inr h
      · omega
  | succ k ih =>
    intro hk
    have ih2 := ih (by omega)
    rw [rch]
    by_cases hc : rcC w sk (nI t) k = true
    · rw [if_pos hc, hs_or _ _ (by omega), Bool.or_eq_true, ih2]
      simp only [rcC, ec, Bool.and_eq_true, Bool.not_eq_true', decide_eq_false_iff_not] at hc
      have hkt : k ≠ t := fun q => hc.1 (by rw [q])
      constructor
      · rintro ((h | h | ⟨r, h1, h2⟩) | h)
        · exact Or.inl h
        · exact Or.inr (Or.inl h)
        · exact Or.inr (Or.inr ⟨r, by omega, h2⟩)
        · exact Or.inr (Or.inr ⟨k, by omega, hkt, hc.2.1, hc.2.2, h⟩)
      · rintro (h | h | ⟨r, h1, h2⟩)
        · exact Or.inl (Or.inl h)
        · exact Or.inl (Or.inr (Or.inl h))
        · by_cases e : r = k
          · subst e; exact Or.inr h2.2.2.2
          · exact Or.inl (Or.inr (Or.inr ⟨r, by omega, h2⟩))
    · rw [if_neg hc, ih2]
      constructor
      · rintro (h | h | ⟨r, h1, h2⟩)
        · exact Or.inl h
        · exact Or.inr (Or.inl h)
        · exact Or.inr (Or.inr ⟨r, by omega, h2⟩)
      · rintro (h | h | ⟨r, h1, h2, h3, h4, h5⟩)
        · exact Or.inl h
        · exact Or.inr (Or.inl h)
        · by_cases e : r = k
          · subst e
            have hne : ¬ nI r = nI t := fun q => h2 ((nI_eq (by omega) (by omega)).mp q)
            exact absurd (by simp [rcC, ec, hne, h3, h4]) hc
          · exact Or.inr (Or.inr ⟨r, by omega, h2, h3, h4, h5⟩)
theorem alR_iff (f w : Int32) (sk : Nat → Int32) : ∀ k, (alR f w sk k = true ↔ ∀ t, t < k → hs w (nI t) = true → rcF f w sk (nI t) = true) := by
  intro k
  induction k with
  | zero => simp [alR]
  | succ k ih =>
    rw [alR, Bool.and_eq_true, ih, Bool.or_eq_true, Bool.not_eq_true']
    constructor
    · rintro ⟨h1, h2⟩ t ht hw
      by_cases e : t = k
      · subst e
        rcases h2 with q | q
        · rw [hw] at q; exact absurd q (by decide)
        · exact q
      · exact h1 t (by omega) hw
    · intro h
      refine ⟨fun t ht hw => h t (by omega) hw, ?_⟩
      cases hw : hs w (nI k)
      · exact Or.inl rfl
      · exact Or.inr (h k (by omega) hw)
theorem iwR_iff (n : Nat) (kn : Nat → Int32) (w : Int32) (ro : Nat → Int32) (a t : Int32) : ∀ k, (iwR n kn w ro a t k = true ↔ akF kn ro t a n = true ∨ ∃ r, r < k ∧ iwC n kn w ro a t r = true) := by
  intro k
  induction k with
  | zero => simp [iwR]
  | succ k ih =>
    rw [iwR, Bool.or_eq_true, ih]
    constructor
    · rintro ((h | ⟨r, h1, h2⟩) | h)
      · exact Or.inl h
      · exact Or.inr ⟨r, by omega, h2⟩
      · exact Or.inr ⟨k, by omega, h⟩
    · rintro (h | ⟨r, h1, h2⟩)
      · exact Or.inl (Or.inl h)
      · by_cases e : r = k
        · subst e; exact Or.inr h2
        · exact Or.inl (Or.inr ⟨r, by omega, h2⟩)
theorem iwT_iff (n : Nat) (kn : Nat → Int32) (fl w : Int32) (ro : Nat → Int32) (f : Int32) (b : Bool) : ∀ k, (iwT n kn fl w ro f b k = true ↔ b = true ∧ ∀ t, t < k → (hs fl f && (hs w (nI t) && !decide (nI t = f))) = true → iwR n kn w ro f (nI t) 5 = true) := by
  intro k
  induction k with
  | zero => simp [iwT]
  | succ k ih =>
    rw [iwT, Bool.and_eq_true, ih, Bool.or_eq_true, Bool.not_eq_true']
    constructor
    · rintro ⟨⟨hb, h1⟩, h2⟩
      refine ⟨hb, fun t ht hc => ?_⟩
      by_cases e : t = k
      · subst e
        rcases h2 with q | q
        · rw [hc] at q; exact absurd q (by decide)
        · exact q
      · exact h1 t (by omega) hc
    · rintro ⟨hb, h⟩
      refine ⟨⟨hb, fun t ht hc => h t (by omega) hc⟩, ?_⟩
      cases hc : (hs fl f && (hs w (nI k) && !decide (nI k = f)))
      · exact Or.inl rfl
      · exact Or.inr (h k (by omega) hc)
theorem iwL_iff (n : Nat) (kn : Nat → Int32) (fl w : Int32) (ro : Nat → Int32) : ∀ k, (iwL n kn fl w ro k = true ↔ ∀ a, a < k → ∀ t, t < 5 → (hs fl (nI a) && (hs w (nI t) && !decide (nI t = nI a))) = true → iwR n kn w ro (nI a) (nI t) 5 = true) := by
  intro k
  induction k with
  | zero => simp [iwL]
  | succ k ih =>
    rw [iwL, iwT_iff, ih]
    constructor
    · rintro ⟨h1, h2⟩ a ha t ht hc
      by_cases e : a = k
      · subst e; exact h2 t ht hc
      · exact h1 a (by omega) t ht hc
    · intro h
      exact ⟨fun a ha t ht hc => h a (by omega) t ht hc, fun t ht hc => h k (by omega) t ht hc⟩
theorem whole_eq {n : Nat} {kn tr ro sk : Nat → Int32} {f w : Int32} (hf : inR f 0 31 = true) (hro : ∀ k, k < n → tr k = ro k) : alR f w (shK kn tr sk n) 5 = iwF n kn f w ro := by
  have ak : ∀ t a, t < 5 → a < 5 → hs (shK kn tr sk n t) (nI a) = akF kn ro (nI t) (nI a) n := fun t a ht ha => by
    rw [shK_hs kn tr sk ht ha, akF_congr hro]
  have ne : ∀ {a b : Nat}, a < 5 → b < 5 → (nI a = nI b ↔ a = b) := fun ha hb => nI_eq (by omega) (by omega)
  have key : alR f w (shK kn tr sk n) 5 = true ↔ iwF n kn f w ro = true := by
    rw [alR_iff, iwF, iwL_iff]
    constructor
    · intro h a ha t ht hc
      rw [Bool.and_eq_true, Bool.and_eq_true, Bool.not_eq_true', decide_eq_false_iff_not, ne ht ha] at hc
      have h1 := h t ht hc.2.1
      rw [rcF, decide_eq_true_eq, mask_iff hf] at h1
      have h2 := (rch_hs w (shK kn tr sk n) ht ha 5 (Nat.le_refl _)).mp (h1 a ha hc.1)
      rw [iwR_iff]
      rcases h2 with q | q | ⟨r, hr, q1, q2, q3, q4⟩
      · exact Or.inl (by rw [← ak t a ht ha]; exact q)
      · exact absurd q.symm hc.2.2
      · by_cases e : r = a
        · subst e; exact Or.inl (by rw [← ak t r ht hr]; exact q3)
        · refine Or.inr ⟨r, hr, ?_⟩
          have e1 : ¬ nI r = nI a := fun q => e ((ne hr ha).mp q)
          have e2 : ¬ nI r = nI t := fun q => q1 ((ne hr ht).mp q)
          rw [iwC, q2, decide_eq_false e1, decide_eq_false e2, ← ak t r ht hr, q3, ← ak r a hr ha, q4]; rfl
    · intro h t ht hw
      rw [rcF, decide_eq_true_eq, mask_iff hf]
      intro a ha hfa
      rw [rch_hs w (shK kn tr sk n) ht ha 5 (Nat.le_refl _)]
      by_cases e : a = t
      · exact Or.inr (Or.inl e)
      · have e1 : ¬ nI t = nI a := fun q => e ((ne ht ha).mp q).symm
        have h1 := h a ha t ht (by rw [hfa, hw, decide_eq_false e1]; rfl)
        rw [iwR_iff] at h1
        rcases h1 with q | ⟨r, hr, q⟩
        · exact Or.inl (by rw [ak t a ht ha]; exact q)
        · simp only [iwC, Bool.and_eq_true, Bool.not_eq_true', decide_eq_false_iff_not] at q
          obtain ⟨q1, q2, q3, q4, q5⟩ := q
          exact Or.inr (Or.inr ⟨r, hr, fun z => q3 (by rw [z]), q1, by rw [ak t r ht hr]; exact q4, by rw [ak r a hr ha]; exact q5⟩)
  cases h1 : alR f w (shK kn tr sk n) 5 <;> cases h2 : iwF n kn f w ro
  · rfl
  · rw [key.mpr h2] at h1; exact h1.symm
  · rw [key.mp h1] at h2; exact h2
  · rfl
end
section
/-! ===== whether a row is a team; counts ===== -/
def cntR (ro : Nat → Int32) (t : Nat) : Nat → Nat
  | 0 => 0
  | k + 1 => cntR ro t k + (if ro k = nI t then 1 else 0)
def s5 (c : Nat → Nat) : Nat := c 0 + c 1 + c 2 + c 3 + c 4
theorem cntR_le (ro : Nat → Int32) (t : Nat) : ∀ k, cntR ro t k ≤ k := by
  intro k
  induction k with
  | zero => exact Nat.le_refl _
  | succ k ih => rw [cntR]; split <;> omega
theorem cntR_mono (ro : Nat → Int32) (t : Nat) {k : Nat} : ∀ m, k ≤ m → cntR ro t k ≤ cntR ro t m := by
  intro m
  induction m with
  | zero => intro h; have : k = 0 := by omega
            subst this; exact Nat.le_refl _
  | succ m ih =>
    intro h
    by_cases e : k = m + 1
    · subst e; exact Nat.le_refl _
    · have := ih (by omega)
      rw [cntR]; omega
theorem cntR_congr {ro ro' : Nat → Int32} {t : Nat} : ∀ {k : Nat}, (∀ j, j < k → ro j = ro' j) → cntR ro t k = cntR ro' t k := by
  intro k
  induction k with
  | zero => intro _; rfl
  | succ k ih => intro h; rw [cntR, cntR, ih (fun j hj => h j (by omega)), h k (by omega)]
theorem cnT_cnt (ro : Nat → Int32) (t : Nat) : ∀ k, cnT ro (nI t) k = nI (cntR ro t k) := by
  intro k
  induction k with
  | zero => rfl
  | succ k ih =>
    have e : cnT ro (nI t) (k + 1) = cnT ro (nI t) k + (if ro k = nI t then 1 else 0) := rfl
    rw [e, ih, cntR]
    split
    · exact nI_1 _
    · exact Int32.add_zero _
theorem inc5 (v : Int32) : s5 (fun t => if v = nI t then 1 else 0) ≤ 1 := by
  unfold s5
  by_cases h0 : v = nI 0
  · subst h0; decide
  · by_cases h1 : v = nI 1
    · subst h1; decide
    · by_cases h2 : v = nI 2
      · subst h2; decide
      · by_cases h3 : v = nI 3
        · subst h3; decide
        · by_cases h4 : v = nI 4
          · subst h4; decide
          · simp [h0, h1, h2, h3, h4]
theorem cnt_sum (ro : Nat → Int32) {k : Nat} : ∀ m, k ≤ m → s5 (fun t => cntR ro t m) ≤ s5 (fun t => cntR ro t k) + (m - k) := by
  intro m
  induction m with
  | zero => intro h; have : k = 0 := by omega
            subst this; exact Nat.le_refl _
  | succ m ih =>
    intro h
    by_cases e : k = m + 1
    · subst e; omega
    · have h1 := ih (by omega)
      have h2 := inc5 (ro m)
      simp only [s5, cntR] at h1 h2 ⊢
      omega
theorem itA_iff (sp il : Nat → Int32) (w : Int32) (ro : Nat → Int32) : ∀ n, (itA sp il w ro n = true ↔ ∀ k, k < n → ro k = 5 ∨ (hs w (ro k) = true ∧ hs (sp k) (ro k) = true ∧ il k = 0)) := by
  intro n
  induction n with
  | zero => simp [itA]
  | succ n ih =>
    rw [itA, Bool.and_eq_true, ih]
    simp only [Bool.or_eq_true, Bool.and_eq_true, decide_eq_true_eq]
    constructor
    · rintro ⟨h1, h2⟩ k hk
      by_cases e : k = n
      · subst e; exact h2
      · exact h1 k (by omega)
    · intro h
      exact ⟨fun k hk => h k (by omega), h n (by omega)⟩
theorem itB_iff (n : Nat) (w se : Int32) (ro : Nat → Int32) : ∀ k, (itB n w se ro k = true ↔ ∀ t, t < k → hs w (nI t) = true → cnT ro (nI t) n = se) := by
  intro k
  induction k with
  | zero => simp [itB]
  | succ k ih =>
    rw [itB, Bool.and_eq_true, ih, Bool.or_eq_true, Bool.not_eq_true', decide_eq_true_eq]
    constructor
    · rintro ⟨h1, h2⟩ t ht hw
      by_cases e : t = k
      · subst e
        rcases h2 with q | q
        · rw [hw] at q; exact absurd q (by decide)
        · exact q
      · exact h1 t (by omega) hw
    · intro h
      refine ⟨fun t ht hw => h t (by omega) hw, ?_⟩
      cases hw : hs w (nI k)
      · exact Or.inl rfl
      · exact Or.inr (h k (by omega) hw)
theorem itF_iff (n : Nat) (sp il : Nat → Int32) (w se : Int32) (ro : Nat → Int32) : itF n sp il w se ro = true ↔ (∀ k, k < n → ro k = 5 ∨ (hs w (ro k) = true ∧ hs (sp k) (ro k) = true ∧ il k = 0)) ∧ (∀ t, t < 5 → hs w (nI t) = true → cnT ro (nI t) n = se) := by
  rw [itF, Bool.and_eq_true, itA_iff, itB_iff]
theorem sI_congr {f g : Nat → Int32} : ∀ {n : Nat}, (∀ k, k < n → f k = g k) → sI f n = sI g n := by
  intro n
  induction n with
  | zero => intro _; rfl
  | succ n ih => intro h; rw [sI, sI, ih (fun k hk => h k (by omega)), h n (by omega)]
theorem itF_congr {n : Nat} {sp il : Nat → Int32} {w se : Int32} {ro ro' : Nat → Int32} (h : ∀ k, k < n → ro k = ro' k) : itF n sp il w se ro = itF n sp il w se ro' := by
  have e : ∀ t, cnT ro t n = cnT ro' t n := fun t => sI_congr (fun k hk => by rw [h k hk])
  have key : itF n sp il w se ro = true ↔ itF n sp il w se ro' = true := by
    rw [itF_iff, itF_iff]
    simp only [e]
    constructor
    · rintro ⟨h1, h2⟩; exact ⟨fun k hk => by rw [← h k hk]; exact h1 k hk, h2⟩
    · rintro ⟨h1, h2⟩; exact ⟨fun k hk => by rw [h k hk]; exact h1 k hk, h2⟩
  cases h1 : itF n sp il w se ro <;> cases h2 : itF n sp il w se ro'
  · rfl
  · rw [key.mpr h2] at h1; exact h1.symm
  · rw [key.mp h1] at h2; exact h2
  · rfl
/-! ===== the reference's rows as numbers ===== -/
def rowOf (n m k : Nat) : Int32 := nI (m / 6 ^ (n - 1 - k) % 6)
theorem rowD_out : ∀ (j l : Nat) (ro : Nat → Int32) (k : Nat), j ≤ k → rowD j l ro k = ro k := by
  intro j
  induction j with
  | zero => intro l ro k _; rfl
  | succ j ih => intro l ro k hk; rw [rowD, ih _ _ _ (by omega), upd_ne _ _ (by omega)]
theorem rowD_at : ∀ (j l : Nat) (ro : Nat → Int32) (k : Nat), k < j → rowD j l ro k = nI (l / 6 ^ (j - 1 - k) % 6) := by
  intro j
  induction j with
  | zero => intro l ro k hk; omega
  | succ j ih =>
    intro l ro k hk
    rw [rowD]
    by_cases e : k = j
    · subst e
      rw [rowD_out _ _ _ _ (Nat.le_refl _), upd_at]
      have : k + 1 - 1 - k = 0 := by omega
      rw [this, Nat.pow_zero, Nat.div_one]
    · rw [ih _ _ _ (by omega), Nat.div_div_eq_div_mul]
      have : j + 1 - 1 - k = (j - 1 - k) + 1 := by omega
      rw [this, Nat.pow_succ, Nat.mul_comm]
theorem rowD_row (n m : Nat) (ro : Nat → Int32) {k : Nat} (hk : k < n) : rowD n m ro k = rowOf n m k := rowD_at n m ro k hk
theorem rowOf_in (n m k : Nat) : inB (rowOf n m k) 6 = true := inB_nI (n := 6) (Nat.mod_lt _ (by omega)) (by omega)
def gR (n : Nat) (kn sp py il bo : Nat → Int32) (f w se : Int32) (a : RA) (m : Nat) : RA := if (itF n sp il w se (rowOf n m) && iwF n kn f w (rowOf n m)) = true then rA n py bo (rowOf n m) a else a
def foR (g : RA → Nat → RA) (a : RA) (b : Nat) : Nat → RA
  | 0 => a
  | l + 1 => g (foR g a b l) (b + l)
theorem foR_add (g : RA → Nat → RA) (a : RA) (b l1 : Nat) : ∀ l2, foR g a b (l1 + l2) = foR g (foR g a b l1) (b + l1) l2 := by
  intro l2
  induction l2 with
  | zero => rfl
  | succ l2 ih =>
    rw [← Nat.add_assoc, foR, ih, foR, Nat.add_assoc]
theorem foR_id (g : RA → Nat → RA) (b : Nat) (a : RA) : ∀ l, (∀ m, b ≤ m → m < b + l → ∀ a, g a m = a) → foR g a b l = a := by
  intro l
  induction l with
  | zero => intro _; rfl
  | succ l ih => intro h; rw [foR, ih (fun m h1 h2 => h m h1 (by omega)), h (b + l) (by omega) (by omega)]
theorem raL_congr {ro ro' : Nat → Int32} {al : Int32} : ∀ {n : Nat}, (∀ k, k < n → ro k = ro' k) → raL ro al n = raL ro' al n := by
  intro n
  induction n with
  | zero => intro _; rfl
  | succ n ih => intro h; rw [raL, raL, ih (fun k hk => h k (by omega)), h n (by omega)]
theorem fillN_congr {f g g' : Nat → Int32} {n : Nat} (h : ∀ k, k < n → g k = g' k) : fillN f n g = fillN f n g' := by
  funext j
  by_cases hj : j < n
  · simp [fillN, hj, h j hj]
  · simp [fillN, hj]
theorem rA_congr {n : Nat} {py bo ro ro' : Nat → Int32} (h : ∀ k, k < n → ro k = ro' k) (a : RA) : rA n py bo ro a = rA n py bo ro' a := by
  have e1 : rpS py ro n = rpS py ro' n := sI_congr (fun k hk => by rw [h k hk])
  have e2 : rmS bo ro n = rmS bo ro' n := sI_congr (fun k hk => by rw [h k hk])
  have e3 : raL ro a.2.2.2.2.1 n = raL ro' a.2.2.2.2.1 n := raL_congr h
  have e4 : ∀ f, fillN f n ro = fillN f n ro' := fun f => fillN_congr h
  simp only [rA, e1, e2, e3, e4]
theorem iwF_congr {n : Nat} {kn ro ro' : Nat → Int32} {f w : Int32} (h : ∀ k, k < n → ro k = ro' k) : iwF n kn f w ro = iwF n kn f w ro' := by
  have ak : ∀ t a, akF kn ro t a n = akF kn ro' t a n := fun t a => akF_congr h
  have key : iwF n kn f w ro = true ↔ iwF n kn f w ro' = true := by
    simp only [iwF, iwL_iff, iwR_iff, iwC, ak]
  cases h1 : iwF n kn f w ro <;> cases h2 : iwF n kn f w ro'
  · rfl
  · rw [key.mpr h2] at h1; exact h1.symm
  · rw [key.mp h1] at h2; exact h2
  · rfl
theorem ftL_foR (n : Nat) (kn sp py il bo : Nat → Int32) (f w se : Int32) (x : RA × (Nat → Int32)) : ∀ m, (ftL n kn sp py il bo f w se x m).1 = foR (gR n kn sp py il bo f w se) x.1 0 m := by
  intro m
  induction m with
  | zero => rfl
  | succ m ih =>
    rw [ftL, foR, Nat.zero_add]
    generalize hy : ftL n kn sp py il bo f w se x m = y at ih ⊢
    have hr : ∀ k, k < n → rowD n m y.2 k = rowOf n m k := fun k hk => rowD_row n m y.2 hk
    show (if (itF n sp il w se (rowD n m y.2) && iwF n kn f w (rowD n m y.2)) = true then rA n py bo (rowD n m y.2) y.1 else y.1) = _
    rw [← ih, gR, itF_congr hr, iwF_congr hr, rA_congr hr]
/-! ===== what was found, on both sides ===== -/
def RelA (n B : Nat) (a : Acc) (r : RA) : Prop := ∃ c, c ≤ B ∧ a.1 = nI c ∧ r.1 = nI c ∧ a.2.2.1 = r.2.1 ∧ a.2.2.2.1 = r.2.2.1 ∧ (c = 0 → r.2.1 = -1 ∧ r.2.2.1 = -1) ∧
  (0 < c → r.2.1 ≠ -1 ∧ r.2.2.1 ≠ -1 ∧ a.2.2.2.2.1 = r.2.2.2.1 ∧ (∀ j, j < n → a.2.2.2.2.2.1 j = r.2.2.2.2.2.1 j ∧ a.2.2.2.2.2.2 j = r.2.2.2.2.2.2 j ∧ inB (a.2.2.2.2.2.1 j) 6 = true ∧ inB (a.2.2.2.2.2.2 j) 6 = true)) ∧
  (∀ k, k < n → hs r.2.2.2.2.1 (nI k) = !hs a.2.1 (nI k))
theorem sI_bd {f : Nat → Int32} {M : Nat} : ∀ {n : Nat}, (∀ k, k < n → ∃ b, b ≤ M ∧ f k = nI b) → ∃ s, s ≤ M * n ∧ sI f n = nI s := by
  intro n
  induction n with
  | zero => intro _; exact ⟨0, by omega, rfl⟩
  | succ n ih =>
    intro h
    obtain ⟨s, hs1, hs2⟩ := ih (fun k hk => h k (by omega))
    obtain ⟨b, hb, e⟩ := h n (by omega)
    exact ⟨s + b, by rw [Nat.mul_succ]; omega, by rw [sI, hs2, e, nI_add]⟩
theorem sbS_hs (tr : Nat → Int32) (sb : Int32) {k : Nat} : ∀ n, n ≤ 6 → k < 6 → hs (sbS tr sb n) (nI k) = (hs sb (nI k) || (decide (k < n) && decide (tr k = 5))) := by
  intro n
  induction n with
  | zero => intro _ _; simp [sbS]
  | succ n ih =>
    intro hn hk
    rw [sbS]
    by_cases e : k = n
    · subst e
      have e1 := ih (by omega) hk
      by_cases h5 : tr k = 5
      · rw [if_pos h5, hs_set _ (by omega) (by omega)]; simp [h5]
      · rw [if_neg h5, e1]; simp [h5]
    · have e2 : decide (k < n + 1) = decide (k < n) := by
        have : (k < n + 1) ↔ (k < n) := by omega
        simp [this]
      rw [e2, ← ih (by omega) hk]
      split
      · rw [hs_set _ (by omega) (by omega)]; simp [e]
      · rfl
theorem raL_hs (ro : Nat → Int32) (al : Int32) {k : Nat} : ∀ n, n ≤ 6 → k < 6 → hs (raL ro al n) (nI k) = (hs al (nI k) && !(decide (k < n) && decide (5 ≤ ro k))) := by
  intro n
  induction n with
  | zero => intro _ _; simp [raL]
  | succ n ih =>
    intro hn hk
    rw [raL]
    by_cases e : k = n
    · subst e
      have e1 := ih (by omega) hk
      by_cases h5 : 5 ≤ ro k
      · rw [if_pos h5, hs_clr _ (by omega) (by omega)]; simp [h5]
      · rw [if_neg h5, e1]; simp [h5]
    · have e2 : decide (k < n + 1) = decide (k < n) := by
        have : (k < n + 1) ↔ (k < n) := by omega
        simp [this]
      rw [e2, ← ih (by omega) hk]
      split
      · rw [hs_clr _ (by omega) (by omega)]; simp [e]
      · rfl
theorem row5 {v : Int32} (h : inB v 6 = true) : (5 ≤ v) ↔ v = 5 := by
  obtain ⟨b, hb, e⟩ := (inB_iff (n := 6) (by omega)).mp h
  have e5 : (5 : Int32) = nI 5 := rfl
  rw [e, e5, nI_leI (by omega) (by omega), nI_eq (by omega) (by omega)]
  omega
theorem cpy6 (f g : Nat → Int32) {j : Nat} (h : j < 6) : va_cpy f g 0 0 6 j = f j := by simp [va_cpy, h]
theorem Rel_pay {n : Nat} {py tr ro : Nat → Int32} (hro : ∀ k, k < n → tr k = ro k) (hin : ∀ k, k < n → inB (ro k) 6 = true) : paS py tr n = rpS py ro n := sI_congr (fun k hk => by
    have := row5 (hin k hk)
    rw [hro k hk]
    by_cases q : ro k = 5
    · rw [if_pos q, if_pos (this.mpr q)]
    · rw [if_neg q, if_neg (fun z => q (this.mp z))])
theorem Rel_mov {n : Nat} {bo bo' tr ro : Nat → Int32} (hbo : ∀ k, k < n → bo k = bo' k) (hro : ∀ k, k < n → tr k = ro k) : mvS bo tr n = rmS bo' ro n := sI_congr (fun k hk => by rw [hro k hk, hbo k hk])
theorem Rel_payn {n : Nat} (hn : n ≤ 6) {py ro : Nat → Int32} (hpy : ∀ k, k < n → ∃ b, b ≤ 99 ∧ py k = nI b) : ¬ rpS py ro n = -1 := by
  obtain ⟨s, hsb, es⟩ : ∃ s, s ≤ 99 * n ∧ sI (fun k => if 5 ≤ ro k then 0 else py k) n = nI s := sI_bd (fun k hk => by
    obtain ⟨b, hb, e⟩ := hpy k hk
    by_cases q : 5 ≤ ro k
    · exact ⟨0, by omega, by rw [if_pos q]; rfl⟩
    · exact ⟨b, hb, by rw [if_neg q, e]⟩)
  rw [rpS, es]
  exact nI_m1 (by omega)
theorem Rel_movn {n : Nat} (hn : n ≤ 6) {bo ro : Nat → Int32} : ¬ rmS bo ro n = -1 := by
  obtain ⟨s, hsb, es⟩ : ∃ s, s ≤ 1 * n ∧ sI (fun k => if ro k = bo k then (0 : Int32) else 1) n = nI s := sI_bd (fun k hk => by
    by_cases q : ro k = bo k
    · exact ⟨0, by omega, by rw [if_pos q]; rfl⟩
    · exact ⟨1, by omega, by rw [if_neg q]; rfl⟩)
  rw [rmS, es]
  exact nI_m1 (by omega)
theorem Rel_bits {n : Nat} (hn : n ≤ 6) {tr ro : Nat → Int32} {al sb : Int32} (hro : ∀ k, k < n → tr k = ro k) (hin : ∀ k, k < n → inB (ro k) 6 = true) (h7 : ∀ k, k < n → hs al (nI k) = !hs sb (nI k)) : ∀ k, k < n → hs (raL ro al n) (nI k) = !hs (sbS tr sb n) (nI k) := by
  intro k hk
  rw [raL_hs _ _ n hn (by omega), sbS_hs _ _ n hn (by omega), h7 k hk, hro k hk]
  have := row5 (hin k hk)
  by_cases q : ro k = 5
  · simp [hk, q]
  · have q2 : ¬ 5 ≤ ro k := fun z => q (this.mp z)
    simp [q, q2]
theorem Rel_core {n B c : Nat} (hn : n ≤ 6) {tr ro ct nt cp nr : Nat → Int32} {fo sb' lp fm pn wm ch ne np al' S M : Int32} {cb nb : Bool} (hro : ∀ k, k < n → tr k = ro k) (hin : ∀ k, k < n → inB (ro k) 6 = true) (hS1 : ¬ S = -1) (hM1 : ¬ M = -1) (hc : c ≤ B) (h1 : fo = nI c) (h2 : wm = nI c) (h3 : lp = ch) (h4 : fm = ne) (h5 : c = 0 → cb = true ∧ nb = true)
    (h6 : 0 < c → ch ≠ -1 ∧ ne ≠ -1 ∧ pn = np ∧ (∀ j, j < n → ct j = cp j ∧ nt j = nr j ∧ inB (ct j) 6 = true ∧ inB (nt j) 6 = true)) (hb : ∀ k, k < n → hs al' (nI k) = !hs sb' (nI k)) :
    RelA n (B + 1) (fo + 1, sb', (if cb = true then S else lp), (if nb = true then M else fm), (if nb = true then S else pn), (if cb = true then va_cpy tr ct 0 0 6 else ct), (if nb = true then va_cpy tr nt 0 0 6 else nt)) (wm + 1, (if cb = true then S else ch), (if nb = true then M else ne), (if nb = true then S else np), al', (if cb = true then fillN cp n ro else cp), (if nb = true then fillN nr n ro else nr)) := by
  have fN : ∀ (g : Nat → Int32) (j : Nat), j < n → fillN g n ro j = ro j := fun g j hj => by simp [fillN, hj]
  have cy : ∀ (g : Nat → Int32) (j : Nat), j < n → va_cpy tr g 0 0 6 j = ro j := fun g j hj => by rw [cpy6 _ _ (by omega), hro j hj]
  refine ⟨c + 1, by omega, ?_, ?_, ?_, ?_, fun q => by omega, fun _ => ⟨?_, ?_, ?_, fun j hj => ⟨?_, ?_, ?_, ?_⟩⟩, hb⟩
  · show fo + 1 = _
    rw [h1, nI_1]
  · show wm + 1 = _
    rw [h2, nI_1]
  · show (if cb = true then S else lp) = (if cb = true then S else ch)
    rw [h3]
  · show (if nb = true then M else fm) = (if nb = true then M else ne)
    rw [h4]
  · show (if cb = true then S else ch) ≠ -1
    cases hcb : cb
    · rcases Nat.eq_zero_or_pos c with q | q
      · rw [(h5 q).1] at hcb; exact absurd hcb (by decide)
      · exact (h6 q).1
    · exact hS1
  · show (if nb = true then M else ne) ≠ -1
    cases hcb : nb
    · rcases Nat.eq_zero_or_pos c with q | q
      · rw [(h5 q).2] at hcb; exact absurd hcb (by decide)
      · exact (h6 q).2.1
    · exact hM1
  · show (if nb = true then S else pn) = (if nb = true then S else np)
    cases hcb : nb
    · rcases Nat.eq_zero_or_pos c with q | q
      · rw [(h5 q).2] at hcb; exact absurd hcb (by decide)
      · exact (h6 q).2.2.1
    · rfl
  · show (if cb = true then va_cpy tr ct 0 0 6 else ct) j = (if cb = true then fillN cp n ro else cp) j
    cases hcb : cb
    · rcases Nat.eq_zero_or_pos c with q | q
      · rw [(h5 q).1] at hcb; exact absurd hcb (by decide)
      · exact ((h6 q).2.2.2 j hj).1
    · rw [if_pos rfl, if_pos rfl, cy _ j hj, fN _ j hj]
  · show (if nb = true then va_cpy tr nt 0 0 6 else nt) j = (if nb = true then fillN nr n ro else nr) j
    cases hcb : nb
    · rcases Nat.eq_zero_or_pos c with q | q
      · rw [(h5 q).2] at hcb; exact absurd hcb (by decide)
      · exact ((h6 q).2.2.2 j hj).2.1
    · rw [if_pos rfl, if_pos rfl, cy _ j hj, fN _ j hj]
  · show inB ((if cb = true then va_cpy tr ct 0 0 6 else ct) j) 6 = true
    cases hcb : cb
    · rcases Nat.eq_zero_or_pos c with q | q
      · rw [(h5 q).1] at hcb; exact absurd hcb (by decide)
      · exact ((h6 q).2.2.2 j hj).2.2.1
    · rw [if_pos rfl, cy _ j hj]; exact hin j hj
  · show inB ((if nb = true then va_cpy tr nt 0 0 6 else nt) j) 6 = true
    cases hcb : nb
    · rcases Nat.eq_zero_or_pos c with q | q
      · rw [(h5 q).2] at hcb; exact absurd hcb (by decide)
      · exact ((h6 q).2.2.2 j hj).2.2.2
    · rw [if_pos rfl, cy _ j hj]; exact hin j hj
theorem kc_eq {fo lp ch v : Int32} {c : Nat} (hc : c < 2 ^ 31) (h1 : fo = nI c) (h3 : lp = ch) (h5 : c = 0 → ch = -1) (h6 : 0 < c → ch ≠ -1) : kcC fo lp v = rcB ch v ∧ (c = 0 → rcB ch v = true) := by
  have z : (0 : Int32) = nI 0 := rfl
  have hz : (fo = 0) ↔ c = 0 := by rw [h1, z, nI_eq hc (by omega)]
  rw [kcC, rcB, h3]
  rcases Nat.eq_zero_or_pos c with q | q
  · rw [decide_eq_true (hz.mpr q), decide_eq_true (h5 q)]
    simp only [Bool.true_or]
    exact ⟨trivial, fun _ => trivial⟩
  · rw [decide_eq_false (fun w => by have := hz.mp w; omega), decide_eq_false (h6 q)]
    exact ⟨rfl, fun w => by omega⟩
theorem kn_eq {fo fm ne pn np mv v : Int32} {c : Nat} (hc : c < 2 ^ 31) (h1 : fo = nI c) (h4 : fm = ne) (h5 : c = 0 → ne = -1) (h6 : 0 < c → ne ≠ -1 ∧ pn = np) : knC fo fm pn mv v = rnB ne np mv v ∧ (c = 0 → rnB ne np mv v = true) := by
  have z : (0 : Int32) = nI 0 := rfl
  have hz : (fo = 0) ↔ c = 0 := by rw [h1, z, nI_eq hc (by omega)]
  rw [knC, rnB, h4]
  rcases Nat.eq_zero_or_pos c with q | q
  · rw [decide_eq_true (hz.mpr q), decide_eq_true (h5 q)]
    simp only [Bool.true_or]
    exact ⟨trivial, fun _ => trivial⟩
  · rw [decide_eq_false (fun w => by have := hz.mp w; omega), decide_eq_false (h6 q).1, (h6 q).2]
    exact ⟨rfl, fun w => by omega⟩
theorem RelA_step {n B : Nat} (hn : n ≤ 6) (hB : B < 2 ^ 30) {py bo bo' tr ro : Nat → Int32} {a : Acc} {r : RA} (hpy : ∀ k, k < n → ∃ b, b ≤ 99 ∧ py k = nI b) (hbo : ∀ k, k < n → bo k = bo' k) (hro : ∀ k, k < n → tr k = ro k) (hin : ∀ k, k < n → inB (ro k) 6 = true) (h : RelA n B a r) : RelA n (B + 1) (wgA n py bo tr a) (rA n py bo' ro r) := by
  obtain ⟨fo, sb, lp, fm, pn, ct, nt⟩ := a
  obtain ⟨wm, ch, ne, np, al, cp, nr⟩ := r
  obtain ⟨c, hc, h1, h2, h3, h4, h5, h6, h7⟩ := h
  dsimp only at h1 h2 h3 h4 h5 h6 h7
  have eS := Rel_pay (py := py) hro hin
  have eM := Rel_mov hbo hro
  have hS1 := Rel_payn (ro := ro) hn hpy
  have hM1 : ¬ rmS bo' ro n = -1 := Rel_movn hn
  have hbit := Rel_bits hn hro hin h7
  obtain ⟨ec, ec0⟩ := kc_eq (v := rpS py ro n) (by omega) h1 h3 (fun q => (h5 q).1) (fun q => (h6 q).1)
  obtain ⟨en, en0⟩ := kn_eq (mv := rmS bo' ro n) (v := rpS py ro n) (by omega) h1 h4 (fun q => (h5 q).2) (fun q => ⟨(h6 q).2.1, (h6 q).2.2.1⟩)
  have ew : wgA n py bo tr (fo, sb, lp, fm, pn, ct, nt) = (fo + 1, sbS tr sb n, (if rcB ch (rpS py ro n) = true then rpS py ro n else lp), (if rnB ne np (rmS bo' ro n) (rpS py ro n) = true then rmS bo' ro n else fm), (if rnB ne np (rmS bo' ro n) (rpS py ro n) = true then rpS py ro n else pn), (if rcB ch (rpS py ro n) = true then va_cpy tr ct 0 0 6 else ct), (if rnB ne np (rmS bo' ro n) (rpS py ro n) = true then va_cpy tr nt 0 0 6 else nt)) := by
    simp only [wgA, eS, eM, ec, en]
  have er : rA n py bo' ro (wm, ch, ne, np, al, cp, nr) = (wm + 1, (if rcB ch (rpS py ro n) = true then rpS py ro n else ch), (if rnB ne np (rmS bo' ro n) (rpS py ro n) = true then rmS bo' ro n else ne), (if rnB ne np (rmS bo' ro n) (rpS py ro n) = true then rpS py ro n else np), raL ro al n, (if rcB ch (rpS py ro n) = true then fillN cp n ro else cp), (if rnB ne np (rmS bo' ro n) (rpS py ro n) = true then fillN nr n ro else nr)) := by
    simp only [rA]
  rw [ew, er]
  generalize rpS py ro n = S at *
  generalize rmS bo' ro n = M at *
  exact Rel_core hn hro hin hS1 hM1 hc h1 h2 h3 h4 (fun q => ⟨ec0 q, en0 q⟩) h6 hbit
theorem RelA_mono {n B B' : Nat} {a : Acc} {r : RA} (h : RelA n B a r) (hb : B ≤ B') : RelA n B' a r := by
  obtain ⟨c, hc, h⟩ := h
  exact ⟨c, by omega, h⟩
end
section
/-! ===== the search: what it finds is what the reference's loop over all numbers finds ===== -/
def Inv (n S : Nat) (sp ilz : Nat → Int32) (w : Int32) (k p : Nat) (x : PS) (c : Nat → Nat) : Prop :=
  (∀ m, m / 6 ^ (n - k) = p → ∀ j, j < k → pTr x j = rowOf n m j) ∧
  (∀ t, t < 5 → pFs x t = nI (c t) ∧ c t + cntR (pTr x) t k = (if hs w (nI t) = true then S else 0)) ∧
  x.1 = nI (s5 c) ∧
  (∀ j, j < k → pTr x j = 5 ∨ (hs w (pTr x j) = true ∧ hs (sp j) (pTr x j) = true ∧ ilz j = 0))
theorem no_team {n S : Nat} {sp ilz : Nat → Int32} {w : Int32} {k p : Nat} {x : PS} {c : Nat → Nat} (hn : n ≤ 6) (hS : S ≤ 2) (hk : k ≤ n) (hI : Inv n S sp ilz w k p x c) (h : n - k < s5 c) {m : Nat} (hm : m / 6 ^ (n - k) = p) : itF n sp ilz w (nI S) (rowOf n m) = false := by
  cases hit : itF n sp ilz w (nI S) (rowOf n m)
  · rfl
  · exfalso
    rw [itF_iff] at hit
    have le : ∀ t, t < 5 → c t + cntR (rowOf n m) t k ≤ cntR (rowOf n m) t n := by
      intro t ht
      have e1 := (hI.2.1 t ht).2
      have e2 : cntR (pTr x) t k = cntR (rowOf n m) t k := cntR_congr (fun j hj => hI.1 m hm j hj)
      rw [e2] at e1
      by_cases hw : hs w (nI t) = true
      · have e3 := hit.2 t ht hw
        have b := cntR_le (rowOf n m) t n
        rw [cnT_cnt, nI_eq (by omega) (by omega)] at e3
        rw [if_pos hw] at e1
        omega
      · have := cntR_mono (rowOf n m) t n hk
        rw [if_neg hw] at e1
        omega
    have hsum := cnt_sum (rowOf n m) n hk
    have l0 := le 0 (by omega)
    have l1 := le 1 (by omega)
    have l2 := le 2 (by omega)
    have l3 := le 3 (by omega)
    have l4 := le 4 (by omega)
    simp only [s5] at hsum h
    omega
theorem pow_k {n k : Nat} (hk : k < n) : 6 ^ (n - k) = 6 ^ (n - (k + 1)) * 6 := by
  have : n - k = (n - (k + 1)) + 1 := by omega
  rw [this, Nat.pow_succ]
theorem up_div {n k p t m : Nat} (hk : k < n) (ht : t < 6) (hm : m / 6 ^ (n - (k + 1)) = 6 * p + t) : m / 6 ^ (n - k) = p ∧ rowOf n m k = nI t := by
  constructor
  · rw [pow_k hk, ← Nat.div_div_eq_div_mul, hm]; omega
  · have : n - 1 - k = n - (k + 1) := by omega
    rw [rowOf, this, hm]
    congr 1
    omega
theorem no_child {n S : Nat} {il : Int32} {sp ilz : Nat → Int32} {w : Int32} {k p t : Nat} {x : PS} {c : Nat → Nat} (hn : n ≤ 6) (hS : S ≤ 2) (hk : k < n) (ht : t < 5) (hil : ∀ k, k < n → (ilz k = 0 ↔ hs il (nI k) = false)) (hI : Inv n S sp ilz w k p x c) (h : (decide (pFs x t = 0) || !canT n il sp (nI k) (nI t)) = true) {m : Nat} (hm : m / 6 ^ (n - (k + 1)) = 6 * p + t) : itF n sp ilz w (nI S) (rowOf n m) = false := by
  obtain ⟨hmp, hrow⟩ := up_div hk (by omega : t < 6) hm
  cases hit : itF n sp ilz w (nI S) (rowOf n m)
  · rfl
  · exfalso
    rw [itF_iff] at hit
    have e5 : (5 : Int32) = nI 5 := rfl
    have hk1 := hit.1 k hk
    rw [hrow, e5, nI_eq (by omega) (by omega)] at hk1
    rcases hk1 with q | ⟨q1, q2, q3⟩
    · omega
    · rw [Bool.or_eq_true] at h
      rcases h with h | h
      · rw [decide_eq_true_eq] at h
        obtain ⟨e1, e2⟩ := hI.2.1 t ht
        have c0 : c t = 0 := by
          have z : (0 : Int32) = nI 0 := rfl
          have b : c t ≤ S := by
            have : c t ≤ (if hs w (nI t) = true then S else 0) := by omega
            rw [if_pos q1] at this; exact this
          rw [e1, z, nI_eq (by omega) (by omega)] at h
          exact h
        have e3 : cntR (pTr x) t k = cntR (rowOf n m) t k := cntR_congr (fun j hj => hI.1 m hmp j hj)
        have e4 := hit.2 t ht q1
        have b := cntR_le (rowOf n m) t n
        rw [cnT_cnt, nI_eq (by omega) (by omega)] at e4
        have e6 := cntR_mono (rowOf n m) t (k := k + 1) n (by omega)
        rw [cntR, if_pos hrow] at e6
        rw [if_pos q1, e3, c0] at e2
        omega
      · have ek : (nI k).toNatClampNeg = k := nI_clamp (by omega)
        rw [canT, inB_nI hk (by omega), ek, (hil k hk).mp q3, q2] at h
        exact absurd h (by decide)
theorem Inv_child {n S : Nat} {sp ilz : Nat → Int32} {w : Int32} {k p t : Nat} {x z : PS} {c c' : Nat → Nat} (hk : k < n) (ht : t < 6) (hI : Inv n S sp ilz w k p x c) (htr : ∀ j, j < k → pTr z j = pTr x j) (hv : pTr z k = nI t) (hfs : ∀ u, u < 5 → pFs z u = nI (c' u) ∧ c' u + (if t = u then 1 else 0) = c u) (hos : z.1 = nI (s5 c')) (hok : t = 5 ∨ (hs w (nI t) = true ∧ hs (sp k) (nI t) = true ∧ ilz k = 0)) : Inv n S sp ilz w (k + 1) (6 * p + t) z c' := by
  refine ⟨fun m hm j hj => ?_, fun u hu => ⟨(hfs u hu).1, ?_⟩, hos, fun j hj => ?_⟩
  · obtain ⟨hmp, hrow⟩ := up_div hk ht hm
    by_cases e : j = k
    · subst e; rw [hv, hrow]
    · rw [htr j (by omega)]; exact hI.1 m hmp j (by omega)
  · have e1 : cntR (pTr z) u k = cntR (pTr x) u k := cntR_congr htr
    have e2 := (hI.2.1 u hu).2
    have e3 := (hfs u hu).2
    have e4 : (nI t = nI u) ↔ t = u := nI_eq (by omega) (by omega)
    rw [cntR, hv, e1]
    by_cases q : t = u
    · rw [if_pos (e4.mpr q)]
      rw [if_pos q] at e3
      omega
    · rw [if_neg (fun z => q (e4.mp z))]
      rw [if_neg q] at e3
      omega
  · by_cases e : j = k
    · subst e
      rw [hv]
      rcases hok with q | q
      · left; rw [q]; rfl
      · right; exact q
    · rw [htr j (by omega)]; exact hI.2.2.2 j (by omega)
theorem in_range {p q m : Nat} (hq : 0 < q) (h1 : p * q ≤ m) (h2 : m < p * q + q) : m / q = p := by
  apply Nat.div_eq_of_lt_le
  · exact h1
  · rw [Nat.add_mul, Nat.one_mul]; exact h2
theorem pAc_mkP (os : Int32) (a : Acc) (tr fs sk : Nat → Int32) : pAc (mkP os a tr fs sk) = a := rfl
theorem pTr_mkP (os : Int32) (a : Acc) (tr fs sk : Nat → Int32) : pTr (mkP os a tr fs sk) = tr := rfl
theorem pFs_mkP (os : Int32) (a : Acc) (tr fs sk : Nat → Int32) : pFs (mkP os a tr fs sk) = fs := rfl
theorem os_mkP (os : Int32) (a : Acc) (tr fs sk : Nat → Int32) : (mkP os a tr fs sk).1 = os := rfl
theorem pf_0 (n : Nat) (il : Int32) (kn sp py bo : Nat → Int32) (f w : Int32) (k : Nat) (x : PS) : pf n il kn sp py bo f w 0 k x = if x.1 ≤ nI n - nI k then wwP n kn py bo f w x else x := by rw [pf]
theorem pf_s (n : Nat) (il : Int32) (kn sp py bo : Nat → Int32) (f w : Int32) (d k : Nat) (x : PS) : pf n il kn sp py bo f w (d + 1) k x = if x.1 ≤ nI n - nI k then pf n il kn sp py bo f w d (k + 1) (setT k (l5 (fun t => pinG (pf n il kn sp py bo f w d (k + 1)) (canT n il sp (nI k) (nI t)) k (nI t)) 5 x)) else x := by rw [pf]
set_option maxHeartbeats 2000000 in
theorem pf_sem {n S : Nat} {il : Int32} {kn sp py bo bo' ilz : Nat → Int32} {f w : Int32} (hn : n ≤ 6) (hS : S ≤ 2) (hf : inR f 0 31 = true) (hpy : ∀ k, k < n → ∃ b, b ≤ 99 ∧ py k = nI b) (hbo : ∀ k, k < n → bo k = bo' k) (hil : ∀ k, k < n → (ilz k = 0 ↔ hs il (nI k) = false)) :
    ∀ (d k p : Nat) (x : PS) (c : Nat → Nat) (r : RA) (B : Nat), k + d = n → Inv n S sp ilz w k p x c → RelA n B (pAc x) r → B + 6 ^ d < 2 ^ 30 →
      RelA n (B + 6 ^ d) (pAc (pf n il kn sp py bo f w d k x)) (foR (gR n kn sp py ilz bo' f w (nI S)) r (p * 6 ^ d) (6 ^ d)) ∧ (pf n il kn sp py bo f w d k x).1 = x.1 ∧ pFs (pf n il kn sp py bo f w d k x) = pFs x ∧ ∀ j, j < k → pTr (pf n il kn sp py bo f w d k x) j = pTr x j := by
  have c_le : ∀ {k p : Nat} {x : PS} {c : Nat → Nat}, Inv n S sp ilz w k p x c → s5 c ≤ 10 := by
    intro k p x c hI
    have b : ∀ t, t < 5 → c t ≤ 2 := by
      intro t ht
      have := (hI.2.1 t ht).2
      split at this <;> omega
    have b0 := b 0 (by omega)
    have b1 := b 1 (by omega)
    have b2 := b 2 (by omega)
    have b3 := b 3 (by omega)
    have b4 := b 4 (by omega)
    simp only [s5]
    omega
  have gid : ∀ (r : RA) (m : Nat), itF n sp ilz w (nI S) (rowOf n m) = false → gR n kn sp py ilz bo' f w (nI S) r m = r := by
    intro r m h
    rw [gR, h, Bool.false_and, if_neg (by decide)]
  intro d
  induction d with
  | zero =>
    intro k p x c r B hkd hI hR hB
    have hkn : k = n := by omega
    subst hkn
    have z0 : nI k - nI k = nI 0 := by rw [pk_sub (Nat.le_refl _), Nat.sub_self]
    have fo1 : foR (gR k kn sp py ilz bo' f w (nI S)) r (p * 6 ^ 0) (6 ^ 0) = gR k kn sp py ilz bo' f w (nI S) r p := by
      show gR k kn sp py ilz bo' f w (nI S) r (p * 6 ^ 0 + 0) = _
      rw [Nat.pow_zero, Nat.mul_one, Nat.add_zero]
    have hpp : p / 6 ^ (k - k) = p := by rw [Nat.sub_self, Nat.pow_zero, Nat.div_one]
    have cl := c_le hI
    have hle : (nI (s5 c) ≤ nI 0) ↔ s5 c ≤ 0 := nI_leI (by omega) (by omega)
    rw [fo1, pf_0, z0, hI.2.2.1]
    by_cases h0 : s5 c ≤ 0
    · rw [if_pos (hle.mpr h0)]
      have hro : ∀ j, j < k → pTr x j = rowOf k p j := fun j hj => hI.1 p hpp j hj
      have hit : itF k sp ilz w (nI S) (rowOf k p) = true := by
        rw [itF_iff]
        refine ⟨fun j hj => by rw [← hro j hj]; exact hI.2.2.2 j hj, fun t ht hw => ?_⟩
        have e1 := (hI.2.1 t ht).2
        have c0 : c t = 0 := by
          simp only [s5] at h0
          have : t = 0 ∨ t = 1 ∨ t = 2 ∨ t = 3 ∨ t = 4 := by omega
          rcases this with rfl | rfl | rfl | rfl | rfl <;> omega
        rw [if_pos hw, c0, Nat.zero_add, cntR_congr hro] at e1
        rw [cnT_cnt, e1]
      refine ⟨?_, hI.2.2.1, rfl, fun j _ => rfl⟩
      rw [gR, hit, Bool.true_and, wwP, pAc_mkP, wwA, whole_eq hf hro, Nat.pow_zero]
      by_cases hw : iwF k kn f w (rowOf k p) = true
      · rw [if_pos hw, if_pos hw]
        exact RelA_step hn (by omega) hpy hbo hro (fun j _ => rowOf_in k p j) hR
      · rw [if_neg hw, if_neg hw]
        exact RelA_mono hR (by omega)
    · rw [if_neg (fun z => h0 (hle.mp z))]
      have hno := no_team (m := p) hn hS (Nat.le_refl k) hI (by omega) hpp
      rw [gid r p hno]
      exact ⟨RelA_mono hR (by omega), hI.2.2.1, rfl, fun j _ => rfl⟩
  | succ d ih =>
    intro k p x c r B hkd hI hR hB
    have hk : k < n := by omega
    have hnk : n - k = d + 1 := by omega
    have hnk1 : n - (k + 1) = d := by omega
    have cl := c_le hI
    have ek : (nI k).toNatClampNeg = k := nI_clamp (by omega)
    have hpos : 0 < 6 ^ d := Nat.pow_pos (by omega)
    have hpow : 6 ^ (d + 1) = 6 * 6 ^ d := by rw [Nat.pow_succ, Nat.mul_comm]
    have z0 : nI n - nI k = nI (n - k) := pk_sub (by omega)
    have hle : (nI (s5 c) ≤ nI (n - k)) ↔ s5 c ≤ n - k := nI_leI (by omega) (by omega)
    rw [pf_s, z0, hI.2.2.1]
    by_cases h0 : s5 c ≤ n - k
    · rw [if_pos (hle.mpr h0)]
      -- the five booths, one behind another
      have L : ∀ t, t ≤ 5 → RelA n (B + t * 6 ^ d) (pAc (l5 (fun t => pinG (pf n il kn sp py bo f w d (k + 1)) (canT n il sp (nI k) (nI t)) k (nI t)) t x)) (foR (gR n kn sp py ilz bo' f w (nI S)) r (p * 6 ^ (d + 1)) (t * 6 ^ d)) ∧ (l5 (fun t => pinG (pf n il kn sp py bo f w d (k + 1)) (canT n il sp (nI k) (nI t)) k (nI t)) t x).1 = x.1 ∧ pFs (l5 (fun t => pinG (pf n il kn sp py bo f w d (k + 1)) (canT n il sp (nI k) (nI t)) k (nI t)) t x) = pFs x ∧ ∀ j, j < k → pTr (l5 (fun t => pinG (pf n il kn sp py bo f w d (k + 1)) (canT n il sp (nI k) (nI t)) k (nI t)) t x) j = pTr x j := by
        intro t
        induction t with
        | zero =>
          intro _
          rw [Nat.zero_mul]
          exact ⟨hR, rfl, rfl, fun j _ => rfl⟩
        | succ t iht =>
          intro ht
          obtain ⟨g1, g2, g3, g4⟩ := iht (by omega)
          rw [l5]
          generalize l5 (fun t => pinG (pf n il kn sp py bo f w d (k + 1)) (canT n il sp (nI k) (nI t)) k (nI t)) t x = y at g1 g2 g3 g4 ⊢
          have et : (nI t).toNatClampNeg = t := nI_clamp (by omega)
          have hmul : (t + 1) * 6 ^ d = t * 6 ^ d + 6 ^ d := by rw [Nat.add_mul, Nat.one_mul]
          have hbase : p * 6 ^ (d + 1) + t * 6 ^ d = (6 * p + t) * 6 ^ d := by rw [hpow, Nat.add_mul, ← Nat.mul_assoc, Nat.mul_comm p 6]
          have hbd : t * 6 ^ d + 6 ^ d ≤ 6 * 6 ^ d := by
            rw [← hmul]; exact Nat.mul_le_mul_right _ (by omega)
          rw [hmul, foR_add, hbase]
          show RelA n _ (pAc (pinG _ _ k (nI t) y)) _ ∧ (pinG _ _ k (nI t) y).1 = x.1 ∧ pFs (pinG _ _ k (nI t) y) = pFs x ∧ ∀ j, j < k → pTr (pinG _ _ k (nI t) y) j = pTr x j
          rw [pinG, et]
          by_cases hc : (decide (pFs y t = 0) || !canT n il sp (nI k) (nI t)) = true
          · rw [if_pos hc]
            rw [g3] at hc
            rw [foR_id _ _ _ _ (fun m h1 h2 a => gid a m (no_child hn hS hk (by omega) hil hI hc (by rw [hnk1]; exact in_range hpos h1 h2)))]
            exact ⟨RelA_mono g1 (by omega), g2, g3, g4⟩
          · rw [if_neg hc]
            rw [Bool.or_eq_true, not_or, decide_eq_true_eq, Bool.not_eq_true', Bool.not_eq_false] at hc
            obtain ⟨hc1, hc2⟩ := hc
            have hcan := hc2
            rw [canT, Bool.and_eq_true, Bool.and_eq_true, ek, Bool.not_eq_true'] at hcan
            have ct1 : 1 ≤ c t := by
              rcases Nat.eq_zero_or_pos (c t) with q | q
              · exact absurd (by rw [g3, (hI.2.1 t (by omega)).1, q]; rfl) hc1
              · exact q
            have hw : hs w (nI t) = true := by
              cases q : hs w (nI t)
              · have := (hI.2.1 t (by omega)).2
                rw [q, if_neg (by decide)] at this
                omega
              · rfl
            have efs : pFs y t - 1 = nI (c t - 1) := by
              have o1 : (1 : Int32) = nI 1 := rfl
              rw [g3, (hI.2.1 t (by omega)).1, o1, pk_sub ct1]
            have hs5 : s5 (fun u => if u = t then c t - 1 else c u) + 1 = s5 c := by
              simp only [s5]
              have : t = 0 ∨ t = 1 ∨ t = 2 ∨ t = 3 ∨ t = 4 := by omega
              rcases this with rfl | rfl | rfl | rfl | rfl <;> simp <;> omega
            have hIz : Inv n S sp ilz w (k + 1) (6 * p + t) (mkP (y.1 - 1) (pAc y) (upd (pTr y) k (nI t)) (upd (pFs y) t (pFs y t - 1)) (pSk y)) (fun u => if u = t then c t - 1 else c u) := by
              refine Inv_child hk (by omega) hI (fun j hj => ?_) ?_ (fun u hu => ?_) ?_ (Or.inr ⟨hw, hcan.2.2, (hil k hk).mpr hcan.2.1⟩)
              · rw [pTr_mkP, upd_ne _ _ (by omega), g4 j hj]
              · rw [pTr_mkP, upd_at]
              · rw [pFs_mkP]
                by_cases q : u = t
                · subst q
                  refine ⟨?_, ?_⟩
                  · rw [upd_at, efs]; simp
                  · simp; omega
                · refine ⟨?_, ?_⟩
                  · rw [upd_ne _ _ q, g3, (hI.2.1 u hu).1]; simp [q]
                  · have q2 : ¬ t = u := fun z => q z.symm
                    simp [q, q2]
              · rw [os_mkP, g2, hI.2.2.1]
                have o1 : (1 : Int32) = nI 1 := rfl
                rw [o1, pk_sub (by omega)]
                congr 1
                omega
            obtain ⟨f1, f2, f3, f4⟩ := ih (k + 1) (6 * p + t) _ _ _ (B + t * 6 ^ d) (by omega) hIz g1 (by omega)
            generalize pf n il kn sp py bo f w d (k + 1) (mkP (y.1 - 1) (pAc y) (upd (pTr y) k (nI t)) (upd (pFs y) t (pFs y t - 1)) (pSk y)) = z at f1 f2 f3 f4 ⊢
            rw [os_mkP] at f2
            rw [pFs_mkP] at f3
            refine ⟨?_, ?_, ?_, fun j hj => ?_⟩
            · rw [Nat.add_assoc] at f1
              exact f1
            · show z.1 + 1 = x.1
              rw [f2, ← g2]
              exact Int32.sub_add_cancel _ _
            · show upd (pFs z) t (pFs z t + 1) = pFs x
              rw [f3, upd_at, upd_upd, Int32.sub_add_cancel, upd_same, g3]
            · show pTr z j = pTr x j
              rw [f4 j (by omega), pTr_mkP, upd_ne _ _ (by omega), g4 j hj]
      obtain ⟨g1, g2, g3, g4⟩ := L 5 (Nat.le_refl _)
      generalize l5 (fun t => pinG (pf n il kn sp py bo f w d (k + 1)) (canT n il sp (nI k) (nI t)) k (nI t)) 5 x = y at g1 g2 g3 g4 ⊢
      have hI5 : Inv n S sp ilz w (k + 1) (6 * p + 5) (setT k y) c := by
        refine Inv_child hk (by omega) hI (fun j hj => ?_) ?_ (fun u hu => ⟨?_, ?_⟩) ?_ (Or.inl rfl)
        · show upd (pTr y) k 5 j = _
          rw [upd_ne _ _ (by omega), g4 j hj]
        · show upd (pTr y) k 5 k = _
          rw [upd_at]; rfl
        · show pFs y u = _
          rw [g3, (hI.2.1 u hu).1]
        · rw [if_neg (by omega), Nat.add_zero]
        · show y.1 = _
          rw [g2, hI.2.2.1]
      obtain ⟨f1, f2, f3, f4⟩ := ih (k + 1) (6 * p + 5) (setT k y) c _ (B + 5 * 6 ^ d) (by omega) hI5 g1 (by omega)
      have hbase : p * 6 ^ (d + 1) + 5 * 6 ^ d = (6 * p + 5) * 6 ^ d := by rw [hpow, Nat.add_mul, ← Nat.mul_assoc, Nat.mul_comm p 6]
      have hlen : 6 ^ (d + 1) = 5 * 6 ^ d + 6 ^ d := by rw [hpow]; omega
      refine ⟨?_, ?_, ?_, fun j hj => ?_⟩
      · rw [← hbase, ← foR_add, ← hlen, Nat.add_assoc, ← hlen] at f1
        exact f1
      · rw [f2]; show y.1 = _; rw [g2, hI.2.2.1]
      · rw [f3]; show pFs y = _; exact g3
      · rw [f4 j (by omega)]
        show upd (pTr y) k 5 j = _
        rw [upd_ne _ _ (by omega), g4 j hj]
    · rw [if_neg (fun z => h0 (hle.mp z))]
      refine ⟨?_, hI.2.2.1, rfl, fun j _ => rfl⟩
      rw [foR_id _ _ _ _ (fun m h1 h2 a => gid a m (no_team hn hS (by omega) hI (by omega) (by rw [hnk]; exact in_range (Nat.pow_pos (by omega)) h1 h2)))]
      exact RelA_mono hR (by omega)
end
section
/-! ===== the class and the reference side by side ===== -/
def Rel (n : Nat) (il se : Int32) (py bo fO so sd ilz bo' sd' : Nat → Int32) : Prop :=
  n ≤ 6 ∧ (∃ S, 1 ≤ S ∧ S ≤ 2 ∧ se = nI S) ∧ (∀ k, k < n → ∃ b, b ≤ 99 ∧ py k = nI b) ∧ (∀ j, j < 2 → inR (fO j) 0 31 = true) ∧
  (∃ b, b < 64 ∧ il = nI b) ∧ (∀ k, k < 6 → (ilz k = 0 ↔ hs il (nI k) = false)) ∧ (∀ k, n ≤ k → k < 6 → hs il (nI k) = false) ∧
  (∀ k, k < n → bo k = bo' k ∧ inB (bo k) 6 = true) ∧ (∀ k, n ≤ k → k < 6 → bo' k = 5) ∧
  (∀ h, h < 16 → so h = -1 ∨ sd h = sd' h) ∧ (∀ h, h < 16 → inR (sd' h) 0 9 = true)
theorem b_m32 : ∀ i, i < 32 → bt (-32) i = decide (5 ≤ i) := by decide +kernel
theorem b_31 : ∀ i, i < 32 → bt 31 i = decide (i < 5) := by decide +kernel
theorem m32_small : ∀ b, b < 32 → nI b &&& (-32) = 0 := by decide +kernel
theorem inR_32 (v : Int32) : inR v 0 31 = decide (v &&& (-32) = 0) := by
  by_cases h : v &&& (-32) = 0
  · have e : v = v &&& 31 := by
      apply b_ext
      intro i hi
      have h1 : bt (v &&& (-32)) i = false := by rw [h, b_0]
      rw [b_and, b_m32 i hi] at h1
      rw [b_and, b_31 i hi]
      by_cases h5 : i < 5
      · simp [h5]
      · have : 5 ≤ i := by omega
        simp [this] at h1
        simp [h1]
    obtain ⟨j, hj, ej⟩ := pk_andE v (m := 31) 5 (by decide)
    have ev : v = nI j := e.trans ej
    rw [decide_eq_true h]
    have h2 : inB v (nI (31 + 1)) = true := by rw [ev]; exact inB_nI (by omega) (by omega)
    have h3 : inR v 0 (nI 31) = true := by rw [inR_b (by omega)]; exact h2
    exact h3
  · rw [decide_eq_false h]
    cases hr : inR v 0 31
    · rfl
    · obtain ⟨b, hb, e⟩ := inR_31 hr
      exact absurd (by rw [e]; exact m32_small b hb) h
theorem le_not (a b : Int32) : decide (a ≤ b) = !decide (b < a) := by
  by_cases h : a ≤ b
  · rw [decide_eq_true h, decide_eq_false (Int32.not_lt.mpr h)]; rfl
  · rw [decide_eq_false h, decide_eq_true (Int32.not_le.mp h)]; rfl
theorem rOk_eq (a b v : Int32) : rOk a b v = pOk a b v := by
  rw [rOk, pOk, inR_32, inR_32, le_not]
  rfl
theorem inR_or (v l m a b : Int32) : (if inR v l m = true then a else b) = (if (v < l ∨ m < v) then b else a) := by
  unfold inR
  by_cases h1 : v < l
  · simp [h1]
  · by_cases h2 : m < v
    · simp [h2]
    · simp [h1, h2]
theorem inB_ex {v : Int32} {n : Nat} (hn : n < 2 ^ 31) (h : inB v (nI n) = true) : ∃ k, k < n ∧ v = nI k ∧ v.toNatClampNeg = k := by
  obtain ⟨k, hk, e⟩ := (inB_iff hn).mp h
  exact ⟨k, hk, e, by rw [e, nI_clamp (by omega)]⟩
theorem pOk_pay {a b v : Int32} (h : pOk a b v = true) : ∃ c, c ≤ 99 ∧ v = nI c := by
  simp only [pOk, Bool.and_eq_true, Bool.not_eq_true', decide_eq_true_eq, decide_eq_false_iff_not] at h
  have h0 : ¬ v < 0 := by
    intro q
    apply h.2.2.2.1
    rw [Int32.lt_iff_toInt_lt] at q ⊢
    have e0 : (0 : Int32).toInt = 0 := by decide
    have e1 : (1 : Int32).toInt = 1 := by decide
    omega
  have e9 : (99 : Int32) = nI 99 := rfl
  obtain ⟨j, hj, e⟩ := nI_of h0
  rw [e, e9, nI_leI hj (by omega)] at h
  exact ⟨j, h.2.2.2.2, e⟩
theorem o_person {n : Nat} {il se : Int32} {py bo fO so sd ilz bo' sd' : Nat → Int32} (a1 a2 a3 : Int32) (h : Rel n il se py bo fO so sd ilz bo' sd') : Rel (if (pOk a1 a2 a3 && decide (n < 6)) = true then n + 1 else n) il se (if (pOk a1 a2 a3 && decide (n < 6)) = true then upd py n a3 else py) (if (pOk a1 a2 a3 && decide (n < 6)) = true then upd bo n 5 else bo) fO so sd ilz bo' sd' := by
  by_cases hc : (pOk a1 a2 a3 && decide (n < 6)) = true
  · rw [if_pos hc, if_pos hc, if_pos hc]
    rw [Bool.and_eq_true, decide_eq_true_eq] at hc
    obtain ⟨h1, h2, h3, h4, h5, h6, h7, h8, h9, h10, h11⟩ := h
    refine ⟨by omega, h2, fun k hk => ?_, h4, h5, h6, fun k h1 h2 => h7 k (by omega) h2, fun k hk => ?_, fun k q1 q2 => h9 k (by omega) q2, h10, h11⟩
    · by_cases e : k = n
      · subst e; rw [upd_at]; exact pOk_pay hc.1
      · rw [upd_ne _ _ e]; exact h3 k (by omega)
    · by_cases e : k = n
      · subst e; rw [upd_at]; exact ⟨(h9 k (Nat.le_refl _) hc.2).symm, by decide⟩
      · rw [upd_ne _ _ e]; exact h8 k (by omega)
  · rw [if_neg hc, if_neg hc, if_neg hc]; exact h
theorem set64 : ∀ b, b < 64 → ∀ k, k < 6 → nI b ||| ((1 : Int32) <<< (nI k &&& 31)) = nI (b ||| 2 ^ k) ∧ b ||| 2 ^ k < 64 := by decide +kernel
theorem clr64 : ∀ b, b < 64 → ∀ k, k < 6 → nI b &&& (((1 : Int32) <<< (nI k &&& 31)) ^^^ (-1)) = nI (b &&& (63 - 2 ^ k)) ∧ b &&& (63 - 2 ^ k) < 64 := by decide +kernel
theorem nar0 : vp_nar .boolean 0 = 0 := by decide
theorem nar1 : vp_nar .boolean 1 = 1 := by decide
theorem o_ill {n : Nat} {il se : Int32} {py bo fO so sd ilz bo' sd' : Nat → Int32} (a1 a2 : Int32) (ha : a2 = 0 ∨ a2 = 1) (h : Rel n il se py bo fO so sd ilz bo' sd') : (if inB a1 (nI n) = true then bI (hs il a1) else (-2)) = (if inB a1 (nI n) = true then (if ilz a1.toNatClampNeg = 0 then 0 else 1) else (-2)) ∧ Rel n (if inB a1 (nI n) = true then (if a2 = 0 then il &&& (((1 : Int32) <<< (a1 &&& 31)) ^^^ (-1)) else il ||| ((1 : Int32) <<< (a1 &&& 31))) else il) se py bo fO so sd (if inB a1 (nI n) = true then upd ilz a1.toNatClampNeg (vp_nar .boolean a2) else ilz) bo' sd' := by
  obtain ⟨h1, h2, h3, h4, h5, h6, h7, h8, h9, h10, h11⟩ := h
  by_cases hc : inB a1 (nI n) = true
  · rw [if_pos hc, if_pos hc, if_pos hc, if_pos hc]
    obtain ⟨k, hk, e, ec⟩ := inB_ex (by omega) hc
    rw [ec, e]
    obtain ⟨b, hb, eb⟩ := h5
    constructor
    · by_cases q : ilz k = 0
      · rw [if_pos q, (h6 k (by omega)).mp q]; rfl
      · rw [if_neg q]
        cases q2 : hs il (nI k)
        · exact absurd ((h6 k (by omega)).mpr q2) q
        · rfl
    · rcases ha with rfl | rfl
      · rw [if_pos rfl, nar0]
        refine ⟨h1, h2, h3, h4, ?_, fun j hj => ?_, fun j q1 q2 => ?_, h8, h9, h10, h11⟩
        · rw [eb]; exact ⟨_, (clr64 b hb k (by omega)).2, (clr64 b hb k (by omega)).1⟩
        · rw [hs_clr _ (by omega) (by omega)]
          by_cases q : j = k
          · subst q; rw [upd_at]; simp
          · rw [upd_ne _ _ q]; simp [q]; exact h6 j hj
        · rw [hs_clr _ (by omega) (by omega), h7 j q1 q2]; rfl
      · rw [if_neg (by decide), nar1]
        refine ⟨h1, h2, h3, h4, ?_, fun j hj => ?_, fun j q1 q2 => ?_, h8, h9, h10, h11⟩
        · rw [eb]; exact ⟨_, (set64 b hb k (by omega)).2, (set64 b hb k (by omega)).1⟩
        · rw [hs_set _ (by omega) (by omega)]
          by_cases q : j = k
          · subst q; rw [upd_at]; simp
          · rw [upd_ne _ _ q]; simp [q]; exact h6 j hj
        · have : ¬ j = k := by omega
          rw [hs_set _ (by omega) (by omega), h7 j q1 q2]; simp [this]
  · rw [if_neg hc, if_neg hc, if_neg hc, if_neg hc]
    exact ⟨rfl, h1, h2, h3, h4, h5, h6, h7, h8, h9, h10, h11⟩
theorem o_session {n : Nat} {il se : Int32} {py bo fO so sd ilz bo' sd' : Nat → Int32} (a1 a2 a3 : Int32) (h : Rel n il se py bo fO so sd ilz bo' sd') : Rel n il se py bo (if (inB a1 2 && (decide (a2 &&& (-32) = 0) && decide (a3 &&& (-32) = 0))) = true then upd fO a1.toNatClampNeg a2 else fO) so sd ilz bo' sd' := by
  by_cases hc : (inB a1 2 && (decide (a2 &&& (-32) = 0) && decide (a3 &&& (-32) = 0))) = true
  · rw [if_pos hc]
    rw [Bool.and_eq_true, Bool.and_eq_true] at hc
    obtain ⟨h1, h2, h3, h4, h5⟩ := h
    refine ⟨h1, h2, h3, fun j hj => ?_, h5⟩
    by_cases e : j = a1.toNatClampNeg
    · subst e; rw [upd_at, inR_32]; exact hc.2.1
    · rw [upd_ne _ _ e]; exact h4 j hj
  · rw [if_neg hc]; exact h
theorem o_seats {n : Nat} {il se : Int32} {py bo fO so sd ilz bo' sd' : Nat → Int32} (a1 : Int32) (h : Rel n il se py bo fO so sd ilz bo' sd') : Rel n il (if (a1 < 1 ∨ 2 < a1) then se else a1) py bo fO so sd ilz bo' sd' := by
  by_cases hc : (a1 < 1 ∨ 2 < a1)
  · rw [if_pos hc]; exact h
  · rw [if_neg hc]
    obtain ⟨h1, h2, h3⟩ := h
    refine ⟨h1, ?_, h3⟩
    rw [not_or] at hc
    have h0 : ¬ a1 < 0 := by
      intro q
      apply hc.1
      rw [Int32.lt_iff_toInt_lt] at q ⊢
      have e0 : (0 : Int32).toInt = 0 := by decide
      have e1 : (1 : Int32).toInt = 1 := by decide
      omega
    obtain ⟨j, hj, e⟩ := nI_of h0
    have e1 : (1 : Int32) = nI 1 := rfl
    have e2 : (2 : Int32) = nI 2 := rfl
    rw [e, e1, e2, nI_ltI hj (by omega), nI_ltI (by omega) hj] at hc
    exact ⟨j, by omega, by omega, e⟩
theorem prF_at (fs : Nat → Int32) (w s : Int32) : ∀ m t, t < m → prF fs w s m t = if hs w (nI t) = true then s else 0 := by
  intro m
  induction m with
  | zero => intro t ht; omega
  | succ m ih =>
    intro t ht
    rw [prF]
    by_cases e : t = m
    · subst e; rw [upd_at]
    · rw [upd_ne _ _ e, ih t (by omega)]
theorem prO_5 (w : Int32) (S : Nat) : prO w (nI S) 5 = nI (s5 (fun t => if hs w (nI t) = true then S else 0)) := by
  have e : ∀ t, (if hs w (nI t) = true then nI S else (0 : Int32)) = nI (if hs w (nI t) = true then S else 0) := fun t => by
    by_cases q : hs w (nI t) = true
    · rw [if_pos q, if_pos q]
    · rw [if_neg q, if_neg q]; rfl
  simp only [prO, sI, e, s5]
  have z : (0 : Int32) = nI 0 := rfl
  rw [z, nI_add, nI_add, nI_add, nI_add, nI_add, Nat.zero_add]
theorem hs_63 : ∀ k, k < 6 → hs 63 (nI k) = true := by decide +kernel
theorem find_main {n : Nat} {il se : Int32} {kn sp py bo fO wI so sd ilz bo' sd' : Nat → Int32} (h : Rel n il se py bo fO so sd ilz bo' sd') {j : Nat} (hj : j < 2) (x : SS) (np : Int32) (cp nr ro : Nat → Int32) : RelA n (6 ^ n) (pAc (stG n il kn sp py bo (fO j) (wI j) se x)) (ftL n kn sp py ilz bo' (fO j) (wI j) se ((0, -1, -1, np, 63, cp, nr), ro) (6 ^ n)).1 := by
  obtain ⟨h1, ⟨S, hS1, hS2, eS⟩, h3, h4, h5, h6, h7, h8, h9, h10, h11⟩ := h
  subst eS
  have hI : Inv n S sp ilz (wI j) 0 0 (prO (wI j) (nI S) 5, 0, 0, -1, -1, -1, x.2.2.2.2.2.2.2.2.1, prF x.2.2.2.2.2.2.2.2.2.1 (wI j) (nI S) 5, x.2.2.2.2.2.2.2.2.2.2.1, x.2.2.2.2.2.2.2.2.2.2.2.1, x.2.2.2.2.2.2.2.2.2.2.2.2) (fun t => if hs (wI j) (nI t) = true then S else 0) := by
    refine ⟨fun m _ i hi => by omega, fun t ht => ⟨?_, by simp [cntR]⟩, prO_5 _ _, fun i hi => by omega⟩
    show prF x.2.2.2.2.2.2.2.2.2.1 (wI j) (nI S) 5 t = nI (if hs (wI j) (nI t) = true then S else 0)
    rw [prF_at _ _ _ 5 t ht]
    by_cases q : hs (wI j) (nI t) = true
    · rw [if_pos q, if_pos q]
    · rw [if_neg q, if_neg q]; rfl
  have hR : RelA n 0 (pAc (prO (wI j) (nI S) 5, 0, 0, -1, -1, -1, x.2.2.2.2.2.2.2.2.1, prF x.2.2.2.2.2.2.2.2.2.1 (wI j) (nI S) 5, x.2.2.2.2.2.2.2.2.2.2.1, x.2.2.2.2.2.2.2.2.2.2.2.1, x.2.2.2.2.2.2.2.2.2.2.2.2)) ((0, -1, -1, np, 63, cp, nr) : RA) := by
    refine ⟨0, Nat.le_refl _, rfl, rfl, rfl, rfl, fun _ => ⟨rfl, rfl⟩, fun q => absurd q (by omega), fun k hk => ?_⟩
    show hs 63 (nI k) = !hs 0 (nI k)
    rw [hs_63 k (by omega), hs_0]; rfl
  have main := (pf_sem (il := il) (kn := kn) h1 hS2 (h4 j hj) h3 (fun k hk => (h8 k hk).1) (fun k hk => h6 k (by omega)) n 0 0 _ _ _ 0 (Nat.zero_add n) hI hR (by have := pow6_lt h1; omega)).1
  rw [Nat.zero_add, Nat.zero_mul] at main
  rw [ftL_foR]
  exact main
theorem o_find {n : Nat} {il se : Int32} {kn sp py bo fO wI so sd ilz bo' sd' : Nat → Int32} (h : Rel n il se py bo fO so sd ilz bo' sd') {a : Int32} (ha : inB a 2 = true) (x : SS) (x' : FS) : ∃ c, c ≤ 6 ^ n ∧ (stF n il kn sp py bo fO wI se a x).2.2.2.1 = nI c ∧ (ftF n kn sp py ilz fO wI bo' se a x').1 = nI c ∧ (stF n il kn sp py bo fO wI se a x).2.2.2.2.2.1 = (ftF n kn sp py ilz fO wI bo' se a x').2.1 ∧ (stF n il kn sp py bo fO wI se a x).2.2.2.2.2.2.1 = (ftF n kn sp py ilz fO wI bo' se a x').2.2.1 ∧
    (0 < c → (stF n il kn sp py bo fO wI se a x).2.2.2.2.2.2.2.1 = (ftF n kn sp py ilz fO wI bo' se a x').2.2.2.1 ∧ ∀ j, j < n → (stF n il kn sp py bo fO wI se a x).2.2.2.2.2.2.2.2.2.2.2.1 j = (ftF n kn sp py ilz fO wI bo' se a x').2.2.2.2.2.2.1 j ∧ (stF n il kn sp py bo fO wI se a x).2.2.2.2.2.2.2.2.2.2.2.2 j = (ftF n kn sp py ilz fO wI bo' se a x').2.2.2.2.2.2.2 j ∧ inB ((stF n il kn sp py bo fO wI se a x).2.2.2.2.2.2.2.2.2.2.2.1 j) 6 = true ∧ inB ((stF n il kn sp py bo fO wI se a x).2.2.2.2.2.2.2.2.2.2.2.2 j) 6 = true) ∧
    (∀ k, k < n → hs (ftF n kn sp py ilz fO wI bo' se a x').2.2.2.2.1 (nI k) = !hs (stF n il kn sp py bo fO wI se a x).2.2.2.2.1 (nI k)) := by
  obtain ⟨j, hj, e, ec⟩ := inB_ex (n := 2) (by omega) ha
  have main := find_main (kn := kn) (sp := sp) (wI := wI) h hj x x'.2.2.2.1 x'.2.2.2.2.2.2.1 x'.2.2.2.2.2.2.2 x'.2.2.2.2.2.1
  have e1 : stF n il kn sp py bo fO wI se a x = ssO (fO j) (wI j) (stG n il kn sp py bo (fO j) (wI j) se x) := by rw [stF, if_pos ha, ec]
  have e2 : ftF n kn sp py ilz fO wI bo' se a x' = ftO (ftL n kn sp py ilz bo' (fO j) (wI j) se ((0, -1, -1, x'.2.2.2.1, 63, x'.2.2.2.2.2.2.1, x'.2.2.2.2.2.2.2), x'.2.2.2.2.2.1) (6 ^ n)) := by rw [ftF, ec]
  rw [e1, e2]
  generalize stG n il kn sp py bo (fO j) (wI j) se x = y at main ⊢
  generalize ftL n kn sp py ilz bo' (fO j) (wI j) se ((0, -1, -1, x'.2.2.2.1, 63, x'.2.2.2.2.2.2.1, x'.2.2.2.2.2.2.2), x'.2.2.2.2.2.1) (6 ^ n) = z at main ⊢
  obtain ⟨c, c1, c2, c3, c4, c5, c6, c7, c8⟩ := main
  exact ⟨c, c1, c2, c3, c4, c5, fun q => ⟨(c7 q).2.2.1, (c7 q).2.2.2⟩, c8⟩
end
section
theorem fo_0 {c : Nat} (hc : c < 2 ^ 31) : (nI c ≤ 0) ↔ c = 0 := by
  have z : (0 : Int32) = nI 0 := rfl
  rw [z, nI_leI hc (by omega)]; omega
theorem fo_z {c : Nat} (hc : c < 2 ^ 31) : (nI c = 0) ↔ c = 0 := by
  have z : (0 : Int32) = nI 0 := rfl
  rw [z, nI_eq hc (by omega)]
theorem o_needed {n : Nat} {il se : Int32} {kn sp py bo fO wI so sd ilz bo' sd' : Nat → Int32} (h : Rel n il se py bo fO so sd ilz bo' sd') (a1 a2 : Int32) (x : SS) (x' : FS) : (if (inB a1 (nI n) && inB a2 2) = true then bI (!decide ((stF n il kn sp py bo fO wI se a2 x).2.2.2.1 ≤ 0) && !hs ((stF n il kn sp py bo fO wI se a2 x).2.2.2.2.1) a1) else (-2)) = (if (inB a1 (nI n) && inB a2 2) = true then bI (!decide ((ftF n kn sp py ilz fO wI bo' se a2 x').1 ≤ 0) && hs ((ftF n kn sp py ilz fO wI bo' se a2 x').2.2.2.2.1) a1) else (-2)) := by
  by_cases hc : (inB a1 (nI n) && inB a2 2) = true
  · rw [if_pos hc, if_pos hc]
    rw [Bool.and_eq_true] at hc
    obtain ⟨k, hk, e, ec⟩ := inB_ex (by have := h.1; omega) hc.1
    obtain ⟨c, c1, c2, c3, c4, c5, c6, c7⟩ := o_find (kn := kn) (sp := sp) (wI := wI) h hc.2 x x'
    rw [e, c2, c3, c7 k hk]
  · rw [if_neg hc, if_neg hc]
theorem inR_01 (a : Int32) : (inR a 0 1 = true) ↔ (a = 0 ∨ a = 1) := by
  rw [inR_2]
  constructor
  · intro h
    obtain ⟨k, hk, e, _⟩ := inB_ex (n := 2) (by omega) h
    have : k = 0 ∨ k = 1 := by omega
    rcases this with rfl | rfl
    · exact Or.inl e
    · exact Or.inr e
  · rintro (rfl | rfl) <;> decide
theorem o_take {n : Nat} {il se : Int32} {kn sp py bo fO wI so sd ilz bo' sd' : Nat → Int32} (h : Rel n il se py bo fO so sd ilz bo' sd') (a1 a2 : Int32) (x : SS) (x' : FS) : tkR a1 a2 (stF n il kn sp py bo fO wI se a1 x) = rtR a1 a2 (ftF n kn sp py ilz fO wI bo' se a1 x') ∧ Rel n il se py (tkF a1 a2 (stF n il kn sp py bo fO wI se a1 x) x bo).2.2.2.2.2.2.2.2.2.2.2.2.2 fO so sd ilz (rtF n a1 a2 (ftF n kn sp py ilz fO wI bo' se a1 x') x' bo').2.2.2.2.2.1 sd' := by
  by_cases ha : inB a1 2 = true
  · by_cases hb : (a2 = 0 ∨ a2 = 1)
    · obtain ⟨c, c1, c2, c3, c4, c5, c6, c7⟩ := o_find (kn := kn) (sp := sp) (wI := wI) h ha x x'
      have hR1 : inR a1 0 1 = true := by rw [inR_2]; exact ha
      have hR2 : inR a2 0 1 = true := (inR_01 a2).mpr hb
      have hcb : c < 2 ^ 31 := by have := pow6_lt h.1; omega
      rw [tkR, rtR, tkF, rtF, if_pos ha, if_pos hb, if_pos hR1, if_pos hR2, if_pos (And.intro ha hb), if_pos (And.intro hR1 hR2), c2, c3]
      have hz := fo_z hcb
      rcases Nat.eq_zero_or_pos c with q | q
      · rw [if_pos (hz.mpr q), if_pos (hz.mpr q), if_pos (hz.mpr q), if_pos (hz.mpr q)]
        exact ⟨rfl, h⟩
      · have hnz : ¬ nI c = 0 := fun w => by have := hz.mp w; omega
        obtain ⟨d1, d2⟩ := c6 q
        obtain ⟨h1, h2, h3, h4, h5, h6, h7, h8, h9, h10, h11⟩ := h
        rw [if_neg hnz, if_neg hnz, if_neg hnz, if_neg hnz]
        by_cases q0 : a2 = 0
        · rw [if_pos q0, if_pos q0, if_pos q0, if_pos q0]
          refine ⟨c4, h1, h2, h3, h4, h5, h6, h7, fun k hk => ?_, fun k q1 q2 => ?_, h10, h11⟩
          · show va_cpy _ bo 0 0 6 k = fillN bo' n _ k ∧ inB (va_cpy _ bo 0 0 6 k) 6 = true
            rw [cpy6 _ _ (by omega), fillN, if_pos hk]
            exact ⟨(d2 k hk).1, (d2 k hk).2.2.1⟩
          · show fillN bo' n _ k = 5
            rw [fillN, if_neg (by omega)]; exact h9 k q1 q2
        · rw [if_neg q0, if_neg q0, if_neg q0, if_neg q0]
          refine ⟨d1, h1, h2, h3, h4, h5, h6, h7, fun k hk => ?_, fun k q1 q2 => ?_, h10, h11⟩
          · show va_cpy _ bo 0 0 6 k = fillN bo' n _ k ∧ inB (va_cpy _ bo 0 0 6 k) 6 = true
            rw [cpy6 _ _ (by omega), fillN, if_pos hk]
            exact ⟨(d2 k hk).2.1, (d2 k hk).2.2.2⟩
          · show fillN bo' n _ k = 5
            rw [fillN, if_neg (by omega)]; exact h9 k q1 q2
    · have hR1 : inR a1 0 1 = true := by rw [inR_2]; exact ha
      have hR2 : ¬ inR a2 0 1 = true := fun w => hb ((inR_01 a2).mp w)
      rw [tkR, rtR, tkF, rtF, if_pos ha, if_neg hb, if_pos hR1, if_neg hR2, if_neg (fun w : inB a1 2 = true ∧ (a2 = 0 ∨ a2 = 1) => hb w.2), if_neg (fun w : inR a1 0 1 = true ∧ inR a2 0 1 = true => hR2 w.2)]
      exact ⟨rfl, h⟩
  · have hR1 : ¬ inR a1 0 1 = true := fun w => ha (by rw [← inR_2]; exact w)
    rw [tkR, rtR, tkF, rtF, if_neg ha, if_neg hR1, if_neg (fun w : inB a1 2 = true ∧ (a2 = 0 ∨ a2 = 1) => ha w.1), if_neg (fun w : inR a1 0 1 = true ∧ inR a2 0 1 = true => hR1 w.1)]
    exact ⟨rfl, h⟩
theorem bo_5 {v : Int32} (h : inB v 6 = true) : bI (!decide (v = 5)) = (if v < 5 then 1 else 0) := by
  have := row5 h
  by_cases q : v = 5
  · have q2 : ¬ v < 5 := Int32.not_lt.mpr (this.mpr q)
    rw [if_neg q2, decide_eq_true q]; rfl
  · have q2 : v < 5 := Int32.not_le.mp (fun z => q (this.mp z))
    rw [if_pos q2, decide_eq_false q]; rfl
theorem o_seated {n : Nat} {il se : Int32} {py bo fO so sd ilz bo' sd' : Nat → Int32} (h : Rel n il se py bo fO so sd ilz bo' sd') : sI (fun k => bI (!decide (bo k = 5))) n = sI (fun k => if bo' k < 5 then 1 else 0) n := by
  obtain ⟨h1, h2, h3, h4, h5, h6, h7, h8, h9, h10, h11⟩ := h
  exact sI_congr (fun k hk => by rw [bo_5 (h8 k hk).2, (h8 k hk).1])
theorem o_leave {n : Nat} {il se : Int32} {py bo fO so sd ilz bo' sd' : Nat → Int32} (h : Rel n il se py bo fO so sd ilz bo' sd') : Rel n il se py (fillA bo 6 5) fO so sd ilz (fillA bo' 6 5) sd' := by
  obtain ⟨h1, h2, h3, h4, h5, h6, h7, h8, h9, h10, h11⟩ := h
  refine ⟨h1, h2, h3, h4, h5, h6, h7, fun k hk => ?_, fun k q1 q2 => ?_, h10, h11⟩
  · have : k < 6 := by omega
    simp only [fillA, if_pos this]
    exact ⟨trivial, by decide⟩
  · simp only [fillA, if_pos q2]
theorem o_booth {n : Nat} {il se : Int32} {py bo fO so sd ilz bo' sd' : Nat → Int32} (h : Rel n il se py bo fO so sd ilz bo' sd') (a1 : Int32) : (if inB a1 (nI n) = true then bo a1.toNatClampNeg else (-2)) = (if inB a1 (nI n) = true then bo' a1.toNatClampNeg else (-2)) := by
  by_cases hc : inB a1 (nI n) = true
  · rw [if_pos hc, if_pos hc]
    obtain ⟨k, hk, e, ec⟩ := inB_ex (by have := h.1; omega) hc
    obtain ⟨h1, h2, h3, h4, h5, h6, h7, h8, h9, h10, h11⟩ := h
    rw [ec, (h8 k hk).1]
  · rw [if_neg hc, if_neg hc]
theorem o_lacking {n : Nat} {il se : Int32} {sp py bo fO so sd ilz bo' sd' : Nat → Int32} (h : Rel n il se py bo fO so sd ilz bo' sd') (w : Int32) : ∀ m, lcF n il sp w se m = rlF n ilz sp w se m := by
  obtain ⟨h1, h2, h3, h4, h5, h6, h7, h8, h9, h10, h11⟩ := h
  have e : ∀ t, sI (fun j => bI (canT n il sp (nI j) t)) n = rlC n ilz sp t n := fun t => sI_congr (fun j hj => by
    have ej : (nI j).toNatClampNeg = j := nI_clamp (by omega)
    rw [canT, inB_nI hj (by omega), ej, Bool.true_and]
    by_cases q : ilz j = 0
    · rw [(h6 j (by omega)).mp q, decide_eq_true q]; rfl
    · have q2 : hs il (nI j) = true := by
        cases q3 : hs il (nI j)
        · exact absurd ((h6 j (by omega)).mpr q3) q
        · rfl
      rw [q2, decide_eq_false q]; rfl)
  intro m
  induction m with
  | zero => rfl
  | succ m ih =>
    rw [lcF, rlF, ih, e]
    by_cases q : (hs w (nI m) && !decide (se ≤ rlC n ilz sp (nI m) n)) = true
    · rw [if_pos q, if_pos q]
    · rw [if_neg q, if_neg q, Int32.or_zero]
theorem btC_64 : ∀ b, b < 64 → btC (nI b) = sI (fun k => bI (hs (nI b) (nI k))) 6 := by decide +kernel
theorem sI_ext (f : Nat → Int32) {n : Nat} : ∀ m, n ≤ m → (∀ k, n ≤ k → k < m → f k = 0) → sI f m = sI f n := by
  intro m
  induction m with
  | zero => intro h _; have : n = 0 := by omega
            subst this; rfl
  | succ m ih =>
    intro h hz
    by_cases e : n = m + 1
    · subst e; rfl
    · rw [sI, ih (by omega) (fun k q1 q2 => hz k q1 (by omega)), hz m (by omega) (by omega), Int32.add_zero]
theorem o_count {n : Nat} {il se : Int32} {py bo fO so sd ilz bo' sd' : Nat → Int32} (h : Rel n il se py bo fO so sd ilz bo' sd') (a1 : Int32) : coR n il bo so se a1 = rcO n ilz bo' so se a1 := by
  have e2 := o_seated h
  obtain ⟨h1, h2, h3, h4, ⟨b, hb, eb⟩, h6, h7, h8, h9, h10, h11⟩ := h
  have e1 : btC il = sI (fun k => if ilz k = 0 then 0 else 1) n := by
    rw [eb, btC_64 b hb]
    have e3 : sI (fun k => bI (hs (nI b) (nI k))) 6 = sI (fun k => bI (hs (nI b) (nI k))) n := sI_ext _ 6 h1 (fun k q1 q2 => by
      have := h7 k q1 q2
      rw [eb] at this
      show bI (hs (nI b) (nI k)) = 0
      rw [this]; rfl)
    rw [e3]
    exact sI_congr (fun k hk => by
      by_cases q : ilz k = 0
      · have := (h6 k (by omega)).mp q
        rw [eb] at this
        rw [this, if_pos q]; rfl
      · rw [if_neg q]
        cases q3 : hs (nI b) (nI k)
        · exact absurd ((h6 k (by omega)).mpr (by rw [eb]; exact q3)) q
        · rfl)
  rw [coR, rcO, e1, e2]
theorem o_speak {n : Nat} {il se : Int32} {py bo fO so sd ilz bo' sd' : Nat → Int32} (h : Rel n il se py bo fO so sd ilz bo' sd') (a1 a2 a3 : Int32) : Rel n il se py bo fO (if (inB a1 16 && (inB a2 5 && (!decide (a3 < 1) && !decide (9 < a3)))) = true then upd so a1.toNatClampNeg a2 else so) (if (inB a1 16 && (inB a2 5 && (!decide (a3 < 1) && !decide (9 < a3)))) = true then upd sd a1.toNatClampNeg a3 else sd) ilz bo' (if (inB a1 16 && (inB a2 5 && (!decide (a3 < 1) && !decide (9 < a3)))) = true then upd sd' a1.toNatClampNeg a3 else sd') := by
  by_cases hc : (inB a1 16 && (inB a2 5 && (!decide (a3 < 1) && !decide (9 < a3)))) = true
  · rw [if_pos hc, if_pos hc, if_pos hc]
    simp only [Bool.and_eq_true, Bool.not_eq_true', decide_eq_false_iff_not] at hc
    obtain ⟨h1, h2, h3, h4, h5, h6, h7, h8, h9, h10, h11⟩ := h
    refine ⟨h1, h2, h3, h4, h5, h6, h7, h8, h9, fun k hk => ?_, fun k hk => ?_⟩
    · by_cases e : k = a1.toNatClampNeg
      · subst e; right; rw [upd_at, upd_at]
      · rw [upd_ne _ _ e, upd_ne _ _ e, upd_ne _ _ e]; exact h10 k hk
    · by_cases e : k = a1.toNatClampNeg
      · subst e
        rw [upd_at, inR]
        have q1 : ¬ a3 < 0 := by
          intro q
          apply hc.2.2.1
          rw [Int32.lt_iff_toInt_lt] at q ⊢
          have e0 : (0 : Int32).toInt = 0 := by decide
          have e1 : (1 : Int32).toInt = 1 := by decide
          omega
        simp [q1, hc.2.2.2]
      · rw [upd_ne _ _ e]; exact h11 k hk
  · rw [if_neg hc, if_neg hc, if_neg hc]; exact h
theorem o_silence {n : Nat} {il se : Int32} {py bo fO so sd ilz bo' sd' : Nat → Int32} (h : Rel n il se py bo fO so sd ilz bo' sd') (a1 : Int32) : Rel n il se py bo fO (if inB a1 16 = true then upd so a1.toNatClampNeg (-1) else so) (if inB a1 16 = true then upd sd a1.toNatClampNeg 0 else sd) ilz bo' sd' := by
  by_cases hc : inB a1 16 = true
  · rw [if_pos hc, if_pos hc]
    obtain ⟨h1, h2, h3, h4, h5, h6, h7, h8, h9, h10, h11⟩ := h
    refine ⟨h1, h2, h3, h4, h5, h6, h7, h8, h9, fun k hk => ?_, h11⟩
    by_cases e : k = a1.toNatClampNeg
    · subst e; left; rw [upd_at]
    · rw [upd_ne _ _ e, upd_ne _ _ e]; exact h10 k hk
  · rw [if_neg hc, if_neg hc]; exact h
/-! ===== the day ===== -/
theorem heF_at (n : Nat) (kn on : Nat → Int32) (f : Int32) (he : Nat → Int32) : ∀ m t, t < m → heF n kn on f he m t = wyF n kn on f (nI t) := by
  intro m
  induction m with
  | zero => intro t ht; omega
  | succ m ih =>
    intro t ht
    rw [heF]
    by_cases e : t = m
    · subst e; rw [upd_at]
    · rw [upd_ne _ _ e, ih t (by omega)]
theorem wyL_congr {c c' : Nat → Bool} : ∀ d r, (∀ i, i < r + d → c i = c' i) → wyL c d r = wyL c' d r := by
  intro d
  induction d with
  | zero => intro r _; rfl
  | succ d ih => intro r h; rw [wyL, wyL, h r (by omega), ih (r + 1) (fun i hi => h i (by omega))]
theorem wyF_congr {n : Nat} {kn on on' : Nat → Int32} {f : Int32} (h : ∀ t, t < 5 → on t = on' t) {t : Nat} (ht : t < 5) : wyF n kn on f (nI t) = wyF n kn on' f (nI t) := by
  have ec : (nI t).toNatClampNeg = t := nI_clamp (by omega)
  have hc : ∀ K, wyL (wyC n kn on f (nI t) K) 5 0 = wyL (wyC n kn on' f (nI t) K) 5 0 := fun K => wyL_congr 5 0 (fun i hi => by unfold wyC; rw [h i (by omega)])
  rw [wyF, wyF, ec, h t ht, hc]
theorem chO_congr {n : Nat} {bo bo' ti ti' on on' : Nat → Int32} (hn : n ≤ 6) (hb : ∀ k, k < n → bo k = bo' k) (hti : ∀ k, k < n → ti k = ti' k) : ∀ k, k ≤ n → ∀ t, t < 5 → chO n bo ti on k t = chO n bo' ti' on' k t := by
  intro k
  induction k with
  | zero => intro _ t ht; simp [chO, fillA, ht]
  | succ k ih =>
    intro hk t ht
    rw [chO_step n bo ti on hn (by omega) ht, chO_step n bo' ti' on' hn (by omega) ht, ← ih (by omega) t ht, hb k (by omega), hti k (by omega)]
    rcases chO_val n bo ti on hn k (by omega) t ht with q | ⟨j, h1, h2, h3⟩
    · rw [q]; simp
    · rw [h2, nI_clamp (by omega), hti j (by omega)]
theorem tuF_congr {n : Nat} {bo bo' on on' he he' : Nat → Int32} (hb : ∀ k, k < n → bo k = bo' k) (hn : n ≤ 6) (ho : ∀ t, t < 5 → on t = on' t) (hh : ∀ t, t < 5 → he t = he' t) {k : Nat} (hk : k < n) : tuF n bo on he (nI k) = tuF n bo' on' he' (nI k) := by
  rw [tuF, tuF, atP_nI hk (by omega), atP_nI hk (by omega), hb k hk]
  cases hi : inB (bo' k) 5
  · rfl
  · obtain ⟨t, ht, e, ec⟩ := inB_ex (n := 5) (by omega) hi
    rw [ec, ho t ht, hh t ht]
theorem tuF_heard {n : Nat} {bo on he : Nat → Int32} {k : Nat} (h : tuF n bo on he (nI k) = true) : ∃ t, t < 5 ∧ ¬ he t = -1 := by
  rw [tuF, Bool.and_eq_true, Bool.and_eq_true] at h
  obtain ⟨t, ht, e, ec⟩ := inB_ex (n := 5) (by omega) h.1
  rw [ec] at h
  exact ⟨t, ht, by simpa using h.2.2⟩
/-- the two days agree -/
def Ag (h : Nat) (x x' : DS) : Prop := (∀ k, k < 6 → x.1 k = x'.1 k) ∧ (0 < h → ∀ t, t < 5 → x.2.1 t = x'.2.1 t ∧ x.2.2 t = x'.2.2 t)
theorem plG_ag {n : Nat} {kn bo bo' : Nat → Int32} {f w w' : Int32} {x x' : DS} {h : Nat} (hn : n ≤ 6) (hb : ∀ k, k < n → bo k = bo' k) (hw : f = -1 ∨ w = w') (ha : Ag h x x') : Ag (h + 1) (plG n kn bo f w x) (plG n kn bo' f w' x') := by
  have e1 : ∀ t, t < 5 → chO n bo x.1 x.2.1 n t = chO n bo' x'.1 x'.2.1 n t := chO_congr hn hb (fun k hk => ha.1 k (by omega)) n (Nat.le_refl _)
  have e2 : ∀ t, t < 5 → heF n kn (chO n bo x.1 x.2.1 n) f x.2.2 5 t = heF n kn (chO n bo' x'.1 x'.2.1 n) f x'.2.2 5 t := fun t ht => by
    rw [heF_at _ _ _ _ _ 5 t ht, heF_at _ _ _ _ _ 5 t ht, wyF_congr e1 ht]
  refine ⟨fun k hk => ?_, fun _ t ht => ⟨e1 t ht, e2 t ht⟩⟩
  show tiF n bo _ _ w x.1 n k = tiF n bo' _ _ w' x'.1 n k
  rw [tiF_eq, tiF_eq]
  by_cases q : k < n
  · simp only [fillN, if_pos q, tiV]
    rw [tuF_congr hb hn e1 e2 q, ha.1 k hk]
    by_cases q2 : tuF n bo' (chO n bo' x'.1 x'.2.1 n) (heF n kn (chO n bo' x'.1 x'.2.1 n) f x'.2.2 5) (nI k) = true
    · rw [if_pos q2, if_pos q2]
      rcases hw with q3 | q3
      · obtain ⟨t, ht, hne⟩ := tuF_heard q2
        rw [heF_at _ _ _ _ _ 5 t ht, wyF, if_pos q3] at hne
        exact absurd rfl hne
      · rw [q3]
    · rw [if_neg q2, if_neg q2]
  · simp only [fillN, if_neg q]
    exact ha.1 k hk
theorem plT_ag {n : Nat} {il se : Int32} {kn py bo fO so sd ilz bo' sd' : Nat → Int32} (hR : Rel n il se py bo fO so sd ilz bo' sd') (x x' : DS) : ∀ h, h ≤ 16 → Ag h (plT n kn bo so sd x h) (plT n kn bo' so sd' x' h) := by
  obtain ⟨h1, h2, h3, h4, h5, h6, h7, h8, h9, h10, h11⟩ := hR
  intro h
  induction h with
  | zero => intro _; exact ⟨fun k hk => by simp [plT, fillA, hk], fun q => absurd q (by omega)⟩
  | succ h ih =>
    intro hh
    have i16 : inB (nI h) 16 = true := inB_nI (n := 16) (by omega) (by omega)
    have ec : (nI h).toNatClampNeg = h := nI_clamp (by omega)
    rw [plT, plT, plH, plH, if_pos i16, if_pos i16, ec]
    exact plG_ag h1 (fun k hk => (h8 k hk).1) (h10 h (by omega)) (ih (by omega))
theorem he_silent (n : Nat) (kn bo so sd : Nat → Int32) (x : DS) {h t : Nat} (hh : h < 16) (ht : t < 5) (hs : so h = -1) : (plT n kn bo so sd x (h + 1)).2.2 t = -1 := by
  have i16 : inB (nI h) 16 = true := inB_nI (n := 16) hh (by omega)
  have ec : (nI h).toNatClampNeg = h := nI_clamp (by omega)
  rw [plT, plH, if_pos i16, ec]
  show heF n kn _ (so h) _ 5 t = -1
  rw [heF_at _ _ _ _ _ 5 t ht, wyF, if_pos hs]
theorem laO_ag {n : Nat} {il se : Int32} {kn py bo fO so sd ilz bo' sd' : Nat → Int32} (hR : Rel n il se py bo fO so sd ilz bo' sd') (x x' : DS) {t : Nat} (ht : t < 5) : ∀ h, h ≤ 16 → laO n kn bo so sd x (nI t) h = laO n kn bo' so sd' x' (nI t) h := by
  have et : (nI t).toNatClampNeg = t := nI_clamp (by omega)
  intro h
  induction h with
  | zero => intro _; rfl
  | succ h ih =>
    intro hh
    have ag := plT_ag (kn := kn) hR x x' (h + 1) hh
    have eh : (nI h).toNatClampNeg = h := nI_clamp (by omega)
    rw [laO, laO, ih (by omega)]
    congr 1
    rw [laF, laF, et, eh, (ag.2 (by omega) t ht).2]
    obtain ⟨h1, h2, h3, h4, h5, h6, h7, h8, h9, h10, h11⟩ := hR
    rcases h10 h (by omega) with q | q
    · rw [he_silent n kn bo' so sd' x' (by omega) ht q, if_pos rfl, if_pos rfl]
    · rw [q]
theorem taF_congr {ti ti' : Nat → Int32} {a : Int32} : ∀ {n : Nat}, (∀ k, k < n → ti k = ti' k) → taF ti a n = taF ti' a n := by
  intro n
  induction n with
  | zero => intro _; rfl
  | succ n ih => intro h; rw [taF, taF, ih (fun k hk => h k (by omega)), h n (by omega)]
theorem woO_ag {n : Nat} {il se : Int32} {kn py bo fO so sd ilz bo' sd' : Nat → Int32} (hR : Rel n il se py bo fO so sd ilz bo' sd') (x x' : DS) (a : Int32) : ∀ h, h ≤ 16 → woO n kn bo so sd x a h = woO n kn bo' so sd' x' a h := by
  intro h
  induction h with
  | zero => intro _; rfl
  | succ h ih =>
    intro hh
    have ag := plT_ag (kn := kn) hR x x' (h + 1) hh
    have h1 := hR.1
    rw [woO, woO, ih (by omega), taF_congr (fun k hk => ag.1 k (by omega))]
theorem o_on {n : Nat} {il se li : Int32} {kn py bo fO so sd ilz bo' sd' la : Nat → Int32} (hR : Rel n il se py bo fO so sd ilz bo' sd') (x x' : DS) (a1 a2 : Int32) : (if (inB a1 5 && inB a2 16) = true then (plT n kn bo so sd x (a2.toNatClampNeg + 1)).2.1 a1.toNatClampNeg else (-2)) = (if (inB a1 5 && inB a2 16) = true then (gtF n kn bo' so sd' li x' la (a2.toNatClampNeg + 1)).2.2.1 a1.toNatClampNeg else (-2)) := by
  by_cases hc : (inB a1 5 && inB a2 16) = true
  · rw [if_pos hc, if_pos hc]
    rw [Bool.and_eq_true] at hc
    obtain ⟨t, ht, e, ec⟩ := inB_ex (n := 5) (by omega) hc.1
    obtain ⟨h, hh, e2, ec2⟩ := inB_ex (n := 16) (by omega) hc.2
    rw [ec, ec2]
    exact ((plT_ag (kn := kn) hR x x' (h + 1) (by omega)).2 (by omega) t ht).1
  · rw [if_neg hc, if_neg hc]
theorem o_heard {n : Nat} {il se li : Int32} {kn py bo fO so sd ilz bo' sd' la : Nat → Int32} (hR : Rel n il se py bo fO so sd ilz bo' sd') (x x' : DS) (a1 a2 : Int32) : (if (inB a1 5 && inB a2 16) = true then (plT n kn bo so sd x (a2.toNatClampNeg + 1)).2.2 a1.toNatClampNeg else (-2)) = (if (inB a1 5 && inB a2 16) = true then (gtF n kn bo' so sd' li x' la (a2.toNatClampNeg + 1)).2.2.2.1 a1.toNatClampNeg else (-2)) := by
  by_cases hc : (inB a1 5 && inB a2 16) = true
  · rw [if_pos hc, if_pos hc]
    rw [Bool.and_eq_true] at hc
    obtain ⟨t, ht, e, ec⟩ := inB_ex (n := 5) (by omega) hc.1
    obtain ⟨h, hh, e2, ec2⟩ := inB_ex (n := 16) (by omega) hc.2
    rw [ec, ec2]
    exact ((plT_ag (kn := kn) hR x x' (h + 1) (by omega)).2 (by omega) t ht).2
  · rw [if_neg hc, if_neg hc]
theorem o_tired {n : Nat} {il se li : Int32} {kn py bo fO so sd ilz bo' sd' la : Nat → Int32} (hR : Rel n il se py bo fO so sd ilz bo' sd') (x x' : DS) (a1 a2 : Int32) : (if (inB a1 (nI n) && inB a2 16) = true then (plT n kn bo so sd x (a2.toNatClampNeg + 1)).1 a1.toNatClampNeg else (-2)) = (if (inB a1 (nI n) && inB a2 16) = true then (gtF n kn bo' so sd' li x' la (a2.toNatClampNeg + 1)).2.1 a1.toNatClampNeg else (-2)) := by
  have hn := hR.1
  by_cases hc : (inB a1 (nI n) && inB a2 16) = true
  · rw [if_pos hc, if_pos hc]
    rw [Bool.and_eq_true] at hc
    obtain ⟨t, ht, e, ec⟩ := inB_ex (by omega) hc.1
    obtain ⟨h, hh, e2, ec2⟩ := inB_ex (n := 16) (by omega) hc.2
    rw [ec, ec2]
    exact (plT_ag (kn := kn) hR x x' (h + 1) (by omega)).1 t (by omega)
  · rw [if_neg hc, if_neg hc]
theorem o_late {n : Nat} {il se li : Int32} {kn py bo fO so sd ilz bo' sd' la : Nat → Int32} (hR : Rel n il se py bo fO so sd ilz bo' sd') (x x' : DS) (a1 : Int32) : (if inB a1 5 = true then laO n kn bo so sd x a1 16 else (-2)) = (if inB a1 5 = true then (gtF n kn bo' so sd' li x' la 16).2.2.2.2 a1.toNatClampNeg else (-2)) := by
  by_cases hc : inB a1 5 = true
  · rw [if_pos hc, if_pos hc]
    obtain ⟨t, ht, e, ec⟩ := inB_ex (n := 5) (by omega) hc
    rw [ec, e]
    show _ = fillN la 5 (fun t => laO n kn bo' so sd' x' (nI t) 16) t
    rw [fillN, if_pos ht]
    exact laO_ag hR x x' ht 16 (Nat.le_refl _)
  · rw [if_neg hc, if_neg hc]
theorem o_worn {n : Nat} {il se li : Int32} {kn py bo fO so sd ilz bo' sd' la : Nat → Int32} (hR : Rel n il se py bo fO so sd ilz bo' sd') (x x' : DS) : woO n kn bo so sd x li 16 = (gtF n kn bo' so sd' li x' la 16).1 := woO_ag hR x x' li 16 (Nat.le_refl _)
theorem z16 : ∀ h, h < 16 → inR ((fun _ => (0 : Int32)) h) 0 9 = true := fun _ _ => (by decide : inR 0 0 9 = true)
theorem Rel_0 : Rel 0 0 1 (fun _ => 0) (fun _ => 0) (fun _ => 0) (fillA (fun _ => 0) 16 (-1)) (fun _ => 0) (fun _ => 0) (fillA (fun _ => 0) 6 5) (fun _ => 0) := by
  refine ⟨by omega, ⟨1, by omega, by omega, rfl⟩, fun k hk => by omega, fun j _ => (by decide : inR 0 0 31 = true), ⟨0, by omega, rfl⟩, fun k _ => ⟨fun _ => hs_0 _, fun _ => rfl⟩, fun k _ _ => hs_0 _, fun k hk => by omega, fun k _ hk => by simp [fillA, hk], fun h hh => Or.inr rfl, z16⟩
end
