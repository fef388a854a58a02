section
/-! pure words -/
def bI (b : Bool) : Int32 := if b = true then 1 else 0
def hs (x k : Int32) : Bool := decide ((x >>> (k &&& 31)) &&& 1 = 1)
def inN (v : Int32) (n : Nat) : Bool := decide (0 ≤ v) && decide (v < nI n)
def sI (f : Nat → Int32) : Nat → Int32
  | 0 => 0
  | k + 1 => sI f k + f k
theorem bI_nar (b : Bool) : narrow .boolean (.int (bI b)) = .int (bI b) := by cases b <;> rfl
theorem bI_t : bI true = 1 := rfl
theorem bI_f : bI false = 0 := rfl
theorem bI_0 (b : Bool) : bI b = 0 ↔ b = false := by cases b <;> decide
theorem bI_1 (b : Bool) : bI b = 1 ↔ b = true := by cases b <;> decide
/-! the pure words of the contracts: people -/
def inB (v m : Int32) : Bool := !decide (v < 0) && !decide (m ≤ v)
def fillA (f : Nat → Int32) (N : Nat) (v : Int32) : Nat → Int32 := fun j => if j < N then v else f j
def atP (n : Nat) (f : Nat → Int32) (z v : Int32) : Int32 := if inB v (nI n) = true then f v.toNatClampNeg else z
def canT (n : Nat) (il : Int32) (sp : Nat → Int32) (v t : Int32) : Bool := inB v (nI n) && (!hs il v && hs (sp v.toNatClampNeg) t)
theorem up_ind (P : Nat → Prop) (n : Nat) (h0 : P n) (hs : ∀ k, k < n → P (k + 1) → P k) : P 0 := by
  have key : ∀ d k, k + d = n → P k := by
    intro d
    induction d with
    | zero => intro k hk; have : k = n := by omega
              subst this; exact h0
    | succ d ih => intro k hk; exact hs k (by omega) (ih (k + 1) (by omega))
  exact key n 0 (by omega)
theorem inB_iff {v : Int32} {n : Nat} (hn : n < 2 ^ 31) : inB v (nI n) = true ↔ ∃ k, k < n ∧ v = nI k := by
  constructor
  · intro h
    simp only [inB, Bool.and_eq_true, Bool.not_eq_true', decide_eq_false_iff_not] at h
    obtain ⟨j, hj, rfl⟩ := nI_of h.1
    exact ⟨j, by
      rcases Nat.lt_or_ge j n with q | q
      · exact q
      · exact absurd (nI_le q hj) h.2, rfl⟩
  · rintro ⟨k, hk, rfl⟩
    simp only [inB, Bool.and_eq_true, Bool.not_eq_true', decide_eq_false_iff_not]
    exact ⟨nI_pos (by omega), nI_ge hk hn⟩
theorem inB_nI {k n : Nat} (h : k < n) (hn : n < 2 ^ 31) : inB (nI k) (nI n) = true := (inB_iff hn).mpr ⟨k, h, rfl⟩
theorem atP_nI {k n : Nat} {f : Nat → Int32} {z : Int32} (h : k < n) (hn : n < 2 ^ 31) : atP n f z (nI k) = f k := by
  rw [atP, inB_nI h hn, if_pos rfl, nI_clamp (by omega)]
theorem inB_in {v : Int32} {n N : Nat} (h : inB v (nI n) = true) (hn : n ≤ N) (hN : N < 2 ^ 31) : vp_in v N := by
  obtain ⟨k, hk, rfl⟩ := (inB_iff (by omega)).mp h
  exact vp_in_nI (by omega) hN
theorem bI_n0 (b : Bool) : ¬ bI b = 0 ↔ b = true := by cases b <;> decide
end
section
/-! the pure words of the contracts: the search -/
def prO (w s : Int32) : Nat → Int32 := sI (fun k => if hs w (nI k) = true then s else 0)
def prF (fs : Nat → Int32) (w s : Int32) : Nat → Nat → Int32
  | 0 => fs
  | k + 1 => upd (prF fs w s k) k (if hs w (nI k) = true then s else 0)
def shK (kn tr sk : Nat → Int32) : Nat → Nat → Int32
  | 0 => fillA sk 5 31
  | k + 1 => if inB (tr k) 5 = true then upd (shK kn tr sk k) (tr k).toNatClampNeg (shK kn tr sk k (tr k).toNatClampNeg &&& kn k) else shK kn tr sk k
def rcC (wa : Int32) (sk : Nat → Int32) (t : Int32) (k : Nat) : Bool := !decide (nI k = t) && (hs wa (nI k) && hs (sk t.toNatClampNeg) (nI k))
def rch (wa : Int32) (sk : Nat → Int32) (t : Int32) : Nat → Int32
  | 0 => sk t.toNatClampNeg ||| ((1 : Int32) <<< (t &&& 31))
  | k + 1 => if rcC wa sk t k = true then rch wa sk t k ||| sk k else rch wa sk t k
def rcF (fl wa : Int32) (sk : Nat → Int32) (t : Int32) : Bool := decide (fl &&& (rch wa sk t 5 ^^^ (-1)) = 0)
def kcC (fo lp v : Int32) : Bool := decide (fo = 0) || !decide (lp ≤ v)
def knC (fo fm pn mv v : Int32) : Bool := decide (fo = 0) || (decide (mv < fm) || (decide (mv = fm) && !decide (pn ≤ v)))
abbrev Acc : Type := Int32 × Int32 × Int32 × Int32 × Int32 × (Nat → Int32) × (Nat → Int32)
def paS (py tr : Nat → Int32) : Nat → Int32 := sI (fun k => if tr k = 5 then 0 else py k)
def mvS (bo tr : Nat → Int32) : Nat → Int32 := sI (fun k => if tr k = bo k then 0 else 1)
def sbS (tr : Nat → Int32) (sb : Int32) : Nat → Int32
  | 0 => sb
  | k + 1 => if tr k = 5 then sbS tr sb k ||| ((1 : Int32) <<< (nI k &&& 31)) else sbS tr sb k
def wgA (n : Nat) (py bo tr : Nat → Int32) (a : Acc) : Acc := (a.1 + 1, sbS tr a.2.1 n, (if kcC a.1 a.2.2.1 (paS py tr n) = true then paS py tr n else a.2.2.1), (if knC a.1 a.2.2.2.1 a.2.2.2.2.1 (mvS bo tr n) (paS py tr n) = true then mvS bo tr n else a.2.2.2.1), (if knC a.1 a.2.2.2.1 a.2.2.2.2.1 (mvS bo tr n) (paS py tr n) = true then paS py tr n else a.2.2.2.2.1), (if kcC a.1 a.2.2.1 (paS py tr n) = true then va_cpy tr a.2.2.2.2.2.1 0 0 6 else a.2.2.2.2.2.1), (if knC a.1 a.2.2.2.1 a.2.2.2.2.1 (mvS bo tr n) (paS py tr n) = true then va_cpy tr a.2.2.2.2.2.2 0 0 6 else a.2.2.2.2.2.2))
def alR (fl wa : Int32) (sk : Nat → Int32) : Nat → Bool
  | 0 => true
  | k + 1 => alR fl wa sk k && (!hs wa (nI k) || rcF fl wa sk (nI k))
def wwA (n : Nat) (kn py bo : Nat → Int32) (fl wa : Int32) (sk tr : Nat → Int32) (a : Acc) : Acc := if alR fl wa (shK kn tr sk n) 5 = true then wgA n py bo tr a else a
theorem alR_step {fl wa : Int32} {sk : Nat → Int32} {k : Nat} (h : alR fl wa sk (k + 1) = false) : ∀ j, k < j → alR fl wa sk j = false := by
  intro j hj
  induction j with
  | zero => omega
  | succ j ih =>
    by_cases e : j = k
    · subst e; exact h
    · simp [alR, ih (by omega)]
def wwB (n : Nat) (kn py bo : Nat → Int32) (fl wa : Int32) (sk tr : Nat → Int32) (a : Acc) : Int32 × Int32 × Int32 × Int32 × Int32 × (Nat → Int32) × (Nat → Int32) × (Nat → Int32) := ((wwA n kn py bo fl wa sk tr a).1, (wwA n kn py bo fl wa sk tr a).2.1, (wwA n kn py bo fl wa sk tr a).2.2.1, (wwA n kn py bo fl wa sk tr a).2.2.2.1, (wwA n kn py bo fl wa sk tr a).2.2.2.2.1, shK kn tr sk n, (wwA n kn py bo fl wa sk tr a).2.2.2.2.2.1, (wwA n kn py bo fl wa sk tr a).2.2.2.2.2.2)
/-- os fo sb lp fm pn tr fs sk ct nt -/
abbrev PS : Type := Int32 × Int32 × Int32 × Int32 × Int32 × Int32 × (Nat → Int32) × (Nat → Int32) × (Nat → Int32) × (Nat → Int32) × (Nat → Int32)
def pTr (x : PS) : Nat → Int32 := x.2.2.2.2.2.2.1
def pFs (x : PS) : Nat → Int32 := x.2.2.2.2.2.2.2.1
def pSk (x : PS) : Nat → Int32 := x.2.2.2.2.2.2.2.2.1
def pAc (x : PS) : Acc := (x.2.1, x.2.2.1, x.2.2.2.1, x.2.2.2.2.1, x.2.2.2.2.2.1, x.2.2.2.2.2.2.2.2.2.1, x.2.2.2.2.2.2.2.2.2.2)
def mkP (os : Int32) (a : Acc) (tr fs sk : Nat → Int32) : PS := (os, a.1, a.2.1, a.2.2.1, a.2.2.2.1, a.2.2.2.2.1, tr, fs, sk, a.2.2.2.2.2.1, a.2.2.2.2.2.2)
def wwP (n : Nat) (kn py bo : Nat → Int32) (fl wa : Int32) (x : PS) : PS := mkP x.1 (wwA n kn py bo fl wa (pSk x) (pTr x) (pAc x)) (pTr x) (pFs x) (shK kn (pTr x) (pSk x) n)
def pinG (g : PS → PS) (can : Bool) (k : Nat) (t : Int32) (x : PS) : PS := if (decide (pFs x t.toNatClampNeg = 0) || !can) = true then x else
  (fun y : PS => mkP (y.1 + 1) (pAc y) (pTr y) (upd (pFs y) t.toNatClampNeg (pFs y t.toNatClampNeg + 1)) (pSk y)) (g (mkP (x.1 - 1) (pAc x) (upd (pTr x) k t) (upd (pFs x) t.toNatClampNeg (pFs x t.toNatClampNeg - 1)) (pSk x)))
def l5 (f : Nat → PS → PS) : Nat → PS → PS
  | 0, x => x
  | t + 1, x => f t (l5 f t x)
def setT (k : Nat) (x : PS) : PS := mkP x.1 (pAc x) (upd (pTr x) k 5) (pFs x) (pSk x)
def pf (n : Nat) (il : Int32) (kn sp py bo : Nat → Int32) (fl wa : Int32) : Nat → Nat → PS → PS
  | 0, k, x => if x.1 ≤ nI n - nI k then wwP n kn py bo fl wa x else x
  | d + 1, k, x => if x.1 ≤ nI n - nI k then pf n il kn sp py bo fl wa d (k + 1) (setT k (l5 (fun t => pinG (pf n il kn sp py bo fl wa d (k + 1)) (canT n il sp (nI k) (nI t)) k (nI t)) 5 x)) else x
def piF (n : Nat) (il : Int32) (kn sp py bo : Nat → Int32) (fl wa : Int32) (d k : Nat) (t : Int32) (x : PS) : PS := pinG (pf n il kn sp py bo fl wa (d - 1) (k + 1)) (canT n il sp (nI k) t) k t x
abbrev rF (d : Nat) : Room := { frames := 8 * d + 20, cells := 0, slots := 0, locals := 200 * d + 600 }
end
section
/-! the pure words of the contracts: the day -/
def silF (so : Nat → Int32) (h : Int32) : Bool := !inB h 16 || decide (so h.toNatClampNeg = -1)
def frF (n : Nat) (ti : Nat → Int32) (a b : Int32) : Bool := !inB b (nI n) || !decide (ti b.toNatClampNeg ≤ ti a.toNatClampNeg)
def chO (n : Nat) (bo ti on : Nat → Int32) : Nat → Nat → Int32
  | 0 => fillA on 5 (-1)
  | k + 1 => if (inB (bo k) 5 && frF n ti (nI k) (chO n bo ti on k (bo k).toNatClampNeg)) = true then upd (chO n bo ti on k) (bo k).toNatClampNeg (nI k) else chO n bo ti on k
def wyC (n : Nat) (kn on : Nat → Int32) (f t kt : Int32) (r : Nat) : Bool := !decide (nI r = f) && (!decide (nI r = t) && (hs kt (nI r) && hs (atP n kn 0 (on r)) f))
def wyL (c : Nat → Bool) : Nat → Nat → Int32
  | 0, _ => -1
  | d + 1, r => if c r = true then nI r else wyL c d (r + 1)
def wyF (n : Nat) (kn on : Nat → Int32) (f t : Int32) : Int32 := if f = -1 then -1 else if f = t then -1 else if on t.toNatClampNeg = -1 then -1 else if hs (atP n kn 0 (on t.toNatClampNeg)) f = true then t else wyL (wyC n kn on f t (atP n kn 0 (on t.toNatClampNeg))) 5 0
def tuF (n : Nat) (bo on he : Nat → Int32) (v : Int32) : Bool := inB (atP n bo 5 v) 5 && (decide (on (atP n bo 5 v).toNatClampNeg = v) && !decide (he (atP n bo 5 v).toNatClampNeg = -1))
def tiF (n : Nat) (bo on he : Nat → Int32) (w : Int32) (ti : Nat → Int32) : Nat → Nat → Int32
  | 0 => ti
  | k + 1 => upd (tiF n bo on he w ti k) k (if tuF n bo on he (nI k) = true then tiF n bo on he w ti k k + w else (if (0 : Int32) < tiF n bo on he w ti k k - 2 then tiF n bo on he w ti k k - 2 else 0))
def laF (sd he : Nat → Int32) (h t : Int32) : Int32 := if (inB h 16 && inB t 5) = true then (if he t.toNatClampNeg = -1 then 0 else if he t.toNatClampNeg = t then (if sd h.toNatClampNeg ≤ 5 then 1 else 2) else 2 * (if sd h.toNatClampNeg ≤ 5 then 1 else 2) + 1) else 0
def taF (ti : Nat → Int32) (a : Int32) : Nat → Int32
  | 0 => 0
  | k + 1 => if ti k ≤ a then taF ti a k else taF ti a k ||| ((1 : Int32) <<< (nI k &&& 31))
abbrev DS : Type := (Nat → Int32) × (Nat → Int32) × (Nat → Int32)
def heF (n : Nat) (kn on : Nat → Int32) (f : Int32) (he : Nat → Int32) : Nat → Nat → Int32
  | 0 => he
  | k + 1 => upd (heF n kn on f he k) k (wyF n kn on f (nI k))
def plG (n : Nat) (kn bo : Nat → Int32) (f w : Int32) (x : DS) : DS := (tiF n bo (chO n bo x.1 x.2.1 n) (heF n kn (chO n bo x.1 x.2.1 n) f x.2.2 5) w x.1 n, chO n bo x.1 x.2.1 n, heF n kn (chO n bo x.1 x.2.1 n) f x.2.2 5)
def plH (n : Nat) (kn bo so sd : Nat → Int32) (h : Int32) (x : DS) : DS := if inB h 16 = true then plG n kn bo (so h.toNatClampNeg) (sd h.toNatClampNeg) x else x
def plT (n : Nat) (kn bo so sd : Nat → Int32) (x : DS) : Nat → DS
  | 0 => (fillA x.1 6 0, x.2.1, x.2.2)
  | k + 1 => plH n kn bo so sd (nI k) (plT n kn bo so sd x k)
def laO (n : Nat) (kn bo so sd : Nat → Int32) (x : DS) (t : Int32) : Nat → Int32
  | 0 => 0
  | k + 1 => laO n kn bo so sd x t k + laF sd (plT n kn bo so sd x (k + 1)).2.2 (nI k) t
def woO (n : Nat) (kn bo so sd : Nat → Int32) (x : DS) (a : Int32) : Nat → Int32
  | 0 => 0
  | k + 1 => woO n kn bo so sd x a k ||| taF (plT n kn bo so sd x (k + 1)).1 a n
end
section
/-! the pure words of the contracts: the class's own -/
def bt1 (x : Int32) : Int32 := x - (((x.toUInt32 >>> ((1 : Int32).toUInt32 &&& Int32.toUInt32 31)).toInt32) &&& 1431655765)
def bt2 (x : Int32) : Int32 := (x &&& 858993459) + (((x.toUInt32 >>> ((2 : Int32).toUInt32 &&& Int32.toUInt32 31)).toInt32) &&& 858993459)
def bt3 (x : Int32) : Int32 := (x + ((x.toUInt32 >>> ((4 : Int32).toUInt32 &&& Int32.toUInt32 31)).toInt32)) &&& 252645135
def bt4 (x : Int32) : Int32 := x + ((x.toUInt32 >>> ((8 : Int32).toUInt32 &&& Int32.toUInt32 31)).toInt32)
def bt5 (x : Int32) : Int32 := x + ((x.toUInt32 >>> ((16 : Int32).toUInt32 &&& Int32.toUInt32 31)).toInt32)
def btC (x : Int32) : Int32 := bt5 (bt4 (bt3 (bt2 (bt1 x)))) &&& 63
/-- os fl wa fo sb lp fm pn tr fs sk ct nt -/
abbrev SS : Type := Int32 × Int32 × Int32 × Int32 × Int32 × Int32 × Int32 × Int32 × (Nat → Int32) × (Nat → Int32) × (Nat → Int32) × (Nat → Int32) × (Nat → Int32)
def ssO (f w : Int32) (y : PS) : SS := (y.1, f, w, y.2.1, y.2.2.1, y.2.2.2.1, y.2.2.2.2.1, y.2.2.2.2.2.1, y.2.2.2.2.2.2.1, y.2.2.2.2.2.2.2.1, y.2.2.2.2.2.2.2.2.1, y.2.2.2.2.2.2.2.2.2.1, y.2.2.2.2.2.2.2.2.2.2)
def stG (n : Nat) (il : Int32) (kn sp py bo : Nat → Int32) (f w se : Int32) (x : SS) : PS := pf n il kn sp py bo f w n 0 (prO w se 5, 0, 0, -1, -1, -1, x.2.2.2.2.2.2.2.2.1, prF x.2.2.2.2.2.2.2.2.2.1 w se 5, x.2.2.2.2.2.2.2.2.2.2.1, x.2.2.2.2.2.2.2.2.2.2.2.1, x.2.2.2.2.2.2.2.2.2.2.2.2)
def stF (n : Nat) (il : Int32) (kn sp py bo fO wI : Nat → Int32) (se a : Int32) (x : SS) : SS := if inB a 2 = true then ssO (fO a.toNatClampNeg) (wI a.toNatClampNeg) (stG n il kn sp py bo (fO a.toNatClampNeg) (wI a.toNatClampNeg) se x) else x
def pOk (k s v : Int32) : Bool := decide (k &&& (-32) = 0) && (decide (s &&& (-32) = 0) && (decide (s &&& (k ^^^ (-1)) = 0) && (!decide (v < 1) && decide (v ≤ 99))))
def tkR (a1 a2 : Int32) (y : SS) : Int32 := if inB a1 2 = true then (if (a2 = 0 ∨ a2 = 1) then (if y.2.2.2.1 = 0 then -4 else if a2 = 0 then y.2.2.2.2.2.1 else y.2.2.2.2.2.2.2.1) else -3) else -2
def tkF (a1 a2 : Int32) (y x : SS) (bo : Nat → Int32) : Int32 × Int32 × Int32 × Int32 × Int32 × Int32 × Int32 × Int32 × (Nat → Int32) × (Nat → Int32) × (Nat → Int32) × (Nat → Int32) × (Nat → Int32) × (Nat → Int32) :=
  if (inB a1 2 = true ∧ (a2 = 0 ∨ a2 = 1)) then (y.1, y.2.1, y.2.2.1, y.2.2.2.1, y.2.2.2.2.1, y.2.2.2.2.2.1, y.2.2.2.2.2.2.1, y.2.2.2.2.2.2.2.1, y.2.2.2.2.2.2.2.2.1, y.2.2.2.2.2.2.2.2.2.1, y.2.2.2.2.2.2.2.2.2.2.1, y.2.2.2.2.2.2.2.2.2.2.2.1, y.2.2.2.2.2.2.2.2.2.2.2.2, (if y.2.2.2.1 = 0 then bo else if a2 = 0 then va_cpy y.2.2.2.2.2.2.2.2.2.2.2.1 bo 0 0 6 else va_cpy y.2.2.2.2.2.2.2.2.2.2.2.2 bo 0 0 6))
  else (x.1, x.2.1, x.2.2.1, x.2.2.2.1, x.2.2.2.2.1, x.2.2.2.2.2.1, x.2.2.2.2.2.2.1, x.2.2.2.2.2.2.2.1, x.2.2.2.2.2.2.2.2.1, x.2.2.2.2.2.2.2.2.2.1, x.2.2.2.2.2.2.2.2.2.2.1, x.2.2.2.2.2.2.2.2.2.2.2.1, x.2.2.2.2.2.2.2.2.2.2.2.2, bo)
def lcF (n : Nat) (il : Int32) (sp : Nat → Int32) (w se : Int32) : Nat → Int32
  | 0 => 0
  | k + 1 => if (hs w (nI k) && !decide (se ≤ sI (fun j => bI (canT n il sp (nI j) (nI k))) n)) = true then lcF n il sp w se k ||| ((1 : Int32) <<< (nI k &&& 31)) else lcF n il sp w se k
def coR (n : Nat) (il : Int32) (bo so : Nat → Int32) (se a : Int32) : Int32 := if a = 0 then nI n else if a = 1 then btC il else if a = 2 then sI (fun k => bI (!decide (bo k = 5))) n else if a = 3 then sI (fun k => bI (!decide (so k = -1))) 16 else if a = 4 then se else -3
end
section
/-! the pure words of the contracts: the reference -/
def inR (v l m : Int32) : Bool := !decide (v < l) && !decide (m < v)
def rOk (k s v : Int32) : Bool := inR k 0 31 && (inR s 0 31 && (decide (s &&& (k ^^^ (-1)) = 0) && inR v 1 99))
def fillN (f : Nat → Int32) (N : Nat) (g : Nat → Int32) : Nat → Int32 := fun j => if j < N then g j else f j
def akF (kn ro : Nat → Int32) (t f : Int32) : Nat → Bool
  | 0 => true
  | k + 1 => akF kn ro t f k && (!decide (ro k = t) || hs (kn k) f)
def itA (sp il : Nat → Int32) (w : Int32) (ro : Nat → Int32) : Nat → Bool
  | 0 => true
  | k + 1 => itA sp il w ro k && (decide (ro k = 5) || (hs w (ro k) && (hs (sp k) (ro k) && decide (il k = 0))))
def cnT (ro : Nat → Int32) (t : Int32) : Nat → Int32 := sI (fun k => if ro k = t then 1 else 0)
def itB (n : Nat) (w se : Int32) (ro : Nat → Int32) : Nat → Bool
  | 0 => true
  | t + 1 => itB n w se ro t && (!hs w (nI t) || decide (cnT ro (nI t) n = se))
def itF (n : Nat) (sp il : Nat → Int32) (w se : Int32) (ro : Nat → Int32) : Bool := itA sp il w ro n && itB n w se ro 5
def iwC (n : Nat) (kn : Nat → Int32) (w : Int32) (ro : Nat → Int32) (f t : Int32) (r : Nat) : Bool := hs w (nI r) && (!decide (nI r = f) && (!decide (nI r = t) && (akF kn ro t (nI r) n && akF kn ro (nI r) f n)))
def iwR (n : Nat) (kn : Nat → Int32) (w : Int32) (ro : Nat → Int32) (f t : Int32) : Nat → Bool
  | 0 => akF kn ro t f n
  | r + 1 => iwR n kn w ro f t r || iwC n kn w ro f t r
def iwT (n : Nat) (kn : Nat → Int32) (fl w : Int32) (ro : Nat → Int32) (f : Int32) (b : Bool) : Nat → Bool
  | 0 => b
  | t + 1 => iwT n kn fl w ro f b t && (!(hs fl f && (hs w (nI t) && !decide (nI t = f))) || iwR n kn w ro f (nI t) 5)
def iwL (n : Nat) (kn : Nat → Int32) (fl w : Int32) (ro : Nat → Int32) : Nat → Bool
  | 0 => true
  | f + 1 => iwT n kn fl w ro (nI f) (iwL n kn fl w ro f) 5
def iwF (n : Nat) (kn : Nat → Int32) (fl w : Int32) (ro : Nat → Int32) : Bool := iwL n kn fl w ro 5
theorem itA_no {sp il : Nat → Int32} {w : Int32} {ro : Nat → Int32} {k : Nat} (h : itA sp il w ro k = false) : ∀ j, k ≤ j → itA sp il w ro j = false := by
  intro j hj
  induction j with
  | zero => have : k = 0 := by omega
            subst this; exact h
  | succ j ih =>
    by_cases e : k = j + 1
    · subst e; exact h
    · simp [itA, ih (by omega)]
theorem itB_no {n : Nat} {w se : Int32} {ro : Nat → Int32} {k : Nat} (h : itB n w se ro k = false) : ∀ j, k ≤ j → itB n w se ro j = false := by
  intro j hj
  induction j with
  | zero => have : k = 0 := by omega
            subst this; exact h
  | succ j ih =>
    by_cases e : k = j + 1
    · subst e; exact h
    · simp [itB, ih (by omega)]
theorem inR_p {v : Int32} {n : Nat} (hn : n ≤ 6) : inR v 0 (nI n - 1) = inB v (nI n) := by
  have key : ∀ v : Int32, ¬ v < 0 → (decide (nI n - 1 < v) = decide (nI n ≤ v)) := by
    intro v hv
    obtain ⟨j, hj, rfl⟩ := nI_of hv
    have h0 : nI n - 1 < nI j ↔ nI n ≤ nI j := by
      cases n with
      | zero =>
        constructor
        · intro _; exact nI_le (Nat.zero_le _) hj
        · intro _
          have e : nI 0 - 1 = (-1 : Int32) := by decide
          rw [e]
          have h1 : ¬ nI j < 0 := nI_pos hj
          rw [Int32.lt_iff_toInt_lt, nI_toInt hj]
          have : (-1 : Int32).toInt = -1 := by decide
          omega
      | succ m =>
        rw [nI_pred, nI_ltI (by omega) hj, nI_leI (by omega) hj]
        omega
    by_cases h : nI n ≤ nI j
    · rw [decide_eq_true h, decide_eq_true (h0.mpr h)]
    · rw [decide_eq_false h, decide_eq_false (fun q => h (h0.mp q))]
  unfold inR inB
  by_cases hv : v < 0
  · simp [hv]
  · rw [key v hv]
theorem inR_b {v : Int32} {m : Nat} (hm : m < 100) : inR v 0 (nI m) = inB v (nI (m + 1)) := by
  have key : ∀ v : Int32, ¬ v < 0 → (decide (nI m < v) = decide (nI (m + 1) ≤ v)) := by
    intro v hv
    obtain ⟨j, hj, rfl⟩ := nI_of hv
    have h0 : nI m < nI j ↔ nI (m + 1) ≤ nI j := by
      rw [nI_ltI (by omega) hj, nI_leI (by omega) hj]; omega
    by_cases h : nI (m + 1) ≤ nI j
    · rw [decide_eq_true h, decide_eq_true (h0.mpr h)]
    · rw [decide_eq_false h, decide_eq_false (fun q => h (h0.mp q))]
  unfold inR inB
  by_cases hv : v < 0
  · simp [hv]
  · rw [key v hv]
def rlC (n : Nat) (il sp : Nat → Int32) (t : Int32) : Nat → Int32 := sI (fun k => if (decide (il k = 0) && hs (sp k) t) = true then 1 else 0)
def rlF (n : Nat) (il sp : Nat → Int32) (w se : Int32) : Nat → Int32
  | 0 => 0
  | k + 1 => rlF n il sp w se k ||| (if (hs w (nI k) && !decide (se ≤ rlC n il sp (nI k) n)) = true then ((1 : Int32) <<< (nI k &&& 31)) else 0)
/-- wm ch ne np al cp nr -/
abbrev RA : Type := Int32 × Int32 × Int32 × Int32 × Int32 × (Nat → Int32) × (Nat → Int32)
def rpS (py ro : Nat → Int32) : Nat → Int32 := sI (fun k => if 5 ≤ ro k then 0 else py k)
def rmS (bo ro : Nat → Int32) : Nat → Int32 := sI (fun k => if ro k = bo k then 0 else 1)
def raL (ro : Nat → Int32) (al : Int32) : Nat → Int32
  | 0 => al
  | k + 1 => if 5 ≤ ro k then raL ro al k &&& (((1 : Int32) <<< (nI k &&& 31)) ^^^ (-1)) else raL ro al k
def rcB (ch v : Int32) : Bool := decide (ch = -1) || !decide (ch ≤ v)
def rnB (ne np mv v : Int32) : Bool := decide (ne = -1) || (decide (mv < ne) || (decide (mv = ne) && !decide (np ≤ v)))
def rA (n : Nat) (py bo ro : Nat → Int32) (a : RA) : RA := (a.1 + 1, (if rcB a.2.1 (rpS py ro n) = true then rpS py ro n else a.2.1), (if rnB a.2.2.1 a.2.2.2.1 (rmS bo ro n) (rpS py ro n) = true then rmS bo ro n else a.2.2.1), (if rnB a.2.2.1 a.2.2.2.1 (rmS bo ro n) (rpS py ro n) = true then rpS py ro n else a.2.2.2.1), raL ro a.2.2.2.2.1 n, (if rcB a.2.1 (rpS py ro n) = true then fillN a.2.2.2.2.2.1 n ro else a.2.2.2.2.2.1), (if rnB a.2.2.1 a.2.2.2.1 (rmS bo ro n) (rpS py ro n) = true then fillN a.2.2.2.2.2.2 n ro else a.2.2.2.2.2.2))
def rowD : Nat → Nat → (Nat → Int32) → Nat → Int32
  | 0, _, ro => ro
  | j + 1, l, ro => rowD j (l / 6) (upd ro j (nI (l % 6)))
/-- the rows of numbers 0 .. m-1, one behind another: what was found, and the row -/
def ftL (n : Nat) (kn sp py il bo : Nat → Int32) (f w se : Int32) (x : RA × (Nat → Int32)) : Nat → RA × (Nat → Int32)
  | 0 => x
  | m + 1 => (fun y : RA × (Nat → Int32) => ((if (itF n sp il w se (rowD n m y.2) && iwF n kn f w (rowD n m y.2)) = true then rA n py bo (rowD n m y.2) y.1 else y.1), rowD n m y.2)) (ftL n kn sp py il bo f w se x m)
abbrev FS : Type := Int32 × Int32 × Int32 × Int32 × Int32 × (Nat → Int32) × (Nat → Int32) × (Nat → Int32)
def ftO (y : RA × (Nat → Int32)) : FS := (y.1.1, y.1.2.1, y.1.2.2.1, y.1.2.2.2.1, y.1.2.2.2.2.1, y.2, y.1.2.2.2.2.2.1, y.1.2.2.2.2.2.2)
def ftF (n : Nat) (kn sp py il fl wa bo : Nat → Int32) (se a : Int32) (x : FS) : FS := ftO (ftL n kn sp py il bo (fl a.toNatClampNeg) (wa a.toNatClampNeg) se ((0, -1, -1, x.2.2.2.1, 63, x.2.2.2.2.2.2.1, x.2.2.2.2.2.2.2), x.2.2.2.2.2.1) (6 ^ n))
def rtR (a1 a2 : Int32) (y : FS) : Int32 := if inR a1 0 1 = true then (if inR a2 0 1 = true then (if y.1 = 0 then -4 else if a2 = 0 then y.2.1 else y.2.2.2.1) else -3) else -2
def rtF (n : Nat) (a1 a2 : Int32) (y x : FS) (bo : Nat → Int32) : Int32 × Int32 × Int32 × Int32 × Int32 × (Nat → Int32) × (Nat → Int32) × (Nat → Int32) × (Nat → Int32) :=
  if (inR a1 0 1 = true ∧ inR a2 0 1 = true) then (y.1, y.2.1, y.2.2.1, y.2.2.2.1, y.2.2.2.2.1, (if y.1 = 0 then bo else if a2 = 0 then fillN bo n y.2.2.2.2.2.2.1 else fillN bo n y.2.2.2.2.2.2.2), y.2.2.2.2.2.1, y.2.2.2.2.2.2.1, y.2.2.2.2.2.2.2)
  else (x.1, x.2.1, x.2.2.1, x.2.2.2.1, x.2.2.2.2.1, bo, x.2.2.2.2.2.1, x.2.2.2.2.2.2.1, x.2.2.2.2.2.2.2)
theorem upd_same (f : Nat → Int32) (k : Nat) : upd f k (f k) = f := by
  funext j
  by_cases h : j = k
  · subst h; simp [upd]
  · simp [upd, h]
theorem fillN_succ (f g : Nat → Int32) (k : Nat) : upd (fillN f k g) k (g k) = fillN f (k + 1) g := by
  funext j
  simp only [upd, fillN]
  by_cases h1 : j = k
  · subst h1; simp
  · have h2 : (j < k + 1) = (j < k) := by apply propext; omega
    simp [h1, h2]
theorem fillN_0 (f g : Nat → Int32) : fillN f 0 g = f := by funext j; simp [fillN]
theorem pow6_lt {n : Nat} (h : n ≤ 6) : 6 ^ n < 2 ^ 30 := by
  have : n = 0 ∨ n = 1 ∨ n = 2 ∨ n = 3 ∨ n = 4 ∨ n = 5 ∨ n = 6 := by omega
  rcases this with rfl | rfl | rfl | rfl | rfl | rfl | rfl <;> decide
theorem inR_2 (v : Int32) : inR v 0 1 = inB v 2 := inR_b (m := 1) (by omega)
theorem inR_5 (v : Int32) : inR v 0 4 = inB v 5 := inR_b (m := 4) (by omega)
theorem inR_16 (v : Int32) : inR v 0 15 = inB v 16 := inR_b (m := 15) (by omega)
end
section
def v_X3_holds_0 (post : Int32 → (Unit) → Prop) (a0 : Int32) (a1 : Int32) : Prop := ((((a0 >>> (a1 &&& 31)) &&& (1 : Int32)) = (1 : Int32) → post (1 : Int32) ()) ∧ (¬ ((a0 >>> (a1 &&& 31)) &&& (1 : Int32)) = (1 : Int32) → post (0 : Int32) ()))
def v_X3_isSession_0 (post : Int32 → (Unit) → Prop) (a0 : Int32) : Prop := ((a0 < 0 → post (0 : Int32) ()) ∧ (¬ a0 < 0 → (((2 : Int32) ≤ a0 → post (0 : Int32) ()) ∧ (¬ (2 : Int32) ≤ a0 → post (1 : Int32) ()))))
def v_X3_isTongue_0 (post : Int32 → (Unit) → Prop) (a0 : Int32) : Prop := ((a0 < 0 → post (0 : Int32) ()) ∧ (¬ a0 < 0 → (((5 : Int32) ≤ a0 → post (0 : Int32) ()) ∧ (¬ (5 : Int32) ≤ a0 → post (1 : Int32) ()))))
def v_X3_isHalf_0 (post : Int32 → (Unit) → Prop) (a0 : Int32) : Prop := ((a0 < 0 → post (0 : Int32) ()) ∧ (¬ a0 < 0 → (((16 : Int32) ≤ a0 → post (0 : Int32) ()) ∧ (¬ (16 : Int32) ≤ a0 → post (1 : Int32) ()))))
def v_X3_areTongues_0 (post : Int32 → (Unit) → Prop) (a0 : Int32) : Prop := (((a0 &&& (-32 : Int32)) = 0 → post (1 : Int32) ()) ∧ (¬ (a0 &&& (-32 : Int32)) = 0 → post (0 : Int32) ()))
def v_J7_fill_53178_0 (N : Nat) (post : ((Nat → Int32)) → Prop) (K5 : Int32 → Int32 → Int32 → (Nat → Int32) → Prop) (a1 : Int32) (f : Nat → Int32) : Prop := K5 a1 (0 : Int32) (Int32.ofNat N) f
def v_J7_fill_53178_5 (N : Nat) (post : ((Nat → Int32)) → Prop) (K5 : Int32 → Int32 → Int32 → (Nat → Int32) → Prop) (x1 : Int32) (x2 : Int32) (x3 : Int32) (f_ : Nat → Int32) : Prop := ((x3 ≤ x2 → post f_) ∧ (¬ x3 ≤ x2 → (vp_in x2 N ∧ K5 x1 (x2 + 1) x3 (upd f_ x2.toNatClampNeg x1))))
def v_X1_has_0 (n : Nat) (il : Int32) (kn : Nat → Int32) (sp : Nat → Int32) (py : Nat → Int32) (bo : Nat → Int32) (post : Int32 → (Unit) → Prop) (a1 : Int32) : Prop := ((a1 < 0 → post (0 : Int32) ()) ∧ (¬ a1 < 0 → (((nI n) ≤ a1 → post (0 : Int32) ()) ∧ (¬ (nI n) ≤ a1 → post (1 : Int32) ()))))
def v_X1_isIll_0 (n : Nat) (il : Int32) (kn : Nat → Int32) (sp : Nat → Int32) (py : Nat → Int32) (bo : Nat → Int32) (post : Int32 → (Unit) → Prop) (a1 : Int32) : Prop := post (bI (hs il a1)) ()
def v_X1_payOf_0 (n : Nat) (il : Int32) (kn : Nat → Int32) (sp : Nat → Int32) (py : Nat → Int32) (bo : Nat → Int32) (post : Int32 → (Unit) → Prop) (a1 : Int32) : Prop := (((bI (inB a1 (nI n))) = 0 → post (0 : Int32) ()) ∧ (¬ (bI (inB a1 (nI n))) = 0 → (vp_in a1 6 ∧ post (py a1.toNatClampNeg) ())))
def v_X1_knownBy_0 (n : Nat) (il : Int32) (kn : Nat → Int32) (sp : Nat → Int32) (py : Nat → Int32) (bo : Nat → Int32) (post : Int32 → (Unit) → Prop) (a1 : Int32) : Prop := (((bI (inB a1 (nI n))) = 0 → post (0 : Int32) ()) ∧ (¬ (bI (inB a1 (nI n))) = 0 → (vp_in a1 6 ∧ post (kn a1.toNatClampNeg) ())))
def v_X1_boothOf_0 (n : Nat) (il : Int32) (kn : Nat → Int32) (sp : Nat → Int32) (py : Nat → Int32) (bo : Nat → Int32) (post : Int32 → (Unit) → Prop) (a1 : Int32) : Prop := (((bI (inB a1 (nI n))) = 0 → post (5 : Int32) ()) ∧ (¬ (bI (inB a1 (nI n))) = 0 → (vp_in a1 6 ∧ post (bo a1.toNatClampNeg) ())))
def v_X1_canTurnInto_0 (n : Nat) (il : Int32) (kn : Nat → Int32) (sp : Nat → Int32) (py : Nat → Int32) (bo : Nat → Int32) (post : Int32 → (Unit) → Prop) (a1 : Int32) (a2 : Int32) : Prop := (((bI (inB a1 (nI n))) = 0 → post (0 : Int32) ()) ∧ (¬ (bI (inB a1 (nI n))) = 0 → (((bI (hs il a1)) = 0 → (vp_in a1 6 ∧ (((bI (hs (sp a1.toNatClampNeg) a2)) = 0 → post (0 : Int32) ()) ∧ (¬ (bI (hs (sp a1.toNatClampNeg) a2)) = 0 → post (1 : Int32) ())))) ∧ (¬ (bI (hs il a1)) = 0 → post (0 : Int32) ()))))
def v_X1_ableToTurnInto_0 (n : Nat) (il : Int32) (kn : Nat → Int32) (sp : Nat → Int32) (py : Nat → Int32) (bo : Nat → Int32) (post : Int32 → (Unit) → Prop) (K4 : Int32 → Int32 → Int32 → Prop) (a1 : Int32) : Prop := K4 a1 (0 : Int32) (0 : Int32)
def v_X1_ableToTurnInto_24 (n : Nat) (il : Int32) (kn : Nat → Int32) (sp : Nat → Int32) (py : Nat → Int32) (bo : Nat → Int32) (post : Int32 → (Unit) → Prop) (K4 : Int32 → Int32 → Int32 → Prop) (x1 : Int32) (x2 : Int32) (x3 : Int32) : Prop := K4 x1 x2 (x3 + 1)
def v_X1_ableToTurnInto_4 (n : Nat) (il : Int32) (kn : Nat → Int32) (sp : Nat → Int32) (py : Nat → Int32) (bo : Nat → Int32) (post : Int32 → (Unit) → Prop) (K4 : Int32 → Int32 → Int32 → Prop) (x1 : Int32) (x2 : Int32) (x3 : Int32) : Prop := (((nI n) ≤ x3 → post x2 ()) ∧ (¬ (nI n) ≤ x3 → (((bI (canT n il sp x3 x1)) = 0 → v_X1_ableToTurnInto_24 n il kn sp py bo post K4 x1 x2 x3) ∧ (¬ (bI (canT n il sp x3 x1)) = 0 → v_X1_ableToTurnInto_24 n il kn sp py bo post K4 x1 (x2 + 1) x3))))
def v_X1_seated_0 (n : Nat) (il : Int32) (kn : Nat → Int32) (sp : Nat → Int32) (py : Nat → Int32) (bo : Nat → Int32) (post : Int32 → (Unit) → Prop) (K4 : Int32 → Int32 → Prop) : Prop := K4 (0 : Int32) (0 : Int32)
def v_X1_seated_24 (n : Nat) (il : Int32) (kn : Nat → Int32) (sp : Nat → Int32) (py : Nat → Int32) (bo : Nat → Int32) (post : Int32 → (Unit) → Prop) (K4 : Int32 → Int32 → Prop) (x1 : Int32) (x2 : Int32) : Prop := K4 x1 (x2 + 1)
def v_X1_seated_4 (n : Nat) (il : Int32) (kn : Nat → Int32) (sp : Nat → Int32) (py : Nat → Int32) (bo : Nat → Int32) (post : Int32 → (Unit) → Prop) (K4 : Int32 → Int32 → Prop) (x1 : Int32) (x2 : Int32) : Prop := (((nI n) ≤ x2 → post x1 ()) ∧ (¬ (nI n) ≤ x2 → (((atP n bo 5 x2) = (5 : Int32) → v_X1_seated_24 n il kn sp py bo post K4 x1 x2) ∧ (¬ (atP n bo 5 x2) = (5 : Int32) → v_X1_seated_24 n il kn sp py bo post K4 (x1 + 1) x2))))
def v_X1_unseatAll_0 (n : Nat) (il : Int32) (kn : Nat → Int32) (sp : Nat → Int32) (py : Nat → Int32) (post : ((Nat → Int32)) → Prop) (bo : Nat → Int32) : Prop := ((6 < 1000) ∧ post (fillA bo 6 (5 : Int32)))
def v_X1_seatAs_0 (n : Nat) (il : Int32) (kn : Nat → Int32) (sp : Nat → Int32) (py : Nat → Int32) (tm : Nat → Int32) (post : ((Nat → Int32)) → Prop) (bo : Nat → Int32) : Prop := (((6 : Int32) = (6 : Int32) → post (va_cpy tm bo 0 0 6)) ∧ (¬ (6 : Int32) = (6 : Int32) → post bo))
def v_X1_add_0 (n : Nat) (il : Int32) (post : Int32 → (Int32 × (Nat → Int32) × (Nat → Int32) × (Nat → Int32) × (Nat → Int32)) → Prop) (a1 : Int32) (a2 : Int32) (a3 : Int32) (kn : Nat → Int32) (sp : Nat → Int32) (py : Nat → Int32) (bo : Nat → Int32) : Prop := (((nI n) < (6 : Int32) → (vp_in (nI n) 6 ∧ (vp_in (nI n) 6 ∧ (vp_in (nI n) 6 ∧ (vp_in (nI n) 6 ∧ post (((nI n) + (1 : Int32)) - (1 : Int32)) ((nI n) + (1 : Int32), upd kn (nI n).toNatClampNeg a1, upd sp (nI n).toNatClampNeg a2, upd py (nI n).toNatClampNeg a3, upd bo (nI n).toNatClampNeg (5 : Int32))))))) ∧ (¬ (nI n) < (6 : Int32) → post (-5 : Int32) (nI n, kn, sp, py, bo)))
def v_X1_setIll_0 (n : Nat) (kn : Nat → Int32) (sp : Nat → Int32) (py : Nat → Int32) (bo : Nat → Int32) (post : (Int32) → Prop) (a1 : Int32) (a2 : Int32) (il : Int32) : Prop := ((a2 = 0 → post (il &&& (((1 : Int32) <<< (a1 &&& 31)) ^^^ (-1 : Int32)))) ∧ (¬ a2 = 0 → post (il ||| ((1 : Int32) <<< (a1 &&& 31)))))
end
section
theorem h_X3_holds (a0 : Int32) (a1 : Int32) : v_X3_holds_0  (fun r _ => r = bI (hs a0 a1))  a0 a1 := by
  unfold v_X3_holds_0
  refine ⟨fun h => ?_, fun h => ?_⟩ <;> simp [hs, h, bI]
theorem h_X3_isSession (a0 : Int32) : v_X3_isSession_0  (fun r _ => r = bI (inB a0 2))  a0 := by
  unfold v_X3_isSession_0
  refine ⟨fun h => ?_, fun h => ⟨fun h2 => ?_, fun h2 => ?_⟩⟩ <;> simp only [inB, h, bI] <;> simp [*]
theorem h_X3_isTongue (a0 : Int32) : v_X3_isTongue_0  (fun r _ => r = bI (inB a0 5))  a0 := by
  unfold v_X3_isTongue_0
  refine ⟨fun h => ?_, fun h => ⟨fun h2 => ?_, fun h2 => ?_⟩⟩ <;> simp only [inB, h, bI] <;> simp [*]
theorem h_X3_isHalf (a0 : Int32) : v_X3_isHalf_0  (fun r _ => r = bI (inB a0 16))  a0 := by
  unfold v_X3_isHalf_0
  refine ⟨fun h => ?_, fun h => ⟨fun h2 => ?_, fun h2 => ?_⟩⟩ <;> simp only [inB, h, bI] <;> simp [*]
theorem h_X3_areTongues (a0 : Int32) : v_X3_areTongues_0  (fun r _ => r = bI (decide (a0 &&& (-32) = 0)))  a0 := by
  unfold v_X3_areTongues_0
  refine ⟨fun h => ?_, fun h => ?_⟩ <;> simp [bI, h]
theorem h_J7_fill_53178 (N : Nat) (f : Nat → Int32) (a1 : Int32) (h0 : N < 1000) (K5 : Int32 → Int32 → Int32 → (Nat → Int32) → Prop) (R5 : ∀ x1 x2 x3 f_, v_J7_fill_53178_5 N (fun u => u = fillA f N a1) K5 x1 x2 x3 f_ → K5 x1 x2 x3 f_) : v_J7_fill_53178_0 N (fun u => u = fillA f N a1) K5 a1 f := by
  unfold v_J7_fill_53178_0
  have key := up_ind (fun k => K5 a1 (nI k) (nI N) (fillA f k a1)) N (R5 _ _ _ _ ?_) (fun k hk ih => R5 _ _ _ _ ?_)
  rotate_left
  · exact ⟨fun _ => rfl, fun h => absurd (nI_le (Nat.le_refl _) (by omega)) h⟩
  · refine ⟨fun h => absurd h (nI_ge hk (by omega)), fun _ => ⟨vp_in_nI hk (by omega), ?_⟩⟩
    rw [nI_1, nI_clamp (by omega)]
    have e : upd (fillA f k a1) k a1 = fillA f (k + 1) a1 := by
      funext j
      simp only [upd, fillA]
      by_cases h1 : j = k
      · subst h1; simp
      · have h2 : (j < k + 1) = (j < k) := by apply propext; omega
        simp [h1, h2]
    rw [e]; exact ih
  · have e : fillA f 0 a1 = f := by funext j; simp [fillA]
    rw [e] at key; exact key
theorem h_X1_has (n : Nat) (il : Int32) (kn : Nat → Int32) (sp : Nat → Int32) (py : Nat → Int32) (bo : Nat → Int32) (a1 : Int32) (hn : n ≤ 6) : v_X1_has_0 n il kn sp py bo (fun r _ => r = bI (inB a1 (nI n)))  a1 := by
  unfold v_X1_has_0
  refine ⟨fun h => ?_, fun h => ⟨fun h2 => ?_, fun h2 => ?_⟩⟩ <;> simp only [inB, h, bI] <;> simp [*]
theorem h_X1_isIll (n : Nat) (il : Int32) (kn : Nat → Int32) (sp : Nat → Int32) (py : Nat → Int32) (bo : Nat → Int32) (a1 : Int32) (hn : n ≤ 6) : v_X1_isIll_0 n il kn sp py bo (fun r _ => r = bI (hs il a1))  a1 := by
  unfold v_X1_isIll_0
  rfl
theorem h_X1_payOf (n : Nat) (il : Int32) (kn : Nat → Int32) (sp : Nat → Int32) (py : Nat → Int32) (bo : Nat → Int32) (a1 : Int32) (hn : n ≤ 6) : v_X1_payOf_0 n il kn sp py bo (fun r _ => r = atP n py 0 a1)  a1 := by
  unfold v_X1_payOf_0
  refine ⟨fun h => ?_, fun h => ?_⟩
  · rw [bI_0] at h; simp [atP, h]
  · rw [bI_n0] at h; exact ⟨inB_in h hn (by omega), by simp [atP, h]⟩
theorem h_X1_knownBy (n : Nat) (il : Int32) (kn : Nat → Int32) (sp : Nat → Int32) (py : Nat → Int32) (bo : Nat → Int32) (a1 : Int32) (hn : n ≤ 6) : v_X1_knownBy_0 n il kn sp py bo (fun r _ => r = atP n kn 0 a1)  a1 := by
  unfold v_X1_knownBy_0
  refine ⟨fun h => ?_, fun h => ?_⟩
  · rw [bI_0] at h; simp [atP, h]
  · rw [bI_n0] at h; exact ⟨inB_in h hn (by omega), by simp [atP, h]⟩
theorem h_X1_boothOf (n : Nat) (il : Int32) (kn : Nat → Int32) (sp : Nat → Int32) (py : Nat → Int32) (bo : Nat → Int32) (a1 : Int32) (hn : n ≤ 6) : v_X1_boothOf_0 n il kn sp py bo (fun r _ => r = atP n bo 5 a1)  a1 := by
  unfold v_X1_boothOf_0
  refine ⟨fun h => ?_, fun h => ?_⟩
  · rw [bI_0] at h; simp [atP, h]
  · rw [bI_n0] at h; exact ⟨inB_in h hn (by omega), by simp [atP, h]⟩
theorem h_X1_canTurnInto (n : Nat) (il : Int32) (kn : Nat → Int32) (sp : Nat → Int32) (py : Nat → Int32) (bo : Nat → Int32) (a1 : Int32) (a2 : Int32) (hn : n ≤ 6) : v_X1_canTurnInto_0 n il kn sp py bo (fun r _ => r = bI (canT n il sp a1 a2))  a1 a2 := by
  unfold v_X1_canTurnInto_0
  simp only [bI_0, Bool.not_eq_false]
  refine ⟨fun h => ?_, fun h => ⟨fun h2 => ⟨inB_in h hn (by omega), fun h3 => ?_, fun h3 => ?_⟩, fun h2 => ?_⟩⟩ <;> simp [canT, *, bI]
theorem h_X1_ableToTurnInto (n : Nat) (il : Int32) (kn : Nat → Int32) (sp : Nat → Int32) (py : Nat → Int32) (bo : Nat → Int32) (a1 : Int32) (hn : n ≤ 6) (K4 : Int32 → Int32 → Int32 → Prop) (R4 : ∀ x1 x2 x3, v_X1_ableToTurnInto_4 n il kn sp py bo (fun r _ => r = sI (fun k => bI (canT n il sp (nI k) a1)) n) K4 x1 x2 x3 → K4 x1 x2 x3) : v_X1_ableToTurnInto_0 n il kn sp py bo (fun r _ => r = sI (fun k => bI (canT n il sp (nI k) a1)) n) K4 a1 := by
  unfold v_X1_ableToTurnInto_0
  refine up_ind (fun k => K4 a1 (sI (fun k => bI (canT n il sp (nI k) a1)) k) (nI k)) n (R4 _ _ _ ?_) (fun k hk ih => R4 _ _ _ ?_)
  · exact ⟨fun _ => rfl, fun h => absurd (nI_le (Nat.le_refl _) (by omega)) h⟩
  · refine ⟨fun h => absurd h (nI_ge hk (by omega)), fun _ => ?_⟩
    simp only [bI_0, Bool.not_eq_false, v_X1_ableToTurnInto_24, nI_1]
    refine ⟨fun h => ?_, fun h => ?_⟩ <;> simpa [sI, h, bI] using ih
theorem h_X1_seated (n : Nat) (il : Int32) (kn : Nat → Int32) (sp : Nat → Int32) (py : Nat → Int32) (bo : Nat → Int32) (hn : n ≤ 6) (K4 : Int32 → Int32 → Prop) (R4 : ∀ x1 x2, v_X1_seated_4 n il kn sp py bo (fun r _ => r = sI (fun k => bI (!decide (bo k = 5))) n) K4 x1 x2 → K4 x1 x2) : v_X1_seated_0 n il kn sp py bo (fun r _ => r = sI (fun k => bI (!decide (bo k = 5))) n) K4 := by
  unfold v_X1_seated_0
  refine up_ind (fun k => K4 (sI (fun k => bI (!decide (bo k = 5))) k) (nI k)) n (R4 _ _ ?_) (fun k hk ih => R4 _ _ ?_)
  · exact ⟨fun _ => rfl, fun h => absurd (nI_le (Nat.le_refl _) (by omega)) h⟩
  · refine ⟨fun h => absurd h (nI_ge hk (by omega)), fun _ => ?_⟩
    simp only [v_X1_seated_24, nI_1, atP_nI hk (by omega : n < 2 ^ 31)]
    refine ⟨fun h => ?_, fun h => ?_⟩ <;> simpa [sI, h, bI] using ih
theorem h_X1_unseatAll (n : Nat) (il : Int32) (kn : Nat → Int32) (sp : Nat → Int32) (py : Nat → Int32) (bo : Nat → Int32) (hn : n ≤ 6) : v_X1_unseatAll_0 n il kn sp py (fun u => u = fillA bo 6 5)   bo := by
  unfold v_X1_unseatAll_0
  exact ⟨by omega, rfl⟩
theorem h_X1_seatAs (n : Nat) (il : Int32) (kn : Nat → Int32) (sp : Nat → Int32) (py : Nat → Int32) (tm : Nat → Int32) (bo : Nat → Int32) (hn : n ≤ 6) : v_X1_seatAs_0 n il kn sp py tm (fun u => u = va_cpy tm bo 0 0 6)   bo := by
  unfold v_X1_seatAs_0
  exact ⟨fun _ => rfl, fun h => absurd rfl h⟩
theorem h_X1_add (n : Nat) (il : Int32) (kn : Nat → Int32) (sp : Nat → Int32) (py : Nat → Int32) (bo : Nat → Int32) (a1 : Int32) (a2 : Int32) (a3 : Int32) (hn : n ≤ 6) : v_X1_add_0 n il (fun r u => r = (if n < 6 then nI n else (-5)) ∧ u = (nI (if n < 6 then n + 1 else n), (if n < 6 then upd kn n a1 else kn), (if n < 6 then upd sp n a2 else sp), (if n < 6 then upd py n a3 else py), (if n < 6 then upd bo n 5 else bo)))  a1 a2 a3 kn sp py bo := by
  unfold v_X1_add_0
  have e6 : (6 : Int32) = nI 6 := rfl
  refine ⟨fun h => ?_, fun h => ?_⟩
  · rw [e6, nI_ltI (by omega) (by omega)] at h
    have hv : vp_in (nI n) 6 := vp_in_nI h (by omega)
    refine ⟨hv, hv, hv, hv, ?_⟩
    rw [nI_1, nI_pred, nI_clamp (by omega)]
    simp [h]
  · rw [e6, nI_ltI (by omega) (by omega)] at h
    simp [h]
theorem h_X1_setIll (n : Nat) (kn : Nat → Int32) (sp : Nat → Int32) (py : Nat → Int32) (bo : Nat → Int32) (il : Int32) (a1 : Int32) (a2 : Int32) (hn : n ≤ 6) : v_X1_setIll_0 n kn sp py bo (fun u => u = (if a2 = 0 then il &&& (((1 : Int32) <<< (a1 &&& 31)) ^^^ (-1)) else il ||| ((1 : Int32) <<< (a1 &&& 31))))  a1 a2 il := by
  unfold v_X1_setIll_0
  refine ⟨fun h => ?_, fun h => ?_⟩ <;> simp [h]
end
section
def v_X2_prepare_0 (n : Nat) (tr : Nat → Int32) (sk : Nat → Int32) (ct : Nat → Int32) (nt : Nat → Int32) (il : Int32) (kn : Nat → Int32) (sp : Nat → Int32) (py : Nat → Int32) (bo : Nat → Int32) (post : (Int32 × Int32 × Int32 × Int32 × Int32 × Int32 × Int32 × Int32 × (Nat → Int32)) → Prop) (K43 : Int32 → Int32 → Int32 → Int32 → Int32 → Int32 → Int32 → Int32 → Int32 → Int32 → Int32 → (Nat → Int32) → Prop) (a1 : Int32) (a2 : Int32) (a3 : Int32) (os : Int32) (fl : Int32) (wa : Int32) (fo : Int32) (sb : Int32) (lp : Int32) (fm : Int32) (pn : Int32) (fs : Nat → Int32) : Prop := K43 a2 a3 (0 : Int32) (0 : Int32) a1 a2 (0 : Int32) (0 : Int32) (-1 : Int32) (-1 : Int32) (-1 : Int32) fs
def v_X2_prepare_69 (n : Nat) (tr : Nat → Int32) (sk : Nat → Int32) (ct : Nat → Int32) (nt : Nat → Int32) (il : Int32) (kn : Nat → Int32) (sp : Nat → Int32) (py : Nat → Int32) (bo : Nat → Int32) (post : (Int32 × Int32 × Int32 × Int32 × Int32 × Int32 × Int32 × Int32 × (Nat → Int32)) → Prop) (K43 : Int32 → Int32 → Int32 → Int32 → Int32 → Int32 → Int32 → Int32 → Int32 → Int32 → Int32 → (Nat → Int32) → Prop) (x2 : Int32) (x3 : Int32) (x4 : Int32) (s0 : Int32) (s1 : Int32) (os_ : Int32) (fl_ : Int32) (wa_ : Int32) (fo_ : Int32) (sb_ : Int32) (lp_ : Int32) (fm_ : Int32) (pn_ : Int32) (fs_ : Nat → Int32) : Prop := (vp_in s1 5 ∧ (vp_in x4 5 ∧ K43 x2 x3 (x4 + 1) (os_ + ((upd fs_ s1.toNatClampNeg s0) x4.toNatClampNeg)) fl_ wa_ fo_ sb_ lp_ fm_ pn_ (upd fs_ s1.toNatClampNeg s0)))
def v_X2_prepare_43 (n : Nat) (tr : Nat → Int32) (sk : Nat → Int32) (ct : Nat → Int32) (nt : Nat → Int32) (il : Int32) (kn : Nat → Int32) (sp : Nat → Int32) (py : Nat → Int32) (bo : Nat → Int32) (post : (Int32 × Int32 × Int32 × Int32 × Int32 × Int32 × Int32 × Int32 × (Nat → Int32)) → Prop) (K43 : Int32 → Int32 → Int32 → Int32 → Int32 → Int32 → Int32 → Int32 → Int32 → Int32 → Int32 → (Nat → Int32) → Prop) (x2 : Int32) (x3 : Int32) (x4 : Int32) (os_ : Int32) (fl_ : Int32) (wa_ : Int32) (fo_ : Int32) (sb_ : Int32) (lp_ : Int32) (fm_ : Int32) (pn_ : Int32) (fs_ : Nat → Int32) : Prop := (((5 : Int32) ≤ x4 → post (os_, fl_, wa_, fo_, sb_, lp_, fm_, pn_, fs_)) ∧ (¬ (5 : Int32) ≤ x4 → (((bI (hs x2 x4)) = 0 → v_X2_prepare_69 n tr sk ct nt il kn sp py bo post K43 x2 x3 x4 (0 : Int32) x4 os_ fl_ wa_ fo_ sb_ lp_ fm_ pn_ fs_) ∧ (¬ (bI (hs x2 x4)) = 0 → v_X2_prepare_69 n tr sk ct nt il kn sp py bo post K43 x2 x3 x4 x3 x4 os_ fl_ wa_ fo_ sb_ lp_ fm_ pn_ fs_))))
def v_X2_shareKnown_0 (n : Nat) (os : Int32) (fl : Int32) (wa : Int32) (fo : Int32) (sb : Int32) (lp : Int32) (fm : Int32) (pn : Int32) (tr : Nat → Int32) (fs : Nat → Int32) (ct : Nat → Int32) (nt : Nat → Int32) (il : Int32) (kn : Nat → Int32) (sp : Nat → Int32) (py : Nat → Int32) (bo : Nat → Int32) (post : ((Nat → Int32)) → Prop) (K11 : Int32 → (Nat → Int32) → Prop) (sk : Nat → Int32) : Prop := ((5 < 1000) ∧ K11 (0 : Int32) (fillA sk 5 (31 : Int32)))
def v_X2_shareKnown_53 (n : Nat) (os : Int32) (fl : Int32) (wa : Int32) (fo : Int32) (sb : Int32) (lp : Int32) (fm : Int32) (pn : Int32) (tr : Nat → Int32) (fs : Nat → Int32) (ct : Nat → Int32) (nt : Nat → Int32) (il : Int32) (kn : Nat → Int32) (sp : Nat → Int32) (py : Nat → Int32) (bo : Nat → Int32) (post : ((Nat → Int32)) → Prop) (K11 : Int32 → (Nat → Int32) → Prop) (x1 : Int32) (sk_ : Nat → Int32) : Prop := K11 (x1 + 1) sk_
def v_X2_shareKnown_11 (n : Nat) (os : Int32) (fl : Int32) (wa : Int32) (fo : Int32) (sb : Int32) (lp : Int32) (fm : Int32) (pn : Int32) (tr : Nat → Int32) (fs : Nat → Int32) (ct : Nat → Int32) (nt : Nat → Int32) (il : Int32) (kn : Nat → Int32) (sp : Nat → Int32) (py : Nat → Int32) (bo : Nat → Int32) (post : ((Nat → Int32)) → Prop) (K11 : Int32 → (Nat → Int32) → Prop) (x1 : Int32) (sk_ : Nat → Int32) : Prop := (((nI n) ≤ x1 → post sk_) ∧ (¬ (nI n) ≤ x1 → (vp_in x1 6 ∧ (((bI (inB (tr x1.toNatClampNeg) 5)) = 0 → v_X2_shareKnown_53 n os fl wa fo sb lp fm pn tr fs ct nt il kn sp py bo post K11 x1 sk_) ∧ (¬ (bI (inB (tr x1.toNatClampNeg) 5)) = 0 → (vp_in (tr x1.toNatClampNeg) 5 ∧ (vp_in (tr x1.toNatClampNeg) 5 ∧ v_X2_shareKnown_53 n os fl wa fo sb lp fm pn tr fs ct nt il kn sp py bo post K11 x1 (upd sk_ (tr x1.toNatClampNeg).toNatClampNeg ((sk_ (tr x1.toNatClampNeg).toNatClampNeg) &&& (atP n kn 0 x1))))))))))
def v_X2_reachesFloors_0 (n : Nat) (os : Int32) (fl : Int32) (wa : Int32) (fo : Int32) (sb : Int32) (lp : Int32) (fm : Int32) (pn : Int32) (tr : Nat → Int32) (fs : Nat → Int32) (sk : Nat → Int32) (ct : Nat → Int32) (nt : Nat → Int32) (il : Int32) (kn : Nat → Int32) (sp : Nat → Int32) (py : Nat → Int32) (bo : Nat → Int32) (post : Int32 → (Unit) → Prop) (K13 : Int32 → Int32 → Int32 → Prop) (a1 : Int32) : Prop := (vp_in a1 5 ∧ K13 a1 ((sk a1.toNatClampNeg) ||| ((1 : Int32) <<< (a1 &&& 31))) (0 : Int32))
def v_X2_reachesFloors_56 (n : Nat) (os : Int32) (fl : Int32) (wa : Int32) (fo : Int32) (sb : Int32) (lp : Int32) (fm : Int32) (pn : Int32) (tr : Nat → Int32) (fs : Nat → Int32) (sk : Nat → Int32) (ct : Nat → Int32) (nt : Nat → Int32) (il : Int32) (kn : Nat → Int32) (sp : Nat → Int32) (py : Nat → Int32) (bo : Nat → Int32) (post : Int32 → (Unit) → Prop) (K13 : Int32 → Int32 → Int32 → Prop) (x1 : Int32) (x2 : Int32) (x3 : Int32) : Prop := K13 x1 x2 (x3 + 1)
def v_X2_reachesFloors_13 (n : Nat) (os : Int32) (fl : Int32) (wa : Int32) (fo : Int32) (sb : Int32) (lp : Int32) (fm : Int32) (pn : Int32) (tr : Nat → Int32) (fs : Nat → Int32) (sk : Nat → Int32) (ct : Nat → Int32) (nt : Nat → Int32) (il : Int32) (kn : Nat → Int32) (sp : Nat → Int32) (py : Nat → Int32) (bo : Nat → Int32) (post : Int32 → (Unit) → Prop) (K13 : Int32 → Int32 → Int32 → Prop) (x1 : Int32) (x2 : Int32) (x3 : Int32) : Prop := (((5 : Int32) ≤ x3 → (((fl &&& (x2 ^^^ (-1 : Int32))) = 0 → post (1 : Int32) ()) ∧ (¬ (fl &&& (x2 ^^^ (-1 : Int32))) = 0 → post (0 : Int32) ()))) ∧ (¬ (5 : Int32) ≤ x3 → ((x3 = x1 → v_X2_reachesFloors_56 n os fl wa fo sb lp fm pn tr fs sk ct nt il kn sp py bo post K13 x1 x2 x3) ∧ (¬ x3 = x1 → (((bI (hs wa x3)) = 0 → v_X2_reachesFloors_56 n os fl wa fo sb lp fm pn tr fs sk ct nt il kn sp py bo post K13 x1 x2 x3) ∧ (¬ (bI (hs wa x3)) = 0 → (vp_in x1 5 ∧ (((bI (hs (sk x1.toNatClampNeg) x3)) = 0 → v_X2_reachesFloors_56 n os fl wa fo sb lp fm pn tr fs sk ct nt il kn sp py bo post K13 x1 x2 x3) ∧ (¬ (bI (hs (sk x1.toNatClampNeg) x3)) = 0 → (vp_in x3 5 ∧ v_X2_reachesFloors_56 n os fl wa fo sb lp fm pn tr fs sk ct nt il kn sp py bo post K13 x1 (x2 ||| (sk x3.toNatClampNeg)) x3))))))))))
def v_X2_keepIfCheaper_15 (n : Nat) (os : Int32) (fl : Int32) (wa : Int32) (fo : Int32) (sb : Int32) (fm : Int32) (pn : Int32) (tr : Nat → Int32) (fs : Nat → Int32) (sk : Nat → Int32) (nt : Nat → Int32) (il : Int32) (kn : Nat → Int32) (sp : Nat → Int32) (py : Nat → Int32) (bo : Nat → Int32) (post : (Int32 × (Nat → Int32)) → Prop) (x1 : Int32) (lp_ : Int32) (ct_ : Nat → Int32) : Prop := post (x1, va_cpy tr ct_ 0 0 6)
def v_X2_keepIfCheaper_0 (n : Nat) (os : Int32) (fl : Int32) (wa : Int32) (fo : Int32) (sb : Int32) (fm : Int32) (pn : Int32) (tr : Nat → Int32) (fs : Nat → Int32) (sk : Nat → Int32) (nt : Nat → Int32) (il : Int32) (kn : Nat → Int32) (sp : Nat → Int32) (py : Nat → Int32) (bo : Nat → Int32) (post : (Int32 × (Nat → Int32)) → Prop) (a1 : Int32) (lp : Int32) (ct : Nat → Int32) : Prop := ((fo = 0 → v_X2_keepIfCheaper_15 n os fl wa fo sb fm pn tr fs sk nt il kn sp py bo post  a1 lp ct) ∧ (¬ fo = 0 → ((lp ≤ a1 → post (lp, ct)) ∧ (¬ lp ≤ a1 → v_X2_keepIfCheaper_15 n os fl wa fo sb fm pn tr fs sk nt il kn sp py bo post  a1 lp ct))))
def v_X2_keepIfNearer_31 (n : Nat) (os : Int32) (fl : Int32) (wa : Int32) (fo : Int32) (sb : Int32) (lp : Int32) (tr : Nat → Int32) (fs : Nat → Int32) (sk : Nat → Int32) (ct : Nat → Int32) (il : Int32) (kn : Nat → Int32) (sp : Nat → Int32) (py : Nat → Int32) (bo : Nat → Int32) (post : (Int32 × Int32 × (Nat → Int32)) → Prop) (x1 : Int32) (x2 : Int32) (fm_ : Int32) (pn_ : Int32) (nt_ : Nat → Int32) : Prop := post (x1, x2, va_cpy tr nt_ 0 0 6)
def v_X2_keepIfNearer_0 (n : Nat) (os : Int32) (fl : Int32) (wa : Int32) (fo : Int32) (sb : Int32) (lp : Int32) (tr : Nat → Int32) (fs : Nat → Int32) (sk : Nat → Int32) (ct : Nat → Int32) (il : Int32) (kn : Nat → Int32) (sp : Nat → Int32) (py : Nat → Int32) (bo : Nat → Int32) (post : (Int32 × Int32 × (Nat → Int32)) → Prop) (a1 : Int32) (a2 : Int32) (fm : Int32) (pn : Int32) (nt : Nat → Int32) : Prop := ((fo = 0 → v_X2_keepIfNearer_31 n os fl wa fo sb lp tr fs sk ct il kn sp py bo post  a1 a2 fm pn nt) ∧ (¬ fo = 0 → ((a1 < fm → v_X2_keepIfNearer_31 n os fl wa fo sb lp tr fs sk ct il kn sp py bo post  a1 a2 fm pn nt) ∧ (¬ a1 < fm → ((a1 = fm → ((pn ≤ a2 → post (fm, pn, nt)) ∧ (¬ pn ≤ a2 → v_X2_keepIfNearer_31 n os fl wa fo sb lp tr fs sk ct il kn sp py bo post  a1 a2 fm pn nt))) ∧ (¬ a1 = fm → post (fm, pn, nt)))))))
def v_X2_weigh_0 (n : Nat) (os : Int32) (fl : Int32) (wa : Int32) (tr : Nat → Int32) (fs : Nat → Int32) (sk : Nat → Int32) (il : Int32) (kn : Nat → Int32) (sp : Nat → Int32) (py : Nat → Int32) (bo : Nat → Int32) (post : (Int32 × Int32 × Int32 × Int32 × Int32 × (Nat → Int32) × (Nat → Int32)) → Prop) (K6 : Int32 → Int32 → Int32 → Int32 → Int32 → Int32 → Int32 → Int32 → (Nat → Int32) → (Nat → Int32) → Prop) (fo : Int32) (sb : Int32) (lp : Int32) (fm : Int32) (pn : Int32) (ct : Nat → Int32) (nt : Nat → Int32) : Prop := K6 (0 : Int32) (0 : Int32) (0 : Int32) fo sb lp fm pn ct nt
def v_X2_weigh_73 (n : Nat) (os : Int32) (fl : Int32) (wa : Int32) (tr : Nat → Int32) (fs : Nat → Int32) (sk : Nat → Int32) (il : Int32) (kn : Nat → Int32) (sp : Nat → Int32) (py : Nat → Int32) (bo : Nat → Int32) (post : (Int32 × Int32 × Int32 × Int32 × Int32 × (Nat → Int32) × (Nat → Int32)) → Prop) (K6 : Int32 → Int32 → Int32 → Int32 → Int32 → Int32 → Int32 → Int32 → (Nat → Int32) → (Nat → Int32) → Prop) (x1 : Int32) (x2 : Int32) (x3 : Int32) (fo_ : Int32) (sb_ : Int32) (lp_ : Int32) (fm_ : Int32) (pn_ : Int32) (ct_ : Nat → Int32) (nt_ : Nat → Int32) : Prop := K6 x1 x2 (x3 + 1) fo_ sb_ lp_ fm_ pn_ ct_ nt_
def v_X2_weigh_53 (n : Nat) (os : Int32) (fl : Int32) (wa : Int32) (tr : Nat → Int32) (fs : Nat → Int32) (sk : Nat → Int32) (il : Int32) (kn : Nat → Int32) (sp : Nat → Int32) (py : Nat → Int32) (bo : Nat → Int32) (post : (Int32 × Int32 × Int32 × Int32 × Int32 × (Nat → Int32) × (Nat → Int32)) → Prop) (K6 : Int32 → Int32 → Int32 → Int32 → Int32 → Int32 → Int32 → Int32 → (Nat → Int32) → (Nat → Int32) → Prop) (x1 : Int32) (x2 : Int32) (x3 : Int32) (fo_ : Int32) (sb_ : Int32) (lp_ : Int32) (fm_ : Int32) (pn_ : Int32) (ct_ : Nat → Int32) (nt_ : Nat → Int32) : Prop := (vp_in x3 6 ∧ (((tr x3.toNatClampNeg) = (atP n bo 5 x3) → v_X2_weigh_73 n os fl wa tr fs sk il kn sp py bo post K6 x1 x2 x3 fo_ sb_ lp_ fm_ pn_ ct_ nt_) ∧ (¬ (tr x3.toNatClampNeg) = (atP n bo 5 x3) → v_X2_weigh_73 n os fl wa tr fs sk il kn sp py bo post K6 x1 (x2 + 1) x3 fo_ sb_ lp_ fm_ pn_ ct_ nt_)))
def v_X2_weigh_6 (n : Nat) (os : Int32) (fl : Int32) (wa : Int32) (tr : Nat → Int32) (fs : Nat → Int32) (sk : Nat → Int32) (il : Int32) (kn : Nat → Int32) (sp : Nat → Int32) (py : Nat → Int32) (bo : Nat → Int32) (post : (Int32 × Int32 × Int32 × Int32 × Int32 × (Nat → Int32) × (Nat → Int32)) → Prop) (K6 : Int32 → Int32 → Int32 → Int32 → Int32 → Int32 → Int32 → Int32 → (Nat → Int32) → (Nat → Int32) → Prop) (x1 : Int32) (x2 : Int32) (x3 : Int32) (fo_ : Int32) (sb_ : Int32) (lp_ : Int32) (fm_ : Int32) (pn_ : Int32) (ct_ : Nat → Int32) (nt_ : Nat → Int32) : Prop := (((nI n) ≤ x3 → post (fo_ + (1 : Int32), sb_, (if kcC fo_ lp_ x1 = true then x1 else lp_), (if knC fo_ fm_ pn_ x2 x1 = true then x2 else fm_), (if knC fo_ fm_ pn_ x2 x1 = true then x1 else pn_), (if kcC fo_ lp_ x1 = true then va_cpy tr ct_ 0 0 6 else ct_), (if knC fo_ fm_ pn_ x2 x1 = true then va_cpy tr nt_ 0 0 6 else nt_))) ∧ (¬ (nI n) ≤ x3 → (vp_in x3 6 ∧ (((tr x3.toNatClampNeg) = (5 : Int32) → v_X2_weigh_53 n os fl wa tr fs sk il kn sp py bo post K6 x1 x2 x3 fo_ (sb_ ||| ((1 : Int32) <<< (x3 &&& 31))) lp_ fm_ pn_ ct_ nt_) ∧ (¬ (tr x3.toNatClampNeg) = (5 : Int32) → v_X2_weigh_53 n os fl wa tr fs sk il kn sp py bo post K6 (x1 + (atP n py 0 x3)) x2 x3 fo_ sb_ lp_ fm_ pn_ ct_ nt_)))))
def v_X2_weighIfWhole_0 (n : Nat) (os : Int32) (fl : Int32) (wa : Int32) (tr : Nat → Int32) (fs : Nat → Int32) (il : Int32) (kn : Nat → Int32) (sp : Nat → Int32) (py : Nat → Int32) (bo : Nat → Int32) (post : (Int32 × Int32 × Int32 × Int32 × Int32 × (Nat → Int32) × (Nat → Int32) × (Nat → Int32)) → Prop) (K6 : Int32 → Int32 → Int32 → Int32 → Int32 → Int32 → (Nat → Int32) → (Nat → Int32) → (Nat → Int32) → Prop) (fo : Int32) (sb : Int32) (lp : Int32) (fm : Int32) (pn : Int32) (sk : Nat → Int32) (ct : Nat → Int32) (nt : Nat → Int32) : Prop := K6 (0 : Int32) fo sb lp fm pn (shK kn tr sk n) ct nt
def v_X2_weighIfWhole_31 (n : Nat) (os : Int32) (fl : Int32) (wa : Int32) (tr : Nat → Int32) (fs : Nat → Int32) (il : Int32) (kn : Nat → Int32) (sp : Nat → Int32) (py : Nat → Int32) (bo : Nat → Int32) (post : (Int32 × Int32 × Int32 × Int32 × Int32 × (Nat → Int32) × (Nat → Int32) × (Nat → Int32)) → Prop) (K6 : Int32 → Int32 → Int32 → Int32 → Int32 → Int32 → (Nat → Int32) → (Nat → Int32) → (Nat → Int32) → Prop) (x1 : Int32) (fo_ : Int32) (sb_ : Int32) (lp_ : Int32) (fm_ : Int32) (pn_ : Int32) (sk_ : Nat → Int32) (ct_ : Nat → Int32) (nt_ : Nat → Int32) : Prop := K6 (x1 + 1) fo_ sb_ lp_ fm_ pn_ sk_ ct_ nt_
def v_X2_weighIfWhole_6 (n : Nat) (os : Int32) (fl : Int32) (wa : Int32) (tr : Nat → Int32) (fs : Nat → Int32) (il : Int32) (kn : Nat → Int32) (sp : Nat → Int32) (py : Nat → Int32) (bo : Nat → Int32) (post : (Int32 × Int32 × Int32 × Int32 × Int32 × (Nat → Int32) × (Nat → Int32) × (Nat → Int32)) → Prop) (K6 : Int32 → Int32 → Int32 → Int32 → Int32 → Int32 → (Nat → Int32) → (Nat → Int32) → (Nat → Int32) → Prop) (x1 : Int32) (fo_ : Int32) (sb_ : Int32) (lp_ : Int32) (fm_ : Int32) (pn_ : Int32) (sk_ : Nat → Int32) (ct_ : Nat → Int32) (nt_ : Nat → Int32) : Prop := (((5 : Int32) ≤ x1 → (∀ u38 : Int32 × Int32 × Int32 × Int32 × Int32 × (Nat → Int32) × (Nat → Int32), u38 = wgA n py bo tr (fo_, sb_, lp_, fm_, pn_, ct_, nt_) → post (u38.1, u38.2.1, u38.2.2.1, u38.2.2.2.1, u38.2.2.2.2.1, sk_, u38.2.2.2.2.2.1, u38.2.2.2.2.2.2))) ∧ (¬ (5 : Int32) ≤ x1 → (((bI (hs wa x1)) = 0 → v_X2_weighIfWhole_31 n os fl wa tr fs il kn sp py bo post K6 x1 fo_ sb_ lp_ fm_ pn_ sk_ ct_ nt_) ∧ (¬ (bI (hs wa x1)) = 0 → ((vp_in x1 5) ∧ (((bI (rcF fl wa sk_ x1)) = 0 → post (fo_, sb_, lp_, fm_, pn_, sk_, ct_, nt_)) ∧ (¬ (bI (rcF fl wa sk_ x1)) = 0 → v_X2_weighIfWhole_31 n os fl wa tr fs il kn sp py bo post K6 x1 fo_ sb_ lp_ fm_ pn_ sk_ ct_ nt_)))))))
def v_X2_placeIn_0 (d k : Nat) (n : Nat) (fl : Int32) (wa : Int32) (il : Int32) (kn : Nat → Int32) (sp : Nat → Int32) (py : Nat → Int32) (bo : Nat → Int32) (post : (Int32 × Int32 × Int32 × Int32 × Int32 × Int32 × (Nat → Int32) × (Nat → Int32) × (Nat → Int32) × (Nat → Int32) × (Nat → Int32)) → Prop) (a1 : Int32) (a2 : Int32) (os : Int32) (fo : Int32) (sb : Int32) (lp : Int32) (fm : Int32) (pn : Int32) (tr : Nat → Int32) (fs : Nat → Int32) (sk : Nat → Int32) (ct : Nat → Int32) (nt : Nat → Int32) : Prop := (vp_in a1 5 ∧ (((fs a1.toNatClampNeg) = 0 → post (os, fo, sb, lp, fm, pn, tr, fs, sk, ct, nt)) ∧ (¬ (fs a1.toNatClampNeg) = 0 → (((bI (canT n il sp a2 a1)) = 0 → post (os, fo, sb, lp, fm, pn, tr, fs, sk, ct, nt)) ∧ (¬ (bI (canT n il sp a2 a1)) = 0 → (vp_in a2 6 ∧ (vp_in a1 5 ∧ (vp_in a1 5 ∧ ((k < n) ∧ (((a2 + (1 : Int32)) = nI (k + 1)) ∧ (∀ u53 : Int32 × Int32 × Int32 × Int32 × Int32 × Int32 × (Nat → Int32) × (Nat → Int32) × (Nat → Int32) × (Nat → Int32) × (Nat → Int32), u53 = pf n il kn sp py bo fl wa (d - 1) (k + 1) ((os - (1 : Int32)), fo, sb, lp, fm, pn, (upd tr a2.toNatClampNeg a1), (upd fs a1.toNatClampNeg ((fs a1.toNatClampNeg) - (1 : Int32))), sk, ct, nt) → (vp_in a1 5 ∧ (vp_in a1 5 ∧ post (u53.1 + (1 : Int32), u53.2.1, u53.2.2.1, u53.2.2.2.1, u53.2.2.2.2.1, u53.2.2.2.2.2.1, u53.2.2.2.2.2.2.1, upd u53.2.2.2.2.2.2.2.1 a1.toNatClampNeg ((u53.2.2.2.2.2.2.2.1 a1.toNatClampNeg) + (1 : Int32)), u53.2.2.2.2.2.2.2.2.1, u53.2.2.2.2.2.2.2.2.2.1, u53.2.2.2.2.2.2.2.2.2.2))))))))))))))
def v_X2_placeFrom_0 (d k : Nat) (n : Nat) (fl : Int32) (wa : Int32) (il : Int32) (kn : Nat → Int32) (sp : Nat → Int32) (py : Nat → Int32) (bo : Nat → Int32) (post : (Int32 × Int32 × Int32 × Int32 × Int32 × Int32 × (Nat → Int32) × (Nat → Int32) × (Nat → Int32) × (Nat → Int32) × (Nat → Int32)) → Prop) (K35 : Int32 → Int32 → Int32 → Int32 → Int32 → Int32 → Int32 → Int32 → (Nat → Int32) → (Nat → Int32) → (Nat → Int32) → (Nat → Int32) → (Nat → Int32) → Prop) (a1 : Int32) (os : Int32) (fo : Int32) (sb : Int32) (lp : Int32) (fm : Int32) (pn : Int32) (tr : Nat → Int32) (fs : Nat → Int32) (sk : Nat → Int32) (ct : Nat → Int32) (nt : Nat → Int32) : Prop := ((os ≤ ((nI n) - a1) → (((bI (inB a1 (nI n))) = 0 → (∀ u29 : Int32 × Int32 × Int32 × Int32 × Int32 × (Nat → Int32) × (Nat → Int32) × (Nat → Int32), u29 = wwB n kn py bo fl wa sk tr (fo, sb, lp, fm, pn, ct, nt) → post (os, u29.1, u29.2.1, u29.2.2.1, u29.2.2.2.1, u29.2.2.2.2.1, tr, fs, u29.2.2.2.2.2.1, u29.2.2.2.2.2.2.1, u29.2.2.2.2.2.2.2))) ∧ (¬ (bI (inB a1 (nI n))) = 0 → K35 a1 (0 : Int32) os fo sb lp fm pn tr fs sk ct nt))) ∧ (¬ os ≤ ((nI n) - a1) → post (os, fo, sb, lp, fm, pn, tr, fs, sk, ct, nt)))
def v_X2_placeFrom_35 (d k : Nat) (n : Nat) (fl : Int32) (wa : Int32) (il : Int32) (kn : Nat → Int32) (sp : Nat → Int32) (py : Nat → Int32) (bo : Nat → Int32) (post : (Int32 × Int32 × Int32 × Int32 × Int32 × Int32 × (Nat → Int32) × (Nat → Int32) × (Nat → Int32) × (Nat → Int32) × (Nat → Int32)) → Prop) (K35 : Int32 → Int32 → Int32 → Int32 → Int32 → Int32 → Int32 → Int32 → (Nat → Int32) → (Nat → Int32) → (Nat → Int32) → (Nat → Int32) → (Nat → Int32) → Prop) (x1 : Int32) (x2 : Int32) (os_ : Int32) (fo_ : Int32) (sb_ : Int32) (lp_ : Int32) (fm_ : Int32) (pn_ : Int32) (tr_ : Nat → Int32) (fs_ : Nat → Int32) (sk_ : Nat → Int32) (ct_ : Nat → Int32) (nt_ : Nat → Int32) : Prop := (((5 : Int32) ≤ x2 → (vp_in x1 6 ∧ ((k < n) ∧ (((x1 + (1 : Int32)) = nI (k + 1)) ∧ (∀ u63 : Int32 × Int32 × Int32 × Int32 × Int32 × Int32 × (Nat → Int32) × (Nat → Int32) × (Nat → Int32) × (Nat → Int32) × (Nat → Int32), u63 = pf n il kn sp py bo fl wa (d - 1) (k + 1) (os_, fo_, sb_, lp_, fm_, pn_, (upd tr_ x1.toNatClampNeg (5 : Int32)), fs_, sk_, ct_, nt_) → post (u63.1, u63.2.1, u63.2.2.1, u63.2.2.2.1, u63.2.2.2.2.1, u63.2.2.2.2.2.1, u63.2.2.2.2.2.2.1, u63.2.2.2.2.2.2.2.1, u63.2.2.2.2.2.2.2.2.1, u63.2.2.2.2.2.2.2.2.2.1, u63.2.2.2.2.2.2.2.2.2.2)))))) ∧ (¬ (5 : Int32) ≤ x2 → ((k < n) ∧ ((vp_in x2 5) ∧ ((x1 = nI k) ∧ (∀ u43 : Int32 × Int32 × Int32 × Int32 × Int32 × Int32 × (Nat → Int32) × (Nat → Int32) × (Nat → Int32) × (Nat → Int32) × (Nat → Int32), u43 = piF n il kn sp py bo fl wa d k x2 (os_, fo_, sb_, lp_, fm_, pn_, tr_, fs_, sk_, ct_, nt_) → K35 x1 (x2 + 1) u43.1 u43.2.1 u43.2.2.1 u43.2.2.2.1 u43.2.2.2.2.1 u43.2.2.2.2.2.1 u43.2.2.2.2.2.2.1 u43.2.2.2.2.2.2.2.1 u43.2.2.2.2.2.2.2.2.1 u43.2.2.2.2.2.2.2.2.2.1 u43.2.2.2.2.2.2.2.2.2.2))))))
end
section
theorem h_X2_prepare (n : Nat) (tr : Nat → Int32) (sk : Nat → Int32) (ct : Nat → Int32) (nt : Nat → Int32) (il : Int32) (kn : Nat → Int32) (sp : Nat → Int32) (py : Nat → Int32) (bo : Nat → Int32) (os : Int32) (fl : Int32) (wa : Int32) (fo : Int32) (sb : Int32) (lp : Int32) (fm : Int32) (pn : Int32) (fs : Nat → Int32) (a1 : Int32) (a2 : Int32) (a3 : Int32) (hn : n ≤ 6) (K43 : Int32 → Int32 → Int32 → Int32 → Int32 → Int32 → Int32 → Int32 → Int32 → Int32 → Int32 → (Nat → Int32) → Prop) (R43 : ∀ x2 x3 x4 os_ fl_ wa_ fo_ sb_ lp_ fm_ pn_ fs_, v_X2_prepare_43 n tr sk ct nt il kn sp py bo (fun u => u = (prO a2 a3 5, a1, a2, 0, 0, (-1), (-1), (-1), prF fs a2 a3 5)) K43 x2 x3 x4 os_ fl_ wa_ fo_ sb_ lp_ fm_ pn_ fs_ → K43 x2 x3 x4 os_ fl_ wa_ fo_ sb_ lp_ fm_ pn_ fs_) : v_X2_prepare_0 n tr sk ct nt il kn sp py bo (fun u => u = (prO a2 a3 5, a1, a2, 0, 0, (-1), (-1), (-1), prF fs a2 a3 5)) K43 a1 a2 a3 os fl wa fo sb lp fm pn fs := by
  unfold v_X2_prepare_0
  have key := up_ind (fun k => K43 a2 a3 (nI k) (prO a2 a3 k) a1 a2 0 0 (-1) (-1) (-1) (prF fs a2 a3 k)) 5 (R43 _ _ _ _ _ _ _ _ _ _ _ _ ?_) (fun k hk ih => R43 _ _ _ _ _ _ _ _ _ _ _ _ ?_)
  · exact key
  · exact ⟨fun _ => rfl, fun h => absurd (nI_le (a := 5) (b := 5) (Nat.le_refl _) (by omega)) h⟩
  · refine ⟨fun h => absurd h (nI_ge (b := 5) hk (by omega)), fun _ => ?_⟩
    have hv : vp_in (nI k) 5 := vp_in_nI hk (by omega)
    have ec : (nI k).toNatClampNeg = k := nI_clamp (by omega)
    have eu : ∀ (f : Nat → Int32) (v : Int32), upd f k v k = v := fun f v => by simp [upd]
    simp only [bI_0, Bool.not_eq_false, v_X2_prepare_69, nI_1, ec, eu]
    refine ⟨fun h => ⟨hv, hv, ?_⟩, fun h => ⟨hv, hv, ?_⟩⟩
    · simpa [prO, sI, prF, h] using ih
    · simpa [prO, sI, prF, h] using ih
theorem h_X2_shareKnown (n : Nat) (os : Int32) (fl : Int32) (wa : Int32) (fo : Int32) (sb : Int32) (lp : Int32) (fm : Int32) (pn : Int32) (tr : Nat → Int32) (fs : Nat → Int32) (ct : Nat → Int32) (nt : Nat → Int32) (il : Int32) (kn : Nat → Int32) (sp : Nat → Int32) (py : Nat → Int32) (bo : Nat → Int32) (sk : Nat → Int32) (hn : n ≤ 6) (K11 : Int32 → (Nat → Int32) → Prop) (R11 : ∀ x1 sk_, v_X2_shareKnown_11 n os fl wa fo sb lp fm pn tr fs ct nt il kn sp py bo (fun u => u = shK kn tr sk n) K11 x1 sk_ → K11 x1 sk_) : v_X2_shareKnown_0 n os fl wa fo sb lp fm pn tr fs ct nt il kn sp py bo (fun u => u = shK kn tr sk n) K11  sk := by
  unfold v_X2_shareKnown_0
  have key := up_ind (fun k => K11 (nI k) (shK kn tr sk k)) n (R11 _ _ ?_) (fun k hk ih => R11 _ _ ?_)
  · exact ⟨by omega, key⟩
  · exact ⟨fun _ => rfl, fun h => absurd (nI_le (Nat.le_refl _) (by omega)) h⟩
  · refine ⟨fun h => absurd h (nI_ge hk (by omega)), fun _ => ⟨vp_in_nI (by omega) (by omega), ?_⟩⟩
    have ec : (nI k).toNatClampNeg = k := nI_clamp (by omega)
    simp only [bI_0, Bool.not_eq_false, v_X2_shareKnown_53, nI_1, ec, atP_nI hk (by omega : n < 2 ^ 31)]
    refine ⟨fun h => ?_, fun h => ?_⟩
    · simpa [shK, h] using ih
    · have hv : vp_in (tr k) 5 := inB_in (n := 5) h (Nat.le_refl _) (by omega)
      refine ⟨hv, hv, ?_⟩
      simpa [shK, h] using ih
theorem h_X2_reachesFloors (n : Nat) (os : Int32) (fl : Int32) (wa : Int32) (fo : Int32) (sb : Int32) (lp : Int32) (fm : Int32) (pn : Int32) (tr : Nat → Int32) (fs : Nat → Int32) (sk : Nat → Int32) (ct : Nat → Int32) (nt : Nat → Int32) (il : Int32) (kn : Nat → Int32) (sp : Nat → Int32) (py : Nat → Int32) (bo : Nat → Int32) (a1 : Int32) (hn : n ≤ 6) (h0 : vp_in a1 5) (K13 : Int32 → Int32 → Int32 → Prop) (R13 : ∀ x1 x2 x3, v_X2_reachesFloors_13 n os fl wa fo sb lp fm pn tr fs sk ct nt il kn sp py bo (fun r _ => r = bI (rcF fl wa sk a1)) K13 x1 x2 x3 → K13 x1 x2 x3) : v_X2_reachesFloors_0 n os fl wa fo sb lp fm pn tr fs sk ct nt il kn sp py bo (fun r _ => r = bI (rcF fl wa sk a1)) K13 a1 := by
  unfold v_X2_reachesFloors_0
  have key := up_ind (fun k => K13 a1 (rch wa sk a1 k) (nI k)) 5 (R13 _ _ _ ?_) (fun k hk ih => R13 _ _ _ ?_)
  · exact ⟨h0, key⟩
  · refine ⟨fun _ => ⟨fun h => ?_, fun h => ?_⟩, fun h => absurd (nI_le (a := 5) (b := 5) (Nat.le_refl _) (by omega)) h⟩
    · show (1 : Int32) = _
      rw [rcF, decide_eq_true h]; rfl
    · show (0 : Int32) = _
      rw [rcF, decide_eq_false h]; rfl
  · refine ⟨fun h => absurd h (nI_ge (b := 5) hk (by omega)), fun _ => ?_⟩
    have ec : (nI k).toNatClampNeg = k := nI_clamp (by omega)
    have hv : vp_in (nI k) 5 := vp_in_nI hk (by omega)
    simp only [bI_0, Bool.not_eq_false, v_X2_reachesFloors_56, nI_1, ec]
    refine ⟨fun h => ?_, fun h => ⟨fun h2 => ?_, fun h2 => ⟨h0, fun h3 => ?_, fun h3 => ⟨hv, ?_⟩⟩⟩⟩
    · simpa [rch, rcC, h] using ih
    · simpa [rch, rcC, h2] using ih
    · simpa [rch, rcC, h3] using ih
    · simpa [rch, rcC, h, h2, h3] using ih
theorem h_X2_keepIfCheaper (n : Nat) (os : Int32) (fl : Int32) (wa : Int32) (fo : Int32) (sb : Int32) (fm : Int32) (pn : Int32) (tr : Nat → Int32) (fs : Nat → Int32) (sk : Nat → Int32) (nt : Nat → Int32) (il : Int32) (kn : Nat → Int32) (sp : Nat → Int32) (py : Nat → Int32) (bo : Nat → Int32) (lp : Int32) (ct : Nat → Int32) (a1 : Int32) (hn : n ≤ 6) : v_X2_keepIfCheaper_0 n os fl wa fo sb fm pn tr fs sk nt il kn sp py bo (fun u => u = ((if kcC fo lp a1 = true then a1 else lp), (if kcC fo lp a1 = true then va_cpy tr ct 0 0 6 else ct)))  a1 lp ct := by
  unfold v_X2_keepIfCheaper_0
  refine ⟨fun h => ?_, fun h => ⟨fun h2 => ?_, fun h2 => ?_⟩⟩
  · simp [kcC, h, v_X2_keepIfCheaper_15]
  · simp [kcC, h, h2]
  · simp [kcC, h2, v_X2_keepIfCheaper_15]
theorem h_X2_keepIfNearer (n : Nat) (os : Int32) (fl : Int32) (wa : Int32) (fo : Int32) (sb : Int32) (lp : Int32) (tr : Nat → Int32) (fs : Nat → Int32) (sk : Nat → Int32) (ct : Nat → Int32) (il : Int32) (kn : Nat → Int32) (sp : Nat → Int32) (py : Nat → Int32) (bo : Nat → Int32) (fm : Int32) (pn : Int32) (nt : Nat → Int32) (a1 : Int32) (a2 : Int32) (hn : n ≤ 6) : v_X2_keepIfNearer_0 n os fl wa fo sb lp tr fs sk ct il kn sp py bo (fun u => u = ((if knC fo fm pn a1 a2 = true then a1 else fm), (if knC fo fm pn a1 a2 = true then a2 else pn), (if knC fo fm pn a1 a2 = true then va_cpy tr nt 0 0 6 else nt)))  a1 a2 fm pn nt := by
  unfold v_X2_keepIfNearer_0
  refine ⟨fun h => ?_, fun h => ⟨fun h2 => ?_, fun h2 => ⟨fun h3 => ⟨fun h4 => ?_, fun h4 => ?_⟩, fun h3 => ?_⟩⟩⟩
  · simp [knC, h, v_X2_keepIfNearer_31]
  · simp [knC, h2, v_X2_keepIfNearer_31]
  · simp [knC, h, h2, h4]
  · simp [knC, h3, h4, v_X2_keepIfNearer_31]
  · simp [knC, h, h2, h3]
theorem h_X2_weigh (n : Nat) (os : Int32) (fl : Int32) (wa : Int32) (tr : Nat → Int32) (fs : Nat → Int32) (sk : Nat → Int32) (il : Int32) (kn : Nat → Int32) (sp : Nat → Int32) (py : Nat → Int32) (bo : Nat → Int32) (fo : Int32) (sb : Int32) (lp : Int32) (fm : Int32) (pn : Int32) (ct : Nat → Int32) (nt : Nat → Int32) (hn : n ≤ 6) (K6 : Int32 → Int32 → Int32 → Int32 → Int32 → Int32 → Int32 → Int32 → (Nat → Int32) → (Nat → Int32) → Prop) (R6 : ∀ x1 x2 x3 fo_ sb_ lp_ fm_ pn_ ct_ nt_, v_X2_weigh_6 n os fl wa tr fs sk il kn sp py bo (fun u => u = wgA n py bo tr (fo, sb, lp, fm, pn, ct, nt)) K6 x1 x2 x3 fo_ sb_ lp_ fm_ pn_ ct_ nt_ → K6 x1 x2 x3 fo_ sb_ lp_ fm_ pn_ ct_ nt_) : v_X2_weigh_0 n os fl wa tr fs sk il kn sp py bo (fun u => u = wgA n py bo tr (fo, sb, lp, fm, pn, ct, nt)) K6  fo sb lp fm pn ct nt := by
  unfold v_X2_weigh_0
  have key := up_ind (fun k => K6 (paS py tr k) (mvS bo tr k) (nI k) fo (sbS tr sb k) lp fm pn ct nt) n (R6 _ _ _ _ _ _ _ _ _ _ ?_) (fun k hk ih => R6 _ _ _ _ _ _ _ _ _ _ ?_)
  · exact key
  · exact ⟨fun _ => rfl, fun h => absurd (nI_le (Nat.le_refl _) (by omega)) h⟩
  · refine ⟨fun h => absurd h (nI_ge hk (by omega)), fun _ => ⟨vp_in_nI (by omega) (by omega), ?_⟩⟩
    have ec : (nI k).toNatClampNeg = k := nI_clamp (by omega)
    have hv : vp_in (nI k) 6 := vp_in_nI (by omega) (by omega)
    simp only [v_X2_weigh_53, v_X2_weigh_73, nI_1, ec, atP_nI hk (by omega : n < 2 ^ 31)]
    refine ⟨fun h => ⟨hv, fun h2 => ?_, fun h2 => ?_⟩, fun h => ⟨hv, fun h2 => ?_, fun h2 => ?_⟩⟩
    · simpa only [paS, mvS, sI, sbS, if_pos h, if_pos h2, Int32.add_zero] using ih
    · simpa only [paS, mvS, sI, sbS, if_pos h, if_neg h2, Int32.add_zero] using ih
    · simpa only [paS, mvS, sI, sbS, if_neg h, if_pos h2, Int32.add_zero] using ih
    · simpa only [paS, mvS, sI, sbS, if_neg h, if_neg h2, Int32.add_zero] using ih
theorem h_X2_weighIfWhole (n : Nat) (os : Int32) (fl : Int32) (wa : Int32) (tr : Nat → Int32) (fs : Nat → Int32) (il : Int32) (kn : Nat → Int32) (sp : Nat → Int32) (py : Nat → Int32) (bo : Nat → Int32) (fo : Int32) (sb : Int32) (lp : Int32) (fm : Int32) (pn : Int32) (sk : Nat → Int32) (ct : Nat → Int32) (nt : Nat → Int32) (hn : n ≤ 6) (K6 : Int32 → Int32 → Int32 → Int32 → Int32 → Int32 → (Nat → Int32) → (Nat → Int32) → (Nat → Int32) → Prop) (R6 : ∀ x1 fo_ sb_ lp_ fm_ pn_ sk_ ct_ nt_, v_X2_weighIfWhole_6 n os fl wa tr fs il kn sp py bo (fun u => u = wwB n kn py bo fl wa sk tr (fo, sb, lp, fm, pn, ct, nt)) K6 x1 fo_ sb_ lp_ fm_ pn_ sk_ ct_ nt_ → K6 x1 fo_ sb_ lp_ fm_ pn_ sk_ ct_ nt_) : v_X2_weighIfWhole_0 n os fl wa tr fs il kn sp py bo (fun u => u = wwB n kn py bo fl wa sk tr (fo, sb, lp, fm, pn, ct, nt)) K6  fo sb lp fm pn sk ct nt := by
  unfold v_X2_weighIfWhole_0
  have key := up_ind (fun k => alR fl wa (shK kn tr sk n) k = true → K6 (nI k) fo sb lp fm pn (shK kn tr sk n) ct nt) 5 (fun ha => R6 _ _ _ _ _ _ _ _ _ ?_) (fun k hk ih => fun ha => R6 _ _ _ _ _ _ _ _ _ ?_)
  · exact key rfl
  · refine ⟨fun _ => fun u hu => ?_, fun h => absurd (nI_le (a := 5) (b := 5) (Nat.le_refl _) (by omega)) h⟩
    subst hu
    simp only [wwB, wwA, ha, if_true]
  · refine ⟨fun h => absurd h (nI_ge (b := 5) hk (by omega)), fun _ => ?_⟩
    simp only [bI_0, Bool.not_eq_false, v_X2_weighIfWhole_31, nI_1]
    refine ⟨fun h => ?_, fun h => ⟨vp_in_nI hk (by omega), fun h2 => ?_, fun h2 => ?_⟩⟩
    · exact ih (by simp [alR, ha, h])
    · have hf : alR fl wa (shK kn tr sk n) 5 = false := alR_step (k := k) (by simp [alR, h, h2]) 5 (by omega)
      simp only [wwB, wwA, hf, Bool.false_eq_true, if_false]
    · exact ih (by simp [alR, ha, h2])
theorem h_X2_placeIn (d k : Nat) (n : Nat) (fl : Int32) (wa : Int32) (il : Int32) (kn : Nat → Int32) (sp : Nat → Int32) (py : Nat → Int32) (bo : Nat → Int32) (os : Int32) (fo : Int32) (sb : Int32) (lp : Int32) (fm : Int32) (pn : Int32) (tr : Nat → Int32) (fs : Nat → Int32) (sk : Nat → Int32) (ct : Nat → Int32) (nt : Nat → Int32) (a1 : Int32) (a2 : Int32) (hn : n ≤ 6) (hkd : k + d = n) (h0 : k < n) (h1 : vp_in a1 5) (h2 : a2 = nI k) : v_X2_placeIn_0 d k n fl wa il kn sp py bo (fun u => u = piF n il kn sp py bo fl wa d k a1 (os, fo, sb, lp, fm, pn, tr, fs, sk, ct, nt))  a1 a2 os fo sb lp fm pn tr fs sk ct nt := by
  unfold v_X2_placeIn_0
  subst h2
  have ec : (nI k).toNatClampNeg = k := nI_clamp (by omega)
  simp only [bI_0, Bool.not_eq_false, ec]
  refine ⟨h1, fun h => ?_, fun h => ⟨fun h3 => ?_, fun h3 => ⟨vp_in_nI (by omega) (by omega), h1, h1, h0, nI_1 k, fun u hu => ⟨h1, h1, ?_⟩⟩⟩⟩
  · have e : (decide (pFs (os, fo, sb, lp, fm, pn, tr, fs, sk, ct, nt) a1.toNatClampNeg = 0) || !canT n il sp (nI k) a1) = true := by simp [pFs, h]
    rw [piF, pinG, if_pos e]
  · have e : (decide (pFs (os, fo, sb, lp, fm, pn, tr, fs, sk, ct, nt) a1.toNatClampNeg = 0) || !canT n il sp (nI k) a1) = true := by simp [h3]
    rw [piF, pinG, if_pos e]
  · have e : ¬ (decide (pFs (os, fo, sb, lp, fm, pn, tr, fs, sk, ct, nt) a1.toNatClampNeg = 0) || !canT n il sp (nI k) a1) = true := by simp [pFs, h, h3]
    rw [piF, pinG, if_neg e, hu]
    rfl
theorem h_X2_placeFrom (d k : Nat) (n : Nat) (fl : Int32) (wa : Int32) (il : Int32) (kn : Nat → Int32) (sp : Nat → Int32) (py : Nat → Int32) (bo : Nat → Int32) (os : Int32) (fo : Int32) (sb : Int32) (lp : Int32) (fm : Int32) (pn : Int32) (tr : Nat → Int32) (fs : Nat → Int32) (sk : Nat → Int32) (ct : Nat → Int32) (nt : Nat → Int32) (a1 : Int32) (hn : n ≤ 6) (hkd : k + d = n) (h0 : a1 = nI k) (K35 : Int32 → Int32 → Int32 → Int32 → Int32 → Int32 → Int32 → Int32 → (Nat → Int32) → (Nat → Int32) → (Nat → Int32) → (Nat → Int32) → (Nat → Int32) → Prop) (R35 : ∀ x1 x2 os_ fo_ sb_ lp_ fm_ pn_ tr_ fs_ sk_ ct_ nt_, v_X2_placeFrom_35 d k n fl wa il kn sp py bo (fun u => u = pf n il kn sp py bo fl wa d k (os, fo, sb, lp, fm, pn, tr, fs, sk, ct, nt)) K35 x1 x2 os_ fo_ sb_ lp_ fm_ pn_ tr_ fs_ sk_ ct_ nt_ → K35 x1 x2 os_ fo_ sb_ lp_ fm_ pn_ tr_ fs_ sk_ ct_ nt_) : v_X2_placeFrom_0 d k n fl wa il kn sp py bo (fun u => u = pf n il kn sp py bo fl wa d k (os, fo, sb, lp, fm, pn, tr, fs, sk, ct, nt)) K35 a1 os fo sb lp fm pn tr fs sk ct nt := by
  unfold v_X2_placeFrom_0
  subst h0
  have ec : (nI k).toNatClampNeg = k := nI_clamp (by omega)
  simp only [bI_0, Bool.not_eq_false]
  refine ⟨fun h => ⟨fun h2 => fun u hu => ?_, fun h2 => ?_⟩, fun h => ?_⟩
  · have hk : ¬ k < n := fun hk => by rw [inB_nI hk (by omega)] at h2; exact absurd h2 (by decide)
    have hd : d = 0 := by omega
    subst hd
    rw [pf, if_pos (show (os, fo, sb, lp, fm, pn, tr, fs, sk, ct, nt).1 ≤ nI n - nI k from h), hu]
    rfl
  · obtain ⟨j, hj, hje⟩ := (inB_iff (by omega)).mp h2
    have hkj : k = j := (nI_eq (by omega) (by omega)).mp hje
    have hk : k < n := by omega
    obtain ⟨d', rfl⟩ : ∃ d', d = d' + 1 := ⟨d - 1, by omega⟩
    obtain ⟨X, hX0, hXs, ep⟩ : ∃ X : Nat → PS, X 0 = (os, fo, sb, lp, fm, pn, tr, fs, sk, ct, nt) ∧ (∀ t, X (t + 1) = piF n il kn sp py bo fl wa (d' + 1) k (nI t) (X t)) ∧ pf n il kn sp py bo fl wa (d' + 1) k (os, fo, sb, lp, fm, pn, tr, fs, sk, ct, nt) = pf n il kn sp py bo fl wa d' (k + 1) (setT k (X 5)) := ⟨fun t => l5 (fun t => pinG (pf n il kn sp py bo fl wa d' (k + 1)) (canT n il sp (nI k) (nI t)) k (nI t)) t (os, fo, sb, lp, fm, pn, tr, fs, sk, ct, nt), rfl, fun t => rfl, by rw [pf]; exact if_pos h⟩
    have key := up_ind (fun t => K35 (nI k) (nI t) (X t).1 (X t).2.1 (X t).2.2.1 (X t).2.2.2.1 (X t).2.2.2.2.1 (X t).2.2.2.2.2.1 (X t).2.2.2.2.2.2.1 (X t).2.2.2.2.2.2.2.1 (X t).2.2.2.2.2.2.2.2.1 (X t).2.2.2.2.2.2.2.2.2.1 (X t).2.2.2.2.2.2.2.2.2.2) 5 (R35 _ _ _ _ _ _ _ _ _ _ _ _ _ ?_) (fun t ht ih => R35 _ _ _ _ _ _ _ _ _ _ _ _ _ ?_)
    · rw [hX0] at key
      exact key
    · refine ⟨fun _ => ⟨vp_in_nI (by omega) (by omega), hk, nI_1 k, fun u hu => ?_⟩, fun h => absurd (nI_le (a := 5) (b := 5) (Nat.le_refl _) (by omega)) h⟩
      rw [ec] at hu
      have e1 : u = pf n il kn sp py bo fl wa d' (k + 1) (setT k (X 5)) := hu
      rw [← ep] at e1
      exact e1
    · refine ⟨fun h => absurd h (nI_ge (b := 5) ht (by omega)), fun _ => ⟨hk, vp_in_nI ht (by omega), rfl, fun u hu => ?_⟩⟩
      have e : u = X (t + 1) := by rw [hXs t]; exact hu
      rw [e, nI_1]
      exact ih
  · cases d with
    | zero => rw [pf]; exact (if_neg h).symm
    | succ d => rw [pf]; exact (if_neg h).symm
end
section
def v_X0_setSpoken_0 (n : Nat) (ti : Nat → Int32) (on : Nat → Int32) (he : Nat → Int32) (il : Int32) (kn : Nat → Int32) (sp : Nat → Int32) (py : Nat → Int32) (bo : Nat → Int32) (post : ((Nat → Int32) × (Nat → Int32)) → Prop) (a1 : Int32) (a2 : Int32) (a3 : Int32) (so : Nat → Int32) (sd : Nat → Int32) : Prop := (((bI (inB a1 16)) = 0 → post (so, sd)) ∧ (¬ (bI (inB a1 16)) = 0 → (vp_in a1 16 ∧ (vp_in a1 16 ∧ post (upd so a1.toNatClampNeg a2, upd sd a1.toNatClampNeg a3)))))
def v_X0_setSilent_0 (n : Nat) (ti : Nat → Int32) (on : Nat → Int32) (he : Nat → Int32) (il : Int32) (kn : Nat → Int32) (sp : Nat → Int32) (py : Nat → Int32) (bo : Nat → Int32) (post : ((Nat → Int32) × (Nat → Int32)) → Prop) (a1 : Int32) (so : Nat → Int32) (sd : Nat → Int32) : Prop := post ((if inB a1 16 = true then upd so a1.toNatClampNeg (-1 : Int32) else so), (if inB a1 16 = true then upd sd a1.toNatClampNeg (0 : Int32) else sd))
def v_X0_isSilent_17 (n : Nat) (so : Nat → Int32) (sd : Nat → Int32) (ti : Nat → Int32) (on : Nat → Int32) (he : Nat → Int32) (il : Int32) (kn : Nat → Int32) (sp : Nat → Int32) (py : Nat → Int32) (bo : Nat → Int32) (post : Int32 → (Unit) → Prop) : Prop := post (1 : Int32) ()
def v_X0_isSilent_0 (n : Nat) (so : Nat → Int32) (sd : Nat → Int32) (ti : Nat → Int32) (on : Nat → Int32) (he : Nat → Int32) (il : Int32) (kn : Nat → Int32) (sp : Nat → Int32) (py : Nat → Int32) (bo : Nat → Int32) (post : Int32 → (Unit) → Prop) (a1 : Int32) : Prop := (((bI (inB a1 16)) = 0 → v_X0_isSilent_17 n so sd ti on he il kn sp py bo post  ) ∧ (¬ (bI (inB a1 16)) = 0 → (vp_in a1 16 ∧ (((so a1.toNatClampNeg) = (-1 : Int32) → v_X0_isSilent_17 n so sd ti on he il kn sp py bo post  ) ∧ (¬ (so a1.toNatClampNeg) = (-1 : Int32) → post (0 : Int32) ())))))
def v_X0_spokenHalves_0 (n : Nat) (so : Nat → Int32) (sd : Nat → Int32) (ti : Nat → Int32) (on : Nat → Int32) (he : Nat → Int32) (il : Int32) (kn : Nat → Int32) (sp : Nat → Int32) (py : Nat → Int32) (bo : Nat → Int32) (post : Int32 → (Unit) → Prop) (K4 : Int32 → Int32 → Prop) : Prop := K4 (0 : Int32) (0 : Int32)
def v_X0_spokenHalves_21 (n : Nat) (so : Nat → Int32) (sd : Nat → Int32) (ti : Nat → Int32) (on : Nat → Int32) (he : Nat → Int32) (il : Int32) (kn : Nat → Int32) (sp : Nat → Int32) (py : Nat → Int32) (bo : Nat → Int32) (post : Int32 → (Unit) → Prop) (K4 : Int32 → Int32 → Prop) (x1 : Int32) (x2 : Int32) : Prop := K4 x1 (x2 + 1)
def v_X0_spokenHalves_4 (n : Nat) (so : Nat → Int32) (sd : Nat → Int32) (ti : Nat → Int32) (on : Nat → Int32) (he : Nat → Int32) (il : Int32) (kn : Nat → Int32) (sp : Nat → Int32) (py : Nat → Int32) (bo : Nat → Int32) (post : Int32 → (Unit) → Prop) (K4 : Int32 → Int32 → Prop) (x1 : Int32) (x2 : Int32) : Prop := (((16 : Int32) ≤ x2 → post x1 ()) ∧ (¬ (16 : Int32) ≤ x2 → (((bI (silF so x2)) = 0 → v_X0_spokenHalves_21 n so sd ti on he il kn sp py bo post K4 (x1 + 1) x2) ∧ (¬ (bI (silF so x2)) = 0 → v_X0_spokenHalves_21 n so sd ti on he il kn sp py bo post K4 x1 x2))))
def v_X0_isFresher_26 (n : Nat) (so : Nat → Int32) (sd : Nat → Int32) (ti : Nat → Int32) (on : Nat → Int32) (he : Nat → Int32) (il : Int32) (kn : Nat → Int32) (sp : Nat → Int32) (py : Nat → Int32) (bo : Nat → Int32) (post : Int32 → (Unit) → Prop) : Prop := post (1 : Int32) ()
def v_X0_isFresher_0 (n : Nat) (so : Nat → Int32) (sd : Nat → Int32) (ti : Nat → Int32) (on : Nat → Int32) (he : Nat → Int32) (il : Int32) (kn : Nat → Int32) (sp : Nat → Int32) (py : Nat → Int32) (bo : Nat → Int32) (post : Int32 → (Unit) → Prop) (a1 : Int32) (a2 : Int32) : Prop := (((bI (inB a2 (nI n))) = 0 → v_X0_isFresher_26 n so sd ti on he il kn sp py bo post  ) ∧ (¬ (bI (inB a2 (nI n))) = 0 → (vp_in a1 6 ∧ (vp_in a2 6 ∧ (((ti a2.toNatClampNeg) ≤ (ti a1.toNatClampNeg) → post (0 : Int32) ()) ∧ (¬ (ti a2.toNatClampNeg) ≤ (ti a1.toNatClampNeg) → v_X0_isFresher_26 n so sd ti on he il kn sp py bo post  ))))))
def v_X0_chooseOn_0 (n : Nat) (so : Nat → Int32) (sd : Nat → Int32) (ti : Nat → Int32) (he : Nat → Int32) (il : Int32) (kn : Nat → Int32) (sp : Nat → Int32) (py : Nat → Int32) (bo : Nat → Int32) (post : ((Nat → Int32)) → Prop) (K10 : Int32 → (Nat → Int32) → Prop) (on : Nat → Int32) : Prop := ((5 < 1000) ∧ K10 (0 : Int32) (fillA on 5 (-1 : Int32)))
def v_X0_chooseOn_58 (n : Nat) (so : Nat → Int32) (sd : Nat → Int32) (ti : Nat → Int32) (he : Nat → Int32) (il : Int32) (kn : Nat → Int32) (sp : Nat → Int32) (py : Nat → Int32) (bo : Nat → Int32) (post : ((Nat → Int32)) → Prop) (K10 : Int32 → (Nat → Int32) → Prop) (x1 : Int32) (on_ : Nat → Int32) : Prop := K10 (x1 + 1) on_
def v_X0_chooseOn_10 (n : Nat) (so : Nat → Int32) (sd : Nat → Int32) (ti : Nat → Int32) (he : Nat → Int32) (il : Int32) (kn : Nat → Int32) (sp : Nat → Int32) (py : Nat → Int32) (bo : Nat → Int32) (post : ((Nat → Int32)) → Prop) (K10 : Int32 → (Nat → Int32) → Prop) (x1 : Int32) (on_ : Nat → Int32) : Prop := (((nI n) ≤ x1 → post on_) ∧ (¬ (nI n) ≤ x1 → (((bI (inB (atP n bo 5 x1) 5)) = 0 → v_X0_chooseOn_58 n so sd ti he il kn sp py bo post K10 x1 on_) ∧ (¬ (bI (inB (atP n bo 5 x1) 5)) = 0 → (vp_in (atP n bo 5 x1) 5 ∧ ((vp_in x1 6) ∧ (((bI (frF n ti x1 (on_ (atP n bo 5 x1).toNatClampNeg))) = 0 → v_X0_chooseOn_58 n so sd ti he il kn sp py bo post K10 x1 on_) ∧ (¬ (bI (frF n ti x1 (on_ (atP n bo 5 x1).toNatClampNeg))) = 0 → (vp_in (atP n bo 5 x1) 5 ∧ v_X0_chooseOn_58 n so sd ti he il kn sp py bo post K10 x1 (upd on_ (atP n bo 5 x1).toNatClampNeg x1))))))))))
def v_X0_wayFrom_0 (n : Nat) (so : Nat → Int32) (sd : Nat → Int32) (ti : Nat → Int32) (on : Nat → Int32) (he : Nat → Int32) (il : Int32) (kn : Nat → Int32) (sp : Nat → Int32) (py : Nat → Int32) (bo : Nat → Int32) (post : Int32 → (Unit) → Prop) (K49 : Int32 → Int32 → Int32 → Int32 → Prop) (a1 : Int32) (a2 : Int32) : Prop := ((a1 = (-1 : Int32) → post (-1 : Int32) ()) ∧ (¬ a1 = (-1 : Int32) → ((a1 = a2 → post (-1 : Int32) ()) ∧ (¬ a1 = a2 → (vp_in a2 5 ∧ (((on a2.toNatClampNeg) = (-1 : Int32) → post (-1 : Int32) ()) ∧ (¬ (on a2.toNatClampNeg) = (-1 : Int32) → (vp_in a2 5 ∧ (((bI (hs (atP n kn 0 (on a2.toNatClampNeg)) a1)) = 0 → K49 a1 a2 (atP n kn 0 (on a2.toNatClampNeg)) (0 : Int32)) ∧ (¬ (bI (hs (atP n kn 0 (on a2.toNatClampNeg)) a1)) = 0 → post a2 ()))))))))))
def v_X0_wayFrom_100 (n : Nat) (so : Nat → Int32) (sd : Nat → Int32) (ti : Nat → Int32) (on : Nat → Int32) (he : Nat → Int32) (il : Int32) (kn : Nat → Int32) (sp : Nat → Int32) (py : Nat → Int32) (bo : Nat → Int32) (post : Int32 → (Unit) → Prop) (K49 : Int32 → Int32 → Int32 → Int32 → Prop) (x1 : Int32) (x2 : Int32) (x3 : Int32) (x4 : Int32) : Prop := K49 x1 x2 x3 (x4 + 1)
def v_X0_wayFrom_49 (n : Nat) (so : Nat → Int32) (sd : Nat → Int32) (ti : Nat → Int32) (on : Nat → Int32) (he : Nat → Int32) (il : Int32) (kn : Nat → Int32) (sp : Nat → Int32) (py : Nat → Int32) (bo : Nat → Int32) (post : Int32 → (Unit) → Prop) (K49 : Int32 → Int32 → Int32 → Int32 → Prop) (x1 : Int32) (x2 : Int32) (x3 : Int32) (x4 : Int32) : Prop := (((5 : Int32) ≤ x4 → post (-1 : Int32) ()) ∧ (¬ (5 : Int32) ≤ x4 → ((x4 = x1 → v_X0_wayFrom_100 n so sd ti on he il kn sp py bo post K49 x1 x2 x3 x4) ∧ (¬ x4 = x1 → ((x4 = x2 → v_X0_wayFrom_100 n so sd ti on he il kn sp py bo post K49 x1 x2 x3 x4) ∧ (¬ x4 = x2 → (((bI (hs x3 x4)) = 0 → v_X0_wayFrom_100 n so sd ti on he il kn sp py bo post K49 x1 x2 x3 x4) ∧ (¬ (bI (hs x3 x4)) = 0 → (vp_in x4 5 ∧ (((bI (hs (atP n kn 0 (on x4.toNatClampNeg)) x1)) = 0 → v_X0_wayFrom_100 n so sd ti on he il kn sp py bo post K49 x1 x2 x3 x4) ∧ (¬ (bI (hs (atP n kn 0 (on x4.toNatClampNeg)) x1)) = 0 → post x4 ())))))))))))
def v_X0_isTurning_0 (n : Nat) (so : Nat → Int32) (sd : Nat → Int32) (ti : Nat → Int32) (on : Nat → Int32) (he : Nat → Int32) (il : Int32) (kn : Nat → Int32) (sp : Nat → Int32) (py : Nat → Int32) (bo : Nat → Int32) (post : Int32 → (Unit) → Prop) (a1 : Int32) : Prop := (((bI (inB (atP n bo 5 a1) 5)) = 0 → post (0 : Int32) ()) ∧ (¬ (bI (inB (atP n bo 5 a1) 5)) = 0 → (vp_in (atP n bo 5 a1) 5 ∧ (((on (atP n bo 5 a1).toNatClampNeg) = a1 → (vp_in (atP n bo 5 a1) 5 ∧ (((he (atP n bo 5 a1).toNatClampNeg) = (-1 : Int32) → post (0 : Int32) ()) ∧ (¬ (he (atP n bo 5 a1).toNatClampNeg) = (-1 : Int32) → post (1 : Int32) ())))) ∧ (¬ (on (atP n bo 5 a1).toNatClampNeg) = a1 → post (0 : Int32) ())))))
def v_X0_tire_0 (n : Nat) (so : Nat → Int32) (sd : Nat → Int32) (on : Nat → Int32) (he : Nat → Int32) (il : Int32) (kn : Nat → Int32) (sp : Nat → Int32) (py : Nat → Int32) (bo : Nat → Int32) (post : ((Nat → Int32)) → Prop) (K2 : Int32 → Int32 → (Nat → Int32) → Prop) (a1 : Int32) (ti : Nat → Int32) : Prop := K2 a1 (0 : Int32) ti
def v_X0_tire_52 (n : Nat) (so : Nat → Int32) (sd : Nat → Int32) (on : Nat → Int32) (he : Nat → Int32) (il : Int32) (kn : Nat → Int32) (sp : Nat → Int32) (py : Nat → Int32) (bo : Nat → Int32) (post : ((Nat → Int32)) → Prop) (K2 : Int32 → Int32 → (Nat → Int32) → Prop) (x1 : Int32) (x2 : Int32) (ti_ : Nat → Int32) : Prop := K2 x1 (x2 + 1) ti_
def v_X0_tire_2 (n : Nat) (so : Nat → Int32) (sd : Nat → Int32) (on : Nat → Int32) (he : Nat → Int32) (il : Int32) (kn : Nat → Int32) (sp : Nat → Int32) (py : Nat → Int32) (bo : Nat → Int32) (post : ((Nat → Int32)) → Prop) (K2 : Int32 → Int32 → (Nat → Int32) → Prop) (x1 : Int32) (x2 : Int32) (ti_ : Nat → Int32) : Prop := (((nI n) ≤ x2 → post ti_) ∧ (¬ (nI n) ≤ x2 → (((bI (tuF n bo on he x2)) = 0 → (vp_in x2 6 ∧ (vp_in x2 6 ∧ v_X0_tire_52 n so sd on he il kn sp py bo post K2 x1 x2 (upd ti_ x2.toNatClampNeg (if (0 : Int32) < ((ti_ x2.toNatClampNeg) - (2 : Int32)) then ((ti_ x2.toNatClampNeg) - (2 : Int32)) else (0 : Int32)))))) ∧ (¬ (bI (tuF n bo on he x2)) = 0 → (vp_in x2 6 ∧ (vp_in x2 6 ∧ v_X0_tire_52 n so sd on he il kn sp py bo post K2 x1 x2 (upd ti_ x2.toNatClampNeg ((ti_ x2.toNatClampNeg) + x1))))))))
def v_X0_lateIn_41 (n : Nat) (so : Nat → Int32) (sd : Nat → Int32) (ti : Nat → Int32) (on : Nat → Int32) (he : Nat → Int32) (il : Int32) (kn : Nat → Int32) (sp : Nat → Int32) (py : Nat → Int32) (bo : Nat → Int32) (post : Int32 → (Unit) → Prop) (x2 : Int32) (s0 : Int32) : Prop := (vp_in x2 5 ∧ (((he x2.toNatClampNeg) = x2 → post s0 ()) ∧ (¬ (he x2.toNatClampNeg) = x2 → post (((2 : Int32) * s0) + (1 : Int32)) ())))
def v_X0_lateIn_0 (n : Nat) (so : Nat → Int32) (sd : Nat → Int32) (ti : Nat → Int32) (on : Nat → Int32) (he : Nat → Int32) (il : Int32) (kn : Nat → Int32) (sp : Nat → Int32) (py : Nat → Int32) (bo : Nat → Int32) (post : Int32 → (Unit) → Prop) (a1 : Int32) (a2 : Int32) : Prop := (((bI (inB a1 16)) = 0 → post (0 : Int32) ()) ∧ (¬ (bI (inB a1 16)) = 0 → (((bI (inB a2 5)) = 0 → post (0 : Int32) ()) ∧ (¬ (bI (inB a2 5)) = 0 → (vp_in a2 5 ∧ (((he a2.toNatClampNeg) = (-1 : Int32) → post (0 : Int32) ()) ∧ (¬ (he a2.toNatClampNeg) = (-1 : Int32) → (vp_in a1 16 ∧ (((sd a1.toNatClampNeg) ≤ (5 : Int32) → v_X0_lateIn_41 n so sd ti on he il kn sp py bo post  a2 (1 : Int32)) ∧ (¬ (sd a1.toNatClampNeg) ≤ (5 : Int32) → v_X0_lateIn_41 n so sd ti on he il kn sp py bo post  a2 (2 : Int32)))))))))))
def v_X0_tiredAbove_0 (n : Nat) (so : Nat → Int32) (sd : Nat → Int32) (ti : Nat → Int32) (on : Nat → Int32) (he : Nat → Int32) (il : Int32) (kn : Nat → Int32) (sp : Nat → Int32) (py : Nat → Int32) (bo : Nat → Int32) (post : Int32 → (Unit) → Prop) (K4 : Int32 → Int32 → Int32 → Prop) (a1 : Int32) : Prop := K4 a1 (0 : Int32) (0 : Int32)
def v_X0_tiredAbove_31 (n : Nat) (so : Nat → Int32) (sd : Nat → Int32) (ti : Nat → Int32) (on : Nat → Int32) (he : Nat → Int32) (il : Int32) (kn : Nat → Int32) (sp : Nat → Int32) (py : Nat → Int32) (bo : Nat → Int32) (post : Int32 → (Unit) → Prop) (K4 : Int32 → Int32 → Int32 → Prop) (x1 : Int32) (x2 : Int32) (x3 : Int32) : Prop := K4 x1 x2 (x3 + 1)
def v_X0_tiredAbove_4 (n : Nat) (so : Nat → Int32) (sd : Nat → Int32) (ti : Nat → Int32) (on : Nat → Int32) (he : Nat → Int32) (il : Int32) (kn : Nat → Int32) (sp : Nat → Int32) (py : Nat → Int32) (bo : Nat → Int32) (post : Int32 → (Unit) → Prop) (K4 : Int32 → Int32 → Int32 → Prop) (x1 : Int32) (x2 : Int32) (x3 : Int32) : Prop := (((nI n) ≤ x3 → post x2 ()) ∧ (¬ (nI n) ≤ x3 → (vp_in x3 6 ∧ (((ti x3.toNatClampNeg) ≤ x1 → v_X0_tiredAbove_31 n so sd ti on he il kn sp py bo post K4 x1 x2 x3) ∧ (¬ (ti x3.toNatClampNeg) ≤ x1 → v_X0_tiredAbove_31 n so sd ti on he il kn sp py bo post K4 x1 (x2 ||| ((1 : Int32) <<< (x3 &&& 31))) x3)))))
def v_X0_playHalf_0 (n : Nat) (so : Nat → Int32) (sd : Nat → Int32) (il : Int32) (kn : Nat → Int32) (sp : Nat → Int32) (py : Nat → Int32) (bo : Nat → Int32) (post : ((Nat → Int32) × (Nat → Int32) × (Nat → Int32)) → Prop) (K14 : Int32 → Int32 → (Nat → Int32) → (Nat → Int32) → (Nat → Int32) → Prop) (a1 : Int32) (ti : Nat → Int32) (on : Nat → Int32) (he : Nat → Int32) : Prop := (((bI (inB a1 16)) = 0 → post (ti, on, he)) ∧ (¬ (bI (inB a1 16)) = 0 → K14 a1 (0 : Int32) ti (chO n bo ti on n) he))
def v_X0_playHalf_14 (n : Nat) (so : Nat → Int32) (sd : Nat → Int32) (il : Int32) (kn : Nat → Int32) (sp : Nat → Int32) (py : Nat → Int32) (bo : Nat → Int32) (post : ((Nat → Int32) × (Nat → Int32) × (Nat → Int32)) → Prop) (K14 : Int32 → Int32 → (Nat → Int32) → (Nat → Int32) → (Nat → Int32) → Prop) (x1 : Int32) (x2 : Int32) (ti_ : Nat → Int32) (on_ : Nat → Int32) (he_ : Nat → Int32) : Prop := (((5 : Int32) ≤ x2 → (vp_in x1 16 ∧ post (tiF n bo on_ he_ (sd x1.toNatClampNeg) ti_ n, on_, he_))) ∧ (¬ (5 : Int32) ≤ x2 → (vp_in x1 16 ∧ ((vp_in x2 5) ∧ (vp_in x2 5 ∧ K14 x1 (x2 + 1) ti_ on_ (upd he_ x2.toNatClampNeg (wyF n kn on_ (so x1.toNatClampNeg) x2)))))))
def v_X0_playThrough_0 (n : Nat) (so : Nat → Int32) (sd : Nat → Int32) (il : Int32) (kn : Nat → Int32) (sp : Nat → Int32) (py : Nat → Int32) (bo : Nat → Int32) (post : ((Nat → Int32) × (Nat → Int32) × (Nat → Int32)) → Prop) (K10 : Int32 → Int32 → (Nat → Int32) → (Nat → Int32) → (Nat → Int32) → Prop) (a1 : Int32) (ti : Nat → Int32) (on : Nat → Int32) (he : Nat → Int32) : Prop := ((6 < 1000) ∧ K10 a1 (0 : Int32) (fillA ti 6 (0 : Int32)) on he)
def v_X0_playThrough_10 (n : Nat) (so : Nat → Int32) (sd : Nat → Int32) (il : Int32) (kn : Nat → Int32) (sp : Nat → Int32) (py : Nat → Int32) (bo : Nat → Int32) (post : ((Nat → Int32) × (Nat → Int32) × (Nat → Int32)) → Prop) (K10 : Int32 → Int32 → (Nat → Int32) → (Nat → Int32) → (Nat → Int32) → Prop) (x1 : Int32) (x2 : Int32) (ti_ : Nat → Int32) (on_ : Nat → Int32) (he_ : Nat → Int32) : Prop := (((16 : Int32) ≤ x2 → post (ti_, on_, he_)) ∧ (¬ (16 : Int32) ≤ x2 → ((x1 < x2 → post (ti_, on_, he_)) ∧ (¬ x1 < x2 → (∀ u23 : (Nat → Int32) × (Nat → Int32) × (Nat → Int32), u23 = (plH n kn bo so sd x2 (ti_, on_, he_)) → K10 x1 (x2 + 1) u23.1 u23.2.1 u23.2.2)))))
def v_X0_lateOverall_0 (n : Nat) (so : Nat → Int32) (sd : Nat → Int32) (il : Int32) (kn : Nat → Int32) (sp : Nat → Int32) (py : Nat → Int32) (bo : Nat → Int32) (post : Int32 → ((Nat → Int32) × (Nat → Int32) × (Nat → Int32)) → Prop) (K12 : Int32 → Int32 → Int32 → (Nat → Int32) → (Nat → Int32) → (Nat → Int32) → Prop) (a1 : Int32) (ti : Nat → Int32) (on : Nat → Int32) (he : Nat → Int32) : Prop := ((6 < 1000) ∧ K12 a1 (0 : Int32) (0 : Int32) (fillA ti 6 (0 : Int32)) on he)
def v_X0_lateOverall_12 (n : Nat) (so : Nat → Int32) (sd : Nat → Int32) (il : Int32) (kn : Nat → Int32) (sp : Nat → Int32) (py : Nat → Int32) (bo : Nat → Int32) (post : Int32 → ((Nat → Int32) × (Nat → Int32) × (Nat → Int32)) → Prop) (K12 : Int32 → Int32 → Int32 → (Nat → Int32) → (Nat → Int32) → (Nat → Int32) → Prop) (x1 : Int32) (x2 : Int32) (x3 : Int32) (ti_ : Nat → Int32) (on_ : Nat → Int32) (he_ : Nat → Int32) : Prop := (((16 : Int32) ≤ x3 → post x2 (ti_, on_, he_)) ∧ (¬ (16 : Int32) ≤ x3 → (∀ u20 : (Nat → Int32) × (Nat → Int32) × (Nat → Int32), u20 = (plH n kn bo so sd x3 (ti_, on_, he_)) → K12 x1 (x2 + (laF sd u20.2.2 x3 x1)) (x3 + 1) u20.1 u20.2.1 u20.2.2)))
def v_X0_wornBits_0 (n : Nat) (so : Nat → Int32) (sd : Nat → Int32) (il : Int32) (kn : Nat → Int32) (sp : Nat → Int32) (py : Nat → Int32) (bo : Nat → Int32) (post : Int32 → ((Nat → Int32) × (Nat → Int32) × (Nat → Int32)) → Prop) (K12 : Int32 → Int32 → Int32 → (Nat → Int32) → (Nat → Int32) → (Nat → Int32) → Prop) (a1 : Int32) (ti : Nat → Int32) (on : Nat → Int32) (he : Nat → Int32) : Prop := ((6 < 1000) ∧ K12 a1 (0 : Int32) (0 : Int32) (fillA ti 6 (0 : Int32)) on he)
def v_X0_wornBits_12 (n : Nat) (so : Nat → Int32) (sd : Nat → Int32) (il : Int32) (kn : Nat → Int32) (sp : Nat → Int32) (py : Nat → Int32) (bo : Nat → Int32) (post : Int32 → ((Nat → Int32) × (Nat → Int32) × (Nat → Int32)) → Prop) (K12 : Int32 → Int32 → Int32 → (Nat → Int32) → (Nat → Int32) → (Nat → Int32) → Prop) (x1 : Int32) (x2 : Int32) (x3 : Int32) (ti_ : Nat → Int32) (on_ : Nat → Int32) (he_ : Nat → Int32) : Prop := (((16 : Int32) ≤ x3 → post x2 (ti_, on_, he_)) ∧ (¬ (16 : Int32) ≤ x3 → (∀ u20 : (Nat → Int32) × (Nat → Int32) × (Nat → Int32), u20 = (plH n kn bo so sd x3 (ti_, on_, he_)) → K12 x1 (x2 ||| (taF u20.1 x1 n)) (x3 + 1) u20.1 u20.2.1 u20.2.2)))
end
section
theorem h_X0_setSpoken (n : Nat) (ti : Nat → Int32) (on : Nat → Int32) (he : Nat → Int32) (il : Int32) (kn : Nat → Int32) (sp : Nat → Int32) (py : Nat → Int32) (bo : Nat → Int32) (so : Nat → Int32) (sd : Nat → Int32) (a1 : Int32) (a2 : Int32) (a3 : Int32) (hn : n ≤ 6) : v_X0_setSpoken_0 n ti on he il kn sp py bo (fun u => u = ((if inB a1 16 = true then upd so a1.toNatClampNeg a2 else so), (if inB a1 16 = true then upd sd a1.toNatClampNeg a3 else sd)))  a1 a2 a3 so sd := by
  unfold v_X0_setSpoken_0
  simp only [bI_0, Bool.not_eq_false]
  refine ⟨fun h => ?_, fun h => ?_⟩
  · simp [h]
  · have hv : vp_in a1 16 := inB_in (n := 16) h (Nat.le_refl _) (by omega)
    refine ⟨hv, hv, ?_⟩
    simp [h]
theorem h_X0_setSilent (n : Nat) (ti : Nat → Int32) (on : Nat → Int32) (he : Nat → Int32) (il : Int32) (kn : Nat → Int32) (sp : Nat → Int32) (py : Nat → Int32) (bo : Nat → Int32) (so : Nat → Int32) (sd : Nat → Int32) (a1 : Int32) (hn : n ≤ 6) : v_X0_setSilent_0 n ti on he il kn sp py bo (fun u => u = ((if inB a1 16 = true then upd so a1.toNatClampNeg (-1) else so), (if inB a1 16 = true then upd sd a1.toNatClampNeg 0 else sd)))  a1 so sd := by
  unfold v_X0_setSilent_0
  rfl
theorem h_X0_isSilent (n : Nat) (so : Nat → Int32) (sd : Nat → Int32) (ti : Nat → Int32) (on : Nat → Int32) (he : Nat → Int32) (il : Int32) (kn : Nat → Int32) (sp : Nat → Int32) (py : Nat → Int32) (bo : Nat → Int32) (a1 : Int32) (hn : n ≤ 6) : v_X0_isSilent_0 n so sd ti on he il kn sp py bo (fun r _ => r = bI (silF so a1))  a1 := by
  unfold v_X0_isSilent_0
  simp only [bI_0, Bool.not_eq_false, v_X0_isSilent_17]
  refine ⟨fun h => ?_, fun h => ⟨inB_in (n := 16) h (Nat.le_refl _) (by omega), fun h2 => ?_, fun h2 => ?_⟩⟩
  · simp [silF, h, bI]
  · simp [silF, h2, bI]
  · simp [silF, h, h2, bI]
theorem h_X0_spokenHalves (n : Nat) (so : Nat → Int32) (sd : Nat → Int32) (ti : Nat → Int32) (on : Nat → Int32) (he : Nat → Int32) (il : Int32) (kn : Nat → Int32) (sp : Nat → Int32) (py : Nat → Int32) (bo : Nat → Int32) (hn : n ≤ 6) (K4 : Int32 → Int32 → Prop) (R4 : ∀ x1 x2, v_X0_spokenHalves_4 n so sd ti on he il kn sp py bo (fun r _ => r = sI (fun k => bI (!decide (so k = -1))) 16) K4 x1 x2 → K4 x1 x2) : v_X0_spokenHalves_0 n so sd ti on he il kn sp py bo (fun r _ => r = sI (fun k => bI (!decide (so k = -1))) 16) K4 := by
  unfold v_X0_spokenHalves_0
  have key := up_ind (fun k => K4 (sI (fun k => bI (!decide (so k = -1))) k) (nI k)) 16 (R4 _ _ ?_) (fun k hk ih => R4 _ _ ?_)
  · exact key
  · exact ⟨fun _ => rfl, fun h => absurd (nI_le (a := 16) (b := 16) (Nat.le_refl _) (by omega)) h⟩
  · refine ⟨fun h => absurd h (nI_ge (b := 16) hk (by omega)), fun _ => ?_⟩
    have e : silF so (nI k) = decide (so k = -1) := by
      have h1 : inB (nI k) 16 = true := inB_nI (n := 16) hk (by omega)
      rw [silF, h1, nI_clamp (by omega)]; rfl
    simp only [bI_0, Bool.not_eq_false, v_X0_spokenHalves_21, nI_1, e]
    refine ⟨fun h => ?_, fun h => ?_⟩
    · simpa [sI, h, bI] using ih
    · simpa [sI, h, bI] using ih
theorem h_X0_isFresher (n : Nat) (so : Nat → Int32) (sd : Nat → Int32) (ti : Nat → Int32) (on : Nat → Int32) (he : Nat → Int32) (il : Int32) (kn : Nat → Int32) (sp : Nat → Int32) (py : Nat → Int32) (bo : Nat → Int32) (a1 : Int32) (a2 : Int32) (hn : n ≤ 6) (h0 : vp_in a1 6) : v_X0_isFresher_0 n so sd ti on he il kn sp py bo (fun r _ => r = bI (frF n ti a1 a2))  a1 a2 := by
  unfold v_X0_isFresher_0
  simp only [bI_0, Bool.not_eq_false, v_X0_isFresher_26]
  refine ⟨fun h => ?_, fun h => ⟨h0, inB_in h hn (by omega), fun h2 => ?_, fun h2 => ?_⟩⟩
  · simp [frF, h, bI]
  · simp [frF, h, h2, bI]
  · simp [frF, h2, bI]
theorem h_X0_chooseOn (n : Nat) (so : Nat → Int32) (sd : Nat → Int32) (ti : Nat → Int32) (he : Nat → Int32) (il : Int32) (kn : Nat → Int32) (sp : Nat → Int32) (py : Nat → Int32) (bo : Nat → Int32) (on : Nat → Int32) (hn : n ≤ 6) (K10 : Int32 → (Nat → Int32) → Prop) (R10 : ∀ x1 on_, v_X0_chooseOn_10 n so sd ti he il kn sp py bo (fun u => u = chO n bo ti on n) K10 x1 on_ → K10 x1 on_) : v_X0_chooseOn_0 n so sd ti he il kn sp py bo (fun u => u = chO n bo ti on n) K10  on := by
  unfold v_X0_chooseOn_0
  have key := up_ind (fun k => K10 (nI k) (chO n bo ti on k)) n (R10 _ _ ?_) (fun k hk ih => R10 _ _ ?_)
  · exact ⟨by omega, key⟩
  · exact ⟨fun _ => rfl, fun h => absurd (nI_le (Nat.le_refl _) (by omega)) h⟩
  · refine ⟨fun h => absurd h (nI_ge hk (by omega)), fun _ => ?_⟩
    simp only [bI_0, Bool.not_eq_false, v_X0_chooseOn_58, nI_1, atP_nI hk (by omega : n < 2 ^ 31)]
    refine ⟨fun h => ?_, fun h => ?_⟩
    · simpa [chO, h] using ih
    · have hv : vp_in (bo k) 5 := inB_in (n := 5) h (Nat.le_refl _) (by omega)
      refine ⟨hv, vp_in_nI (by omega) (by omega), fun h2 => ?_, fun h2 => ⟨hv, ?_⟩⟩
      · simpa [chO, h2] using ih
      · simpa [chO, h, h2] using ih
theorem h_X0_wayFrom (n : Nat) (so : Nat → Int32) (sd : Nat → Int32) (ti : Nat → Int32) (on : Nat → Int32) (he : Nat → Int32) (il : Int32) (kn : Nat → Int32) (sp : Nat → Int32) (py : Nat → Int32) (bo : Nat → Int32) (a1 : Int32) (a2 : Int32) (hn : n ≤ 6) (h0 : vp_in a2 5) (K49 : Int32 → Int32 → Int32 → Int32 → Prop) (R49 : ∀ x1 x2 x3 x4, v_X0_wayFrom_49 n so sd ti on he il kn sp py bo (fun r _ => r = wyF n kn on a1 a2) K49 x1 x2 x3 x4 → K49 x1 x2 x3 x4) : v_X0_wayFrom_0 n so sd ti on he il kn sp py bo (fun r _ => r = wyF n kn on a1 a2) K49 a1 a2 := by
  unfold v_X0_wayFrom_0
  simp only [bI_0, Bool.not_eq_false]
  refine ⟨fun h => ?_, fun h => ⟨fun h2 => ?_, fun h2 => ⟨h0, fun h3 => ?_, fun h3 => ⟨h0, fun h4 => ?_, fun h4 => ?_⟩⟩⟩⟩
  · simp [wyF, h]
  · simp [wyF, h2]
  · simp [wyF, h3]
  · have e : wyF n kn on a1 a2 = wyL (wyC n kn on a1 a2 (atP n kn 0 (on a2.toNatClampNeg))) 5 0 := by simp [wyF, h, h2, h3, h4]
    rw [e] at R49
    generalize atP n kn 0 (on a2.toNatClampNeg) = kt at R49 ⊢
    have key := up_ind (fun k => wyL (wyC n kn on a1 a2 kt) 5 0 = wyL (wyC n kn on a1 a2 kt) (5 - k) k → K49 a1 a2 kt (nI k)) 5 (fun hq => R49 _ _ _ _ ?_) (fun k hk ih => fun hq => R49 _ _ _ _ ?_)
    · exact key rfl
    · exact ⟨fun _ => hq.symm, fun h => absurd (nI_le (a := 5) (b := 5) (Nat.le_refl _) (by omega)) h⟩
    · refine ⟨fun h => absurd h (nI_ge (b := 5) hk (by omega)), fun _ => ?_⟩
      have ec : (nI k).toNatClampNeg = k := nI_clamp (by omega)
      have e5 : 5 - k = (5 - (k + 1)) + 1 := by omega
      have no : wyC n kn on a1 a2 kt k = false → K49 a1 a2 kt (nI (k + 1)) := fun hf => ih (by rw [hq, e5]; simp [wyL, hf])
      have ye : wyC n kn on a1 a2 kt k = true → nI k = wyL (wyC n kn on a1 a2 kt) 5 0 := fun hf => by rw [hq, e5]; simp [wyL, hf]
      simp only [bI_0, Bool.not_eq_false, v_X0_wayFrom_100, nI_1, ec]
      refine ⟨fun g => no ?_, fun g => ⟨fun g2 => no ?_, fun g2 => ⟨fun g3 => no ?_, fun g3 => ⟨vp_in_nI hk (by omega), fun g4 => no ?_, fun g4 => ye ?_⟩⟩⟩⟩
      · simp [wyC, g]
      · simp [wyC, g2]
      · simp [wyC, g3]
      · simp [wyC, g4]
      · simp [wyC, g, g2, g3, g4]
  · simp [wyF, h, h2, h3, h4]
theorem h_X0_isTurning (n : Nat) (so : Nat → Int32) (sd : Nat → Int32) (ti : Nat → Int32) (on : Nat → Int32) (he : Nat → Int32) (il : Int32) (kn : Nat → Int32) (sp : Nat → Int32) (py : Nat → Int32) (bo : Nat → Int32) (a1 : Int32) (hn : n ≤ 6) : v_X0_isTurning_0 n so sd ti on he il kn sp py bo (fun r _ => r = bI (tuF n bo on he a1))  a1 := by
  unfold v_X0_isTurning_0
  simp only [bI_0, Bool.not_eq_false]
  refine ⟨fun h => ?_, fun h => ?_⟩
  · simp [tuF, h, bI]
  · have hv : vp_in (atP n bo 5 a1) 5 := inB_in (n := 5) h (Nat.le_refl _) (by omega)
    refine ⟨hv, fun h2 => ⟨hv, fun h3 => ?_, fun h3 => ?_⟩, fun h2 => ?_⟩
    · simp [tuF, h3, bI]
    · simp [tuF, h, h2, h3, bI]
    · simp [tuF, h2, bI]
theorem h_X0_tire (n : Nat) (so : Nat → Int32) (sd : Nat → Int32) (on : Nat → Int32) (he : Nat → Int32) (il : Int32) (kn : Nat → Int32) (sp : Nat → Int32) (py : Nat → Int32) (bo : Nat → Int32) (ti : Nat → Int32) (a1 : Int32) (hn : n ≤ 6) (K2 : Int32 → Int32 → (Nat → Int32) → Prop) (R2 : ∀ x1 x2 ti_, v_X0_tire_2 n so sd on he il kn sp py bo (fun u => u = tiF n bo on he a1 ti n) K2 x1 x2 ti_ → K2 x1 x2 ti_) : v_X0_tire_0 n so sd on he il kn sp py bo (fun u => u = tiF n bo on he a1 ti n) K2 a1 ti := by
  unfold v_X0_tire_0
  have key := up_ind (fun k => K2 a1 (nI k) (tiF n bo on he a1 ti k)) n (R2 _ _ _ ?_) (fun k hk ih => R2 _ _ _ ?_)
  · exact key
  · exact ⟨fun _ => rfl, fun h => absurd (nI_le (Nat.le_refl _) (by omega)) h⟩
  · refine ⟨fun h => absurd h (nI_ge hk (by omega)), fun _ => ?_⟩
    have ec : (nI k).toNatClampNeg = k := nI_clamp (by omega)
    have hv : vp_in (nI k) 6 := vp_in_nI (by omega) (by omega)
    simp only [bI_0, Bool.not_eq_false, v_X0_tire_52, nI_1, ec]
    refine ⟨fun h => ⟨hv, hv, ?_⟩, fun h => ⟨hv, hv, ?_⟩⟩
    · simpa only [tiF, h, if_neg, Bool.false_eq_true, if_false] using ih
    · simpa only [tiF, h, if_pos, if_true] using ih
theorem h_X0_lateIn (n : Nat) (so : Nat → Int32) (sd : Nat → Int32) (ti : Nat → Int32) (on : Nat → Int32) (he : Nat → Int32) (il : Int32) (kn : Nat → Int32) (sp : Nat → Int32) (py : Nat → Int32) (bo : Nat → Int32) (a1 : Int32) (a2 : Int32) (hn : n ≤ 6) : v_X0_lateIn_0 n so sd ti on he il kn sp py bo (fun r _ => r = laF sd he a1 a2)  a1 a2 := by
  unfold v_X0_lateIn_0
  simp only [bI_0, Bool.not_eq_false, v_X0_lateIn_41]
  refine ⟨fun h => ?_, fun h => ⟨fun h2 => ?_, fun h2 => ?_⟩⟩
  · simp [laF, h]
  · simp [laF, h2]
  · have hv : vp_in a2 5 := inB_in (n := 5) h2 (Nat.le_refl _) (by omega)
    refine ⟨hv, fun h3 => ?_, fun h3 => ⟨inB_in (n := 16) h (Nat.le_refl _) (by omega), fun h4 => ⟨hv, fun h5 => ?_, fun h5 => ?_⟩, fun h4 => ⟨hv, fun h5 => ?_, fun h5 => ?_⟩⟩⟩
    · simp [laF, h3]
    · simp only [laF, h, h2, Bool.and_self, if_true, if_neg h3, if_pos h5, if_pos h4]
    · simp only [laF, h, h2, Bool.and_self, if_true, if_neg h3, if_neg h5, if_pos h4]
    · simp only [laF, h, h2, Bool.and_self, if_true, if_neg h3, if_pos h5, if_neg h4]
    · simp only [laF, h, h2, Bool.and_self, if_true, if_neg h3, if_neg h5, if_neg h4]
theorem h_X0_tiredAbove (n : Nat) (so : Nat → Int32) (sd : Nat → Int32) (ti : Nat → Int32) (on : Nat → Int32) (he : Nat → Int32) (il : Int32) (kn : Nat → Int32) (sp : Nat → Int32) (py : Nat → Int32) (bo : Nat → Int32) (a1 : Int32) (hn : n ≤ 6) (K4 : Int32 → Int32 → Int32 → Prop) (R4 : ∀ x1 x2 x3, v_X0_tiredAbove_4 n so sd ti on he il kn sp py bo (fun r _ => r = taF ti a1 n) K4 x1 x2 x3 → K4 x1 x2 x3) : v_X0_tiredAbove_0 n so sd ti on he il kn sp py bo (fun r _ => r = taF ti a1 n) K4 a1 := by
  unfold v_X0_tiredAbove_0
  have key := up_ind (fun k => K4 a1 (taF ti a1 k) (nI k)) n (R4 _ _ _ ?_) (fun k hk ih => R4 _ _ _ ?_)
  · exact key
  · exact ⟨fun _ => rfl, fun h => absurd (nI_le (Nat.le_refl _) (by omega)) h⟩
  · refine ⟨fun h => absurd h (nI_ge hk (by omega)), fun _ => ⟨vp_in_nI (by omega) (by omega), ?_⟩⟩
    have ec : (nI k).toNatClampNeg = k := nI_clamp (by omega)
    simp only [v_X0_tiredAbove_31, nI_1, ec]
    refine ⟨fun h => ?_, fun h => ?_⟩
    · simpa only [taF, if_pos h] using ih
    · simpa only [taF, if_neg h] using ih
theorem h_X0_playHalf (n : Nat) (so : Nat → Int32) (sd : Nat → Int32) (il : Int32) (kn : Nat → Int32) (sp : Nat → Int32) (py : Nat → Int32) (bo : Nat → Int32) (ti : Nat → Int32) (on : Nat → Int32) (he : Nat → Int32) (a1 : Int32) (hn : n ≤ 6) (K14 : Int32 → Int32 → (Nat → Int32) → (Nat → Int32) → (Nat → Int32) → Prop) (R14 : ∀ x1 x2 ti_ on_ he_, v_X0_playHalf_14 n so sd il kn sp py bo (fun u => u = (plH n kn bo so sd a1 (ti, on, he))) K14 x1 x2 ti_ on_ he_ → K14 x1 x2 ti_ on_ he_) : v_X0_playHalf_0 n so sd il kn sp py bo (fun u => u = (plH n kn bo so sd a1 (ti, on, he))) K14 a1 ti on he := by
  unfold v_X0_playHalf_0
  simp only [bI_0, Bool.not_eq_false]
  refine ⟨fun h => ?_, fun h => ?_⟩
  · simp [plH, h]
  · have hv : vp_in a1 16 := inB_in (n := 16) h (Nat.le_refl _) (by omega)
    have key := up_ind (fun k => K14 a1 (nI k) ti (chO n bo ti on n) (heF n kn (chO n bo ti on n) (so a1.toNatClampNeg) he k)) 5 (R14 _ _ _ _ _ ?_) (fun k hk ih => R14 _ _ _ _ _ ?_)
    · exact key
    · refine ⟨fun _ => ⟨hv, ?_⟩, fun h => absurd (nI_le (a := 5) (b := 5) (Nat.le_refl _) (by omega)) h⟩
      simp only [plH, h, if_true, plG]
    · refine ⟨fun h => absurd h (nI_ge (b := 5) hk (by omega)), fun _ => ⟨hv, vp_in_nI hk (by omega), vp_in_nI hk (by omega), ?_⟩⟩
      have ec : (nI k).toNatClampNeg = k := nI_clamp (by omega)
      simpa only [heF, nI_1, ec] using ih
theorem h_X0_playThrough (n : Nat) (so : Nat → Int32) (sd : Nat → Int32) (il : Int32) (kn : Nat → Int32) (sp : Nat → Int32) (py : Nat → Int32) (bo : Nat → Int32) (ti : Nat → Int32) (on : Nat → Int32) (he : Nat → Int32) (a1 : Int32) (hn : n ≤ 6) (h0 : inB a1 16 = true) (K10 : Int32 → Int32 → (Nat → Int32) → (Nat → Int32) → (Nat → Int32) → Prop) (R10 : ∀ x1 x2 ti_ on_ he_, v_X0_playThrough_10 n so sd il kn sp py bo (fun u => u = (plT n kn bo so sd (ti, on, he) (a1.toNatClampNeg + 1))) K10 x1 x2 ti_ on_ he_ → K10 x1 x2 ti_ on_ he_) : v_X0_playThrough_0 n so sd il kn sp py bo (fun u => u = (plT n kn bo so sd (ti, on, he) (a1.toNatClampNeg + 1))) K10 a1 ti on he := by
  unfold v_X0_playThrough_0
  obtain ⟨h, hh, rfl⟩ := (inB_iff (n := 16) (by omega)).mp h0
  have ec : (nI h).toNatClampNeg = h := nI_clamp (by omega)
  rw [ec] at R10
  have key := up_ind (fun k => K10 (nI h) (nI k) (plT n kn bo so sd (ti, on, he) k).1 (plT n kn bo so sd (ti, on, he) k).2.1 (plT n kn bo so sd (ti, on, he) k).2.2) (h + 1) (R10 _ _ _ _ _ ?_) (fun k hk ih => R10 _ _ _ _ _ ?_)
  · exact ⟨by omega, key⟩
  · refine ⟨fun _ => rfl, fun _ => ⟨fun _ => rfl, fun hq => absurd (nI_lt (Nat.lt_succ_self h) (by omega)) hq⟩⟩
  · refine ⟨fun hq => absurd hq (nI_ge (b := 16) (by omega) (by omega)), fun _ => ⟨fun hq => absurd hq (nI_nlt (by omega) (by omega)), fun _ => fun u hu => ?_⟩⟩
    subst hu
    simpa only [plT, nI_1] using ih
theorem h_X0_lateOverall (n : Nat) (so : Nat → Int32) (sd : Nat → Int32) (il : Int32) (kn : Nat → Int32) (sp : Nat → Int32) (py : Nat → Int32) (bo : Nat → Int32) (ti : Nat → Int32) (on : Nat → Int32) (he : Nat → Int32) (a1 : Int32) (hn : n ≤ 6) (h0 : inB a1 5 = true) (K12 : Int32 → Int32 → Int32 → (Nat → Int32) → (Nat → Int32) → (Nat → Int32) → Prop) (R12 : ∀ x1 x2 x3 ti_ on_ he_, v_X0_lateOverall_12 n so sd il kn sp py bo (fun r u => r = (laO n kn bo so sd (ti, on, he) a1 16) ∧ u = (plT n kn bo so sd (ti, on, he) 16)) K12 x1 x2 x3 ti_ on_ he_ → K12 x1 x2 x3 ti_ on_ he_) : v_X0_lateOverall_0 n so sd il kn sp py bo (fun r u => r = (laO n kn bo so sd (ti, on, he) a1 16) ∧ u = (plT n kn bo so sd (ti, on, he) 16)) K12 a1 ti on he := by
  unfold v_X0_lateOverall_0
  have key := up_ind (fun k => K12 a1 (laO n kn bo so sd (ti, on, he) a1 k) (nI k) (plT n kn bo so sd (ti, on, he) k).1 (plT n kn bo so sd (ti, on, he) k).2.1 (plT n kn bo so sd (ti, on, he) k).2.2) 16 (R12 _ _ _ _ _ _ ?_) (fun k hk ih => R12 _ _ _ _ _ _ ?_)
  · exact ⟨by omega, key⟩
  · exact ⟨fun _ => ⟨rfl, rfl⟩, fun h => absurd (nI_le (a := 16) (b := 16) (Nat.le_refl _) (by omega)) h⟩
  · refine ⟨fun hq => absurd hq (nI_ge (b := 16) hk (by omega)), fun _ => fun u hu => ?_⟩
    subst hu
    simpa only [laO, plT, nI_1] using ih
theorem h_X0_wornBits (n : Nat) (so : Nat → Int32) (sd : Nat → Int32) (il : Int32) (kn : Nat → Int32) (sp : Nat → Int32) (py : Nat → Int32) (bo : Nat → Int32) (ti : Nat → Int32) (on : Nat → Int32) (he : Nat → Int32) (a1 : Int32) (hn : n ≤ 6) (K12 : Int32 → Int32 → Int32 → (Nat → Int32) → (Nat → Int32) → (Nat → Int32) → Prop) (R12 : ∀ x1 x2 x3 ti_ on_ he_, v_X0_wornBits_12 n so sd il kn sp py bo (fun r u => r = (woO n kn bo so sd (ti, on, he) a1 16) ∧ u = (plT n kn bo so sd (ti, on, he) 16)) K12 x1 x2 x3 ti_ on_ he_ → K12 x1 x2 x3 ti_ on_ he_) : v_X0_wornBits_0 n so sd il kn sp py bo (fun r u => r = (woO n kn bo so sd (ti, on, he) a1 16) ∧ u = (plT n kn bo so sd (ti, on, he) 16)) K12 a1 ti on he := by
  unfold v_X0_wornBits_0
  have key := up_ind (fun k => K12 a1 (woO n kn bo so sd (ti, on, he) a1 k) (nI k) (plT n kn bo so sd (ti, on, he) k).1 (plT n kn bo so sd (ti, on, he) k).2.1 (plT n kn bo so sd (ti, on, he) k).2.2) 16 (R12 _ _ _ _ _ _ ?_) (fun k hk ih => R12 _ _ _ _ _ _ ?_)
  · exact ⟨by omega, key⟩
  · exact ⟨fun _ => ⟨rfl, rfl⟩, fun h => absurd (nI_le (a := 16) (b := 16) (Nat.le_refl _) (by omega)) h⟩
  · refine ⟨fun hq => absurd hq (nI_ge (b := 16) hk (by omega)), fun _ => fun u hu => ?_⟩
    subst hu
    simpa only [woO, plT, nI_1] using ih
end
section
def v_J6_bitCount_0f7a4_0 (post : Int32 → (Unit) → Prop) (a0 : Int32) : Prop := post ((((((((a0 - (((a0.toUInt32 >>> (((1 : Int32) : Int32).toUInt32 &&& Int32.toUInt32 31)).toInt32) &&& (1431655765 : Int32))) &&& (858993459 : Int32)) + ((((a0 - (((a0.toUInt32 >>> (((1 : Int32) : Int32).toUInt32 &&& Int32.toUInt32 31)).toInt32) &&& (1431655765 : Int32))).toUInt32 >>> (((2 : Int32) : Int32).toUInt32 &&& Int32.toUInt32 31)).toInt32) &&& (858993459 : Int32))) + (((((a0 - (((a0.toUInt32 >>> (((1 : Int32) : Int32).toUInt32 &&& Int32.toUInt32 31)).toInt32) &&& (1431655765 : Int32))) &&& (858993459 : Int32)) + ((((a0 - (((a0.toUInt32 >>> (((1 : Int32) : Int32).toUInt32 &&& Int32.toUInt32 31)).toInt32) &&& (1431655765 : Int32))).toUInt32 >>> (((2 : Int32) : Int32).toUInt32 &&& Int32.toUInt32 31)).toInt32) &&& (858993459 : Int32))).toUInt32 >>> (((4 : Int32) : Int32).toUInt32 &&& Int32.toUInt32 31)).toInt32)) &&& (252645135 : Int32)) + (((((((a0 - (((a0.toUInt32 >>> (((1 : Int32) : Int32).toUInt32 &&& Int32.toUInt32 31)).toInt32) &&& (1431655765 : Int32))) &&& (858993459 : Int32)) + ((((a0 - (((a0.toUInt32 >>> (((1 : Int32) : Int32).toUInt32 &&& Int32.toUInt32 31)).toInt32) &&& (1431655765 : Int32))).toUInt32 >>> (((2 : Int32) : Int32).toUInt32 &&& Int32.toUInt32 31)).toInt32) &&& (858993459 : Int32))) + (((((a0 - (((a0.toUInt32 >>> (((1 : Int32) : Int32).toUInt32 &&& Int32.toUInt32 31)).toInt32) &&& (1431655765 : Int32))) &&& (858993459 : Int32)) + ((((a0 - (((a0.toUInt32 >>> (((1 : Int32) : Int32).toUInt32 &&& Int32.toUInt32 31)).toInt32) &&& (1431655765 : Int32))).toUInt32 >>> (((2 : Int32) : Int32).toUInt32 &&& Int32.toUInt32 31)).toInt32) &&& (858993459 : Int32))).toUInt32 >>> (((4 : Int32) : Int32).toUInt32 &&& Int32.toUInt32 31)).toInt32)) &&& (252645135 : Int32)).toUInt32 >>> (((8 : Int32) : Int32).toUInt32 &&& Int32.toUInt32 31)).toInt32)) + ((((((((a0 - (((a0.toUInt32 >>> (((1 : Int32) : Int32).toUInt32 &&& Int32.toUInt32 31)).toInt32) &&& (1431655765 : Int32))) &&& (858993459 : Int32)) + ((((a0 - (((a0.toUInt32 >>> (((1 : Int32) : Int32).toUInt32 &&& Int32.toUInt32 31)).toInt32) &&& (1431655765 : Int32))).toUInt32 >>> (((2 : Int32) : Int32).toUInt32 &&& Int32.toUInt32 31)).toInt32) &&& (858993459 : Int32))) + (((((a0 - (((a0.toUInt32 >>> (((1 : Int32) : Int32).toUInt32 &&& Int32.toUInt32 31)).toInt32) &&& (1431655765 : Int32))) &&& (858993459 : Int32)) + ((((a0 - (((a0.toUInt32 >>> (((1 : Int32) : Int32).toUInt32 &&& Int32.toUInt32 31)).toInt32) &&& (1431655765 : Int32))).toUInt32 >>> (((2 : Int32) : Int32).toUInt32 &&& Int32.toUInt32 31)).toInt32) &&& (858993459 : Int32))).toUInt32 >>> (((4 : Int32) : Int32).toUInt32 &&& Int32.toUInt32 31)).toInt32)) &&& (252645135 : Int32)) + (((((((a0 - (((a0.toUInt32 >>> (((1 : Int32) : Int32).toUInt32 &&& Int32.toUInt32 31)).toInt32) &&& (1431655765 : Int32))) &&& (858993459 : Int32)) + ((((a0 - (((a0.toUInt32 >>> (((1 : Int32) : Int32).toUInt32 &&& Int32.toUInt32 31)).toInt32) &&& (1431655765 : Int32))).toUInt32 >>> (((2 : Int32) : Int32).toUInt32 &&& Int32.toUInt32 31)).toInt32) &&& (858993459 : Int32))) + (((((a0 - (((a0.toUInt32 >>> (((1 : Int32) : Int32).toUInt32 &&& Int32.toUInt32 31)).toInt32) &&& (1431655765 : Int32))) &&& (858993459 : Int32)) + ((((a0 - (((a0.toUInt32 >>> (((1 : Int32) : Int32).toUInt32 &&& Int32.toUInt32 31)).toInt32) &&& (1431655765 : Int32))).toUInt32 >>> (((2 : Int32) : Int32).toUInt32 &&& Int32.toUInt32 31)).toInt32) &&& (858993459 : Int32))).toUInt32 >>> (((4 : Int32) : Int32).toUInt32 &&& Int32.toUInt32 31)).toInt32)) &&& (252645135 : Int32)).toUInt32 >>> (((8 : Int32) : Int32).toUInt32 &&& Int32.toUInt32 31)).toInt32)).toUInt32 >>> (((16 : Int32) : Int32).toUInt32 &&& Int32.toUInt32 31)).toInt32)) &&& (63 : Int32)) ()
def v_X3_searchTeams_0 (n : Nat) (se : Int32) (wo : Int32) (fO : Nat → Int32) (wI : Nat → Int32) (so : Nat → Int32) (sd : Nat → Int32) (ti : Nat → Int32) (on : Nat → Int32) (he : Nat → Int32) (il : Int32) (kn : Nat → Int32) (sp : Nat → Int32) (py : Nat → Int32) (bo : Nat → Int32) (post : (Int32 × Int32 × Int32 × Int32 × Int32 × Int32 × Int32 × Int32 × (Nat → Int32) × (Nat → Int32) × (Nat → Int32) × (Nat → Int32) × (Nat → Int32)) → Prop) (a1 : Int32) (os : Int32) (fl : Int32) (wa : Int32) (fo : Int32) (sb : Int32) (lp : Int32) (fm : Int32) (pn : Int32) (tr : Nat → Int32) (fs : Nat → Int32) (sk : Nat → Int32) (ct : Nat → Int32) (nt : Nat → Int32) : Prop := (((bI (inB a1 2)) = 0 → post (os, fl, wa, fo, sb, lp, fm, pn, tr, fs, sk, ct, nt)) ∧ (¬ (bI (inB a1 2)) = 0 → (vp_in a1 2 ∧ (vp_in a1 2 ∧ (((0 : Int32) = nI 0) ∧ (∀ u35 : Int32 × Int32 × Int32 × Int32 × Int32 × Int32 × (Nat → Int32) × (Nat → Int32) × (Nat → Int32) × (Nat → Int32) × (Nat → Int32), u35 = pf n il kn sp py bo (fO a1.toNatClampNeg) (wI a1.toNatClampNeg) n 0 ((prO (wI a1.toNatClampNeg) se 5), 0, 0, (-1), (-1), (-1), tr, (prF fs (wI a1.toNatClampNeg) se 5), sk, ct, nt) → post (u35.1, (fO a1.toNatClampNeg), (wI a1.toNatClampNeg), u35.2.1, u35.2.2.1, u35.2.2.2.1, u35.2.2.2.2.1, u35.2.2.2.2.2.1, u35.2.2.2.2.2.2.1, u35.2.2.2.2.2.2.2.1, u35.2.2.2.2.2.2.2.2.1, u35.2.2.2.2.2.2.2.2.2.1, u35.2.2.2.2.2.2.2.2.2.2)))))))
def v_X3_person_0 (n : Nat) (se : Int32) (wo : Int32) (fO : Nat → Int32) (wI : Nat → Int32) (os : Int32) (fl : Int32) (wa : Int32) (fo : Int32) (sb : Int32) (lp : Int32) (fm : Int32) (pn : Int32) (tr : Nat → Int32) (fs : Nat → Int32) (sk : Nat → Int32) (ct : Nat → Int32) (nt : Nat → Int32) (so : Nat → Int32) (sd : Nat → Int32) (ti : Nat → Int32) (on : Nat → Int32) (he : Nat → Int32) (il : Int32) (post : Int32 → (Int32 × (Nat → Int32) × (Nat → Int32) × (Nat → Int32) × (Nat → Int32)) → Prop) (a1 : Int32) (a2 : Int32) (a3 : Int32) (kn : Nat → Int32) (sp : Nat → Int32) (py : Nat → Int32) (bo : Nat → Int32) : Prop := (((bI (decide (a1 &&& (-32) = 0))) = 0 → post (-3 : Int32) (nI n, kn, sp, py, bo)) ∧ (¬ (bI (decide (a1 &&& (-32) = 0))) = 0 → (((bI (decide (a2 &&& (-32) = 0))) = 0 → post (-3 : Int32) (nI n, kn, sp, py, bo)) ∧ (¬ (bI (decide (a2 &&& (-32) = 0))) = 0 → (((a2 &&& (a1 ^^^ (-1 : Int32))) = 0 → ((a3 < (1 : Int32) → post (-3 : Int32) (nI n, kn, sp, py, bo)) ∧ (¬ a3 < (1 : Int32) → ((a3 ≤ (99 : Int32) → post (if n < 6 then nI n else (-5)) (nI (if n < 6 then n + 1 else n), (if n < 6 then upd kn n a1 else kn), (if n < 6 then upd sp n a2 else sp), (if n < 6 then upd py n a3 else py), (if n < 6 then upd bo n 5 else bo))) ∧ (¬ a3 ≤ (99 : Int32) → post (-3 : Int32) (nI n, kn, sp, py, bo)))))) ∧ (¬ (a2 &&& (a1 ^^^ (-1 : Int32))) = 0 → post (-3 : Int32) (nI n, kn, sp, py, bo)))))))
def v_X3_ill_30 (n : Nat) (se : Int32) (wo : Int32) (fO : Nat → Int32) (wI : Nat → Int32) (os : Int32) (fl : Int32) (wa : Int32) (fo : Int32) (sb : Int32) (lp : Int32) (fm : Int32) (pn : Int32) (tr : Nat → Int32) (fs : Nat → Int32) (sk : Nat → Int32) (ct : Nat → Int32) (nt : Nat → Int32) (so : Nat → Int32) (sd : Nat → Int32) (ti : Nat → Int32) (on : Nat → Int32) (he : Nat → Int32) (kn : Nat → Int32) (sp : Nat → Int32) (py : Nat → Int32) (bo : Nat → Int32) (post : Int32 → (Int32) → Prop) (x1 : Int32) (x2 : Int32) (s0 : Int32) (il_ : Int32) : Prop := post s0 (if x2 = 0 then il_ &&& (((1 : Int32) <<< (x1 &&& 31)) ^^^ (-1)) else il_ ||| ((1 : Int32) <<< (x1 &&& 31)))
def v_X3_ill_0 (n : Nat) (se : Int32) (wo : Int32) (fO : Nat → Int32) (wI : Nat → Int32) (os : Int32) (fl : Int32) (wa : Int32) (fo : Int32) (sb : Int32) (lp : Int32) (fm : Int32) (pn : Int32) (tr : Nat → Int32) (fs : Nat → Int32) (sk : Nat → Int32) (ct : Nat → Int32) (nt : Nat → Int32) (so : Nat → Int32) (sd : Nat → Int32) (ti : Nat → Int32) (on : Nat → Int32) (he : Nat → Int32) (kn : Nat → Int32) (sp : Nat → Int32) (py : Nat → Int32) (bo : Nat → Int32) (post : Int32 → (Int32) → Prop) (a1 : Int32) (a2 : Int32) (il : Int32) : Prop := (((bI (inB a1 (nI n))) = 0 → post (-2 : Int32) il) ∧ (¬ (bI (inB a1 (nI n))) = 0 → (((bI (hs il a1)) = 0 → v_X3_ill_30 n se wo fO wI os fl wa fo sb lp fm pn tr fs sk ct nt so sd ti on he kn sp py bo post  a1 a2 (0 : Int32) il) ∧ (¬ (bI (hs il a1)) = 0 → v_X3_ill_30 n se wo fO wI os fl wa fo sb lp fm pn tr fs sk ct nt so sd ti on he kn sp py bo post  a1 a2 (1 : Int32) il))))
def v_X3_session_0 (n : Nat) (se : Int32) (wo : Int32) (os : Int32) (fl : Int32) (wa : Int32) (fo : Int32) (sb : Int32) (lp : Int32) (fm : Int32) (pn : Int32) (tr : Nat → Int32) (fs : Nat → Int32) (sk : Nat → Int32) (ct : Nat → Int32) (nt : Nat → Int32) (so : Nat → Int32) (sd : Nat → Int32) (ti : Nat → Int32) (on : Nat → Int32) (he : Nat → Int32) (il : Int32) (kn : Nat → Int32) (sp : Nat → Int32) (py : Nat → Int32) (bo : Nat → Int32) (post : Int32 → ((Nat → Int32) × (Nat → Int32)) → Prop) (a1 : Int32) (a2 : Int32) (a3 : Int32) (fO : Nat → Int32) (wI : Nat → Int32) : Prop := (((bI (inB a1 2)) = 0 → post (-2 : Int32) (fO, wI)) ∧ (¬ (bI (inB a1 2)) = 0 → (((bI (decide (a2 &&& (-32) = 0))) = 0 → post (-3 : Int32) (fO, wI)) ∧ (¬ (bI (decide (a2 &&& (-32) = 0))) = 0 → (((bI (decide (a3 &&& (-32) = 0))) = 0 → post (-3 : Int32) (fO, wI)) ∧ (¬ (bI (decide (a3 &&& (-32) = 0))) = 0 → (vp_in a1 2 ∧ (vp_in a1 2 ∧ post (1 : Int32) (upd fO a1.toNatClampNeg a2, upd wI a1.toNatClampNeg a3)))))))))
def v_X3_seats_0 (n : Nat) (wo : Int32) (fO : Nat → Int32) (wI : Nat → Int32) (os : Int32) (fl : Int32) (wa : Int32) (fo : Int32) (sb : Int32) (lp : Int32) (fm : Int32) (pn : Int32) (tr : Nat → Int32) (fs : Nat → Int32) (sk : Nat → Int32) (ct : Nat → Int32) (nt : Nat → Int32) (so : Nat → Int32) (sd : Nat → Int32) (ti : Nat → Int32) (on : Nat → Int32) (he : Nat → Int32) (il : Int32) (kn : Nat → Int32) (sp : Nat → Int32) (py : Nat → Int32) (bo : Nat → Int32) (post : Int32 → (Int32) → Prop) (a1 : Int32) (se : Int32) : Prop := ((a1 < (1 : Int32) → post (-3 : Int32) se) ∧ (¬ a1 < (1 : Int32) → ((a1 ≤ (2 : Int32) → post se a1) ∧ (¬ a1 ≤ (2 : Int32) → post (-3 : Int32) se))))
def v_X3_whole_0 (n : Nat) (se : Int32) (wo : Int32) (fO : Nat → Int32) (wI : Nat → Int32) (so : Nat → Int32) (sd : Nat → Int32) (ti : Nat → Int32) (on : Nat → Int32) (he : Nat → Int32) (il : Int32) (kn : Nat → Int32) (sp : Nat → Int32) (py : Nat → Int32) (bo : Nat → Int32) (post : Int32 → (Int32 × Int32 × Int32 × Int32 × Int32 × Int32 × Int32 × Int32 × (Nat → Int32) × (Nat → Int32) × (Nat → Int32) × (Nat → Int32) × (Nat → Int32)) → Prop) (a1 : Int32) (os : Int32) (fl : Int32) (wa : Int32) (fo : Int32) (sb : Int32) (lp : Int32) (fm : Int32) (pn : Int32) (tr : Nat → Int32) (fs : Nat → Int32) (sk : Nat → Int32) (ct : Nat → Int32) (nt : Nat → Int32) : Prop := (((bI (inB a1 2)) = 0 → post (-2 : Int32) (os, fl, wa, fo, sb, lp, fm, pn, tr, fs, sk, ct, nt)) ∧ (¬ (bI (inB a1 2)) = 0 → (∀ u12 : Int32 × Int32 × Int32 × Int32 × Int32 × Int32 × Int32 × Int32 × (Nat → Int32) × (Nat → Int32) × (Nat → Int32) × (Nat → Int32) × (Nat → Int32), u12 = stF n il kn sp py bo fO wI se a1 (os, fl, wa, fo, sb, lp, fm, pn, tr, fs, sk, ct, nt) → post u12.2.2.2.1 (u12.1, u12.2.1, u12.2.2.1, u12.2.2.2.1, u12.2.2.2.2.1, u12.2.2.2.2.2.1, u12.2.2.2.2.2.2.1, u12.2.2.2.2.2.2.2.1, u12.2.2.2.2.2.2.2.2.1, u12.2.2.2.2.2.2.2.2.2.1, u12.2.2.2.2.2.2.2.2.2.2.1, u12.2.2.2.2.2.2.2.2.2.2.2.1, u12.2.2.2.2.2.2.2.2.2.2.2.2))))
def v_X3_cheapest_0 (n : Nat) (se : Int32) (wo : Int32) (fO : Nat → Int32) (wI : Nat → Int32) (so : Nat → Int32) (sd : Nat → Int32) (ti : Nat → Int32) (on : Nat → Int32) (he : Nat → Int32) (il : Int32) (kn : Nat → Int32) (sp : Nat → Int32) (py : Nat → Int32) (bo : Nat → Int32) (post : Int32 → (Int32 × Int32 × Int32 × Int32 × Int32 × Int32 × Int32 × Int32 × (Nat → Int32) × (Nat → Int32) × (Nat → Int32) × (Nat → Int32) × (Nat → Int32)) → Prop) (a1 : Int32) (os : Int32) (fl : Int32) (wa : Int32) (fo : Int32) (sb : Int32) (lp : Int32) (fm : Int32) (pn : Int32) (tr : Nat → Int32) (fs : Nat → Int32) (sk : Nat → Int32) (ct : Nat → Int32) (nt : Nat → Int32) : Prop := (((bI (inB a1 2)) = 0 → post (-2 : Int32) (os, fl, wa, fo, sb, lp, fm, pn, tr, fs, sk, ct, nt)) ∧ (¬ (bI (inB a1 2)) = 0 → (∀ u12 : Int32 × Int32 × Int32 × Int32 × Int32 × Int32 × Int32 × Int32 × (Nat → Int32) × (Nat → Int32) × (Nat → Int32) × (Nat → Int32) × (Nat → Int32), u12 = stF n il kn sp py bo fO wI se a1 (os, fl, wa, fo, sb, lp, fm, pn, tr, fs, sk, ct, nt) → post u12.2.2.2.2.2.1 (u12.1, u12.2.1, u12.2.2.1, u12.2.2.2.1, u12.2.2.2.2.1, u12.2.2.2.2.2.1, u12.2.2.2.2.2.2.1, u12.2.2.2.2.2.2.2.1, u12.2.2.2.2.2.2.2.2.1, u12.2.2.2.2.2.2.2.2.2.1, u12.2.2.2.2.2.2.2.2.2.2.1, u12.2.2.2.2.2.2.2.2.2.2.2.1, u12.2.2.2.2.2.2.2.2.2.2.2.2))))
def v_X3_nearest_0 (n : Nat) (se : Int32) (wo : Int32) (fO : Nat → Int32) (wI : Nat → Int32) (so : Nat → Int32) (sd : Nat → Int32) (ti : Nat → Int32) (on : Nat → Int32) (he : Nat → Int32) (il : Int32) (kn : Nat → Int32) (sp : Nat → Int32) (py : Nat → Int32) (bo : Nat → Int32) (post : Int32 → (Int32 × Int32 × Int32 × Int32 × Int32 × Int32 × Int32 × Int32 × (Nat → Int32) × (Nat → Int32) × (Nat → Int32) × (Nat → Int32) × (Nat → Int32)) → Prop) (a1 : Int32) (os : Int32) (fl : Int32) (wa : Int32) (fo : Int32) (sb : Int32) (lp : Int32) (fm : Int32) (pn : Int32) (tr : Nat → Int32) (fs : Nat → Int32) (sk : Nat → Int32) (ct : Nat → Int32) (nt : Nat → Int32) : Prop := (((bI (inB a1 2)) = 0 → post (-2 : Int32) (os, fl, wa, fo, sb, lp, fm, pn, tr, fs, sk, ct, nt)) ∧ (¬ (bI (inB a1 2)) = 0 → (∀ u12 : Int32 × Int32 × Int32 × Int32 × Int32 × Int32 × Int32 × Int32 × (Nat → Int32) × (Nat → Int32) × (Nat → Int32) × (Nat → Int32) × (Nat → Int32), u12 = stF n il kn sp py bo fO wI se a1 (os, fl, wa, fo, sb, lp, fm, pn, tr, fs, sk, ct, nt) → post u12.2.2.2.2.2.2.1 (u12.1, u12.2.1, u12.2.2.1, u12.2.2.2.1, u12.2.2.2.2.1, u12.2.2.2.2.2.1, u12.2.2.2.2.2.2.1, u12.2.2.2.2.2.2.2.1, u12.2.2.2.2.2.2.2.2.1, u12.2.2.2.2.2.2.2.2.2.1, u12.2.2.2.2.2.2.2.2.2.2.1, u12.2.2.2.2.2.2.2.2.2.2.2.1, u12.2.2.2.2.2.2.2.2.2.2.2.2))))
def v_X3_take_22 (n : Nat) (se : Int32) (wo : Int32) (fO : Nat → Int32) (wI : Nat → Int32) (so : Nat → Int32) (sd : Nat → Int32) (ti : Nat → Int32) (on : Nat → Int32) (he : Nat → Int32) (il : Int32) (kn : Nat → Int32) (sp : Nat → Int32) (py : Nat → Int32) (post : Int32 → (Int32 × Int32 × Int32 × Int32 × Int32 × Int32 × Int32 × Int32 × (Nat → Int32) × (Nat → Int32) × (Nat → Int32) × (Nat → Int32) × (Nat → Int32) × (Nat → Int32)) → Prop) (x1 : Int32) (x2 : Int32) (os_ : Int32) (fl_ : Int32) (wa_ : Int32) (fo_ : Int32) (sb_ : Int32) (lp_ : Int32) (fm_ : Int32) (pn_ : Int32) (tr_ : Nat → Int32) (fs_ : Nat → Int32) (sk_ : Nat → Int32) (ct_ : Nat → Int32) (nt_ : Nat → Int32) (bo_ : Nat → Int32) : Prop := (∀ u24 : Int32 × Int32 × Int32 × Int32 × Int32 × Int32 × Int32 × Int32 × (Nat → Int32) × (Nat → Int32) × (Nat → Int32) × (Nat → Int32) × (Nat → Int32), u24 = stF n il kn sp py bo_ fO wI se x1 (os_, fl_, wa_, fo_, sb_, lp_, fm_, pn_, tr_, fs_, sk_, ct_, nt_) → ((u24.2.2.2.1 = 0 → post (-4 : Int32) (u24.1, u24.2.1, u24.2.2.1, u24.2.2.2.1, u24.2.2.2.2.1, u24.2.2.2.2.2.1, u24.2.2.2.2.2.2.1, u24.2.2.2.2.2.2.2.1, u24.2.2.2.2.2.2.2.2.1, u24.2.2.2.2.2.2.2.2.2.1, u24.2.2.2.2.2.2.2.2.2.2.1, u24.2.2.2.2.2.2.2.2.2.2.2.1, u24.2.2.2.2.2.2.2.2.2.2.2.2, bo_)) ∧ (¬ u24.2.2.2.1 = 0 → ((x2 = 0 → post u24.2.2.2.2.2.1 (u24.1, u24.2.1, u24.2.2.1, u24.2.2.2.1, u24.2.2.2.2.1, u24.2.2.2.2.2.1, u24.2.2.2.2.2.2.1, u24.2.2.2.2.2.2.2.1, u24.2.2.2.2.2.2.2.2.1, u24.2.2.2.2.2.2.2.2.2.1, u24.2.2.2.2.2.2.2.2.2.2.1, u24.2.2.2.2.2.2.2.2.2.2.2.1, u24.2.2.2.2.2.2.2.2.2.2.2.2, va_cpy u24.2.2.2.2.2.2.2.2.2.2.2.1 bo_ 0 0 6)) ∧ (¬ x2 = 0 → post u24.2.2.2.2.2.2.2.1 (u24.1, u24.2.1, u24.2.2.1, u24.2.2.2.1, u24.2.2.2.2.1, u24.2.2.2.2.2.1, u24.2.2.2.2.2.2.1, u24.2.2.2.2.2.2.2.1, u24.2.2.2.2.2.2.2.2.1, u24.2.2.2.2.2.2.2.2.2.1, u24.2.2.2.2.2.2.2.2.2.2.1, u24.2.2.2.2.2.2.2.2.2.2.2.1, u24.2.2.2.2.2.2.2.2.2.2.2.2, va_cpy u24.2.2.2.2.2.2.2.2.2.2.2.2 bo_ 0 0 6))))))
def v_X3_take_0 (n : Nat) (se : Int32) (wo : Int32) (fO : Nat → Int32) (wI : Nat → Int32) (so : Nat → Int32) (sd : Nat → Int32) (ti : Nat → Int32) (on : Nat → Int32) (he : Nat → Int32) (il : Int32) (kn : Nat → Int32) (sp : Nat → Int32) (py : Nat → Int32) (post : Int32 → (Int32 × Int32 × Int32 × Int32 × Int32 × Int32 × Int32 × Int32 × (Nat → Int32) × (Nat → Int32) × (Nat → Int32) × (Nat → Int32) × (Nat → Int32) × (Nat → Int32)) → Prop) (a1 : Int32) (a2 : Int32) (os : Int32) (fl : Int32) (wa : Int32) (fo : Int32) (sb : Int32) (lp : Int32) (fm : Int32) (pn : Int32) (tr : Nat → Int32) (fs : Nat → Int32) (sk : Nat → Int32) (ct : Nat → Int32) (nt : Nat → Int32) (bo : Nat → Int32) : Prop := (((bI (inB a1 2)) = 0 → post (-2 : Int32) (os, fl, wa, fo, sb, lp, fm, pn, tr, fs, sk, ct, nt, bo)) ∧ (¬ (bI (inB a1 2)) = 0 → ((a2 = 0 → v_X3_take_22 n se wo fO wI so sd ti on he il kn sp py post  a1 a2 os fl wa fo sb lp fm pn tr fs sk ct nt bo) ∧ (¬ a2 = 0 → ((a2 = (1 : Int32) → v_X3_take_22 n se wo fO wI so sd ti on he il kn sp py post  a1 a2 os fl wa fo sb lp fm pn tr fs sk ct nt bo) ∧ (¬ a2 = (1 : Int32) → post (-3 : Int32) (os, fl, wa, fo, sb, lp, fm, pn, tr, fs, sk, ct, nt, bo)))))))
def v_X3_leave_0 (n : Nat) (se : Int32) (wo : Int32) (fO : Nat → Int32) (wI : Nat → Int32) (os : Int32) (fl : Int32) (wa : Int32) (fo : Int32) (sb : Int32) (lp : Int32) (fm : Int32) (pn : Int32) (tr : Nat → Int32) (fs : Nat → Int32) (sk : Nat → Int32) (ct : Nat → Int32) (nt : Nat → Int32) (so : Nat → Int32) (sd : Nat → Int32) (ti : Nat → Int32) (on : Nat → Int32) (he : Nat → Int32) (il : Int32) (kn : Nat → Int32) (sp : Nat → Int32) (py : Nat → Int32) (post : Int32 → ((Nat → Int32)) → Prop) (bo : Nat → Int32) : Prop := post (sI (fun k => bI (!decide (bo k = 5))) n) (fillA bo 6 5)
def v_X3_booth_0 (n : Nat) (se : Int32) (wo : Int32) (fO : Nat → Int32) (wI : Nat → Int32) (os : Int32) (fl : Int32) (wa : Int32) (fo : Int32) (sb : Int32) (lp : Int32) (fm : Int32) (pn : Int32) (tr : Nat → Int32) (fs : Nat → Int32) (sk : Nat → Int32) (ct : Nat → Int32) (nt : Nat → Int32) (so : Nat → Int32) (sd : Nat → Int32) (ti : Nat → Int32) (on : Nat → Int32) (he : Nat → Int32) (il : Int32) (kn : Nat → Int32) (sp : Nat → Int32) (py : Nat → Int32) (bo : Nat → Int32) (post : Int32 → (Unit) → Prop) (a1 : Int32) : Prop := (((bI (inB a1 (nI n))) = 0 → post (-2 : Int32) ()) ∧ (¬ (bI (inB a1 (nI n))) = 0 → post (atP n bo 5 a1) ()))
def v_X3_lacking_0 (n : Nat) (se : Int32) (wo : Int32) (fO : Nat → Int32) (wI : Nat → Int32) (os : Int32) (fl : Int32) (wa : Int32) (fo : Int32) (sb : Int32) (lp : Int32) (fm : Int32) (pn : Int32) (tr : Nat → Int32) (fs : Nat → Int32) (sk : Nat → Int32) (ct : Nat → Int32) (nt : Nat → Int32) (so : Nat → Int32) (sd : Nat → Int32) (ti : Nat → Int32) (on : Nat → Int32) (he : Nat → Int32) (il : Int32) (kn : Nat → Int32) (sp : Nat → Int32) (py : Nat → Int32) (bo : Nat → Int32) (post : Int32 → (Unit) → Prop) (K14 : Int32 → Int32 → Int32 → Prop) (a1 : Int32) : Prop := (((bI (inB a1 2)) = 0 → post (-2 : Int32) ()) ∧ (¬ (bI (inB a1 2)) = 0 → K14 a1 (0 : Int32) (0 : Int32)))
def v_X3_lacking_53 (n : Nat) (se : Int32) (wo : Int32) (fO : Nat → Int32) (wI : Nat → Int32) (os : Int32) (fl : Int32) (wa : Int32) (fo : Int32) (sb : Int32) (lp : Int32) (fm : Int32) (pn : Int32) (tr : Nat → Int32) (fs : Nat → Int32) (sk : Nat → Int32) (ct : Nat → Int32) (nt : Nat → Int32) (so : Nat → Int32) (sd : Nat → Int32) (ti : Nat → Int32) (on : Nat → Int32) (he : Nat → Int32) (il : Int32) (kn : Nat → Int32) (sp : Nat → Int32) (py : Nat → Int32) (bo : Nat → Int32) (post : Int32 → (Unit) → Prop) (K14 : Int32 → Int32 → Int32 → Prop) (x1 : Int32) (x2 : Int32) (x3 : Int32) : Prop := K14 x1 x2 (x3 + 1)
def v_X3_lacking_14 (n : Nat) (se : Int32) (wo : Int32) (fO : Nat → Int32) (wI : Nat → Int32) (os : Int32) (fl : Int32) (wa : Int32) (fo : Int32) (sb : Int32) (lp : Int32) (fm : Int32) (pn : Int32) (tr : Nat → Int32) (fs : Nat → Int32) (sk : Nat → Int32) (ct : Nat → Int32) (nt : Nat → Int32) (so : Nat → Int32) (sd : Nat → Int32) (ti : Nat → Int32) (on : Nat → Int32) (he : Nat → Int32) (il : Int32) (kn : Nat → Int32) (sp : Nat → Int32) (py : Nat → Int32) (bo : Nat → Int32) (post : Int32 → (Unit) → Prop) (K14 : Int32 → Int32 → Int32 → Prop) (x1 : Int32) (x2 : Int32) (x3 : Int32) : Prop := (((5 : Int32) ≤ x3 → post x2 ()) ∧ (¬ (5 : Int32) ≤ x3 → (vp_in x1 2 ∧ (((bI (hs (wI x1.toNatClampNeg) x3)) = 0 → v_X3_lacking_53 n se wo fO wI os fl wa fo sb lp fm pn tr fs sk ct nt so sd ti on he il kn sp py bo post K14 x1 x2 x3) ∧ (¬ (bI (hs (wI x1.toNatClampNeg) x3)) = 0 → ((se ≤ (sI (fun k => bI (canT n il sp (nI k) x3)) n) → v_X3_lacking_53 n se wo fO wI os fl wa fo sb lp fm pn tr fs sk ct nt so sd ti on he il kn sp py bo post K14 x1 x2 x3) ∧ (¬ se ≤ (sI (fun k => bI (canT n il sp (nI k) x3)) n) → v_X3_lacking_53 n se wo fO wI os fl wa fo sb lp fm pn tr fs sk ct nt so sd ti on he il kn sp py bo post K14 x1 (x2 ||| ((1 : Int32) <<< (x3 &&& 31))) x3)))))))
def v_X3_needed_0 (n : Nat) (se : Int32) (wo : Int32) (fO : Nat → Int32) (wI : Nat → Int32) (so : Nat → Int32) (sd : Nat → Int32) (ti : Nat → Int32) (on : Nat → Int32) (he : Nat → Int32) (il : Int32) (kn : Nat → Int32) (sp : Nat → Int32) (py : Nat → Int32) (bo : Nat → Int32) (post : Int32 → (Int32 × Int32 × Int32 × Int32 × Int32 × Int32 × Int32 × Int32 × (Nat → Int32) × (Nat → Int32) × (Nat → Int32) × (Nat → Int32) × (Nat → Int32)) → Prop) (a1 : Int32) (a2 : Int32) (os : Int32) (fl : Int32) (wa : Int32) (fo : Int32) (sb : Int32) (lp : Int32) (fm : Int32) (pn : Int32) (tr : Nat → Int32) (fs : Nat → Int32) (sk : Nat → Int32) (ct : Nat → Int32) (nt : Nat → Int32) : Prop := (((bI (inB a1 (nI n))) = 0 → post (-2 : Int32) (os, fl, wa, fo, sb, lp, fm, pn, tr, fs, sk, ct, nt)) ∧ (¬ (bI (inB a1 (nI n))) = 0 → (((bI (inB a2 2)) = 0 → post (-2 : Int32) (os, fl, wa, fo, sb, lp, fm, pn, tr, fs, sk, ct, nt)) ∧ (¬ (bI (inB a2 2)) = 0 → (∀ u23 : Int32 × Int32 × Int32 × Int32 × Int32 × Int32 × Int32 × Int32 × (Nat → Int32) × (Nat → Int32) × (Nat → Int32) × (Nat → Int32) × (Nat → Int32), u23 = stF n il kn sp py bo fO wI se a2 (os, fl, wa, fo, sb, lp, fm, pn, tr, fs, sk, ct, nt) → ((u23.2.2.2.1 ≤ 0 → post (0 : Int32) (u23.1, u23.2.1, u23.2.2.1, u23.2.2.2.1, u23.2.2.2.2.1, u23.2.2.2.2.2.1, u23.2.2.2.2.2.2.1, u23.2.2.2.2.2.2.2.1, u23.2.2.2.2.2.2.2.2.1, u23.2.2.2.2.2.2.2.2.2.1, u23.2.2.2.2.2.2.2.2.2.2.1, u23.2.2.2.2.2.2.2.2.2.2.2.1, u23.2.2.2.2.2.2.2.2.2.2.2.2)) ∧ (¬ u23.2.2.2.1 ≤ 0 → (((bI (hs u23.2.2.2.2.1 a1)) = 0 → post (1 : Int32) (u23.1, u23.2.1, u23.2.2.1, u23.2.2.2.1, u23.2.2.2.2.1, u23.2.2.2.2.2.1, u23.2.2.2.2.2.2.1, u23.2.2.2.2.2.2.2.1, u23.2.2.2.2.2.2.2.2.1, u23.2.2.2.2.2.2.2.2.2.1, u23.2.2.2.2.2.2.2.2.2.2.1, u23.2.2.2.2.2.2.2.2.2.2.2.1, u23.2.2.2.2.2.2.2.2.2.2.2.2)) ∧ (¬ (bI (hs u23.2.2.2.2.1 a1)) = 0 → post (0 : Int32) (u23.1, u23.2.1, u23.2.2.1, u23.2.2.2.1, u23.2.2.2.2.1, u23.2.2.2.2.2.1, u23.2.2.2.2.2.2.1, u23.2.2.2.2.2.2.2.1, u23.2.2.2.2.2.2.2.2.1, u23.2.2.2.2.2.2.2.2.2.1, u23.2.2.2.2.2.2.2.2.2.2.1, u23.2.2.2.2.2.2.2.2.2.2.2.1, u23.2.2.2.2.2.2.2.2.2.2.2.2))))))))))
def v_X3_speak_0 (n : Nat) (se : Int32) (wo : Int32) (fO : Nat → Int32) (wI : Nat → Int32) (os : Int32) (fl : Int32) (wa : Int32) (fo : Int32) (sb : Int32) (lp : Int32) (fm : Int32) (pn : Int32) (tr : Nat → Int32) (fs : Nat → Int32) (sk : Nat → Int32) (ct : Nat → Int32) (nt : Nat → Int32) (ti : Nat → Int32) (on : Nat → Int32) (he : Nat → Int32) (il : Int32) (kn : Nat → Int32) (sp : Nat → Int32) (py : Nat → Int32) (bo : Nat → Int32) (post : Int32 → ((Nat → Int32) × (Nat → Int32)) → Prop) (a1 : Int32) (a2 : Int32) (a3 : Int32) (so : Nat → Int32) (sd : Nat → Int32) : Prop := (((bI (inB a1 16)) = 0 → post (-2 : Int32) (so, sd)) ∧ (¬ (bI (inB a1 16)) = 0 → (((bI (inB a2 5)) = 0 → post (-2 : Int32) (so, sd)) ∧ (¬ (bI (inB a2 5)) = 0 → ((a3 < (1 : Int32) → post (-3 : Int32) (so, sd)) ∧ (¬ a3 < (1 : Int32) → ((a3 ≤ (9 : Int32) → post (1 : Int32) ((if inB a1 16 = true then upd so a1.toNatClampNeg a2 else so), (if inB a1 16 = true then upd sd a1.toNatClampNeg a3 else sd))) ∧ (¬ a3 ≤ (9 : Int32) → post (-3 : Int32) (so, sd)))))))))
def v_X3_silence_26 (n : Nat) (se : Int32) (wo : Int32) (fO : Nat → Int32) (wI : Nat → Int32) (os : Int32) (fl : Int32) (wa : Int32) (fo : Int32) (sb : Int32) (lp : Int32) (fm : Int32) (pn : Int32) (tr : Nat → Int32) (fs : Nat → Int32) (sk : Nat → Int32) (ct : Nat → Int32) (nt : Nat → Int32) (ti : Nat → Int32) (on : Nat → Int32) (he : Nat → Int32) (il : Int32) (kn : Nat → Int32) (sp : Nat → Int32) (py : Nat → Int32) (bo : Nat → Int32) (post : Int32 → ((Nat → Int32) × (Nat → Int32)) → Prop) (x1 : Int32) (s0 : Int32) (so_ : Nat → Int32) (sd_ : Nat → Int32) : Prop := post s0 ((if inB x1 16 = true then upd so_ x1.toNatClampNeg (-1) else so_), (if inB x1 16 = true then upd sd_ x1.toNatClampNeg 0 else sd_))
def v_X3_silence_0 (n : Nat) (se : Int32) (wo : Int32) (fO : Nat → Int32) (wI : Nat → Int32) (os : Int32) (fl : Int32) (wa : Int32) (fo : Int32) (sb : Int32) (lp : Int32) (fm : Int32) (pn : Int32) (tr : Nat → Int32) (fs : Nat → Int32) (sk : Nat → Int32) (ct : Nat → Int32) (nt : Nat → Int32) (ti : Nat → Int32) (on : Nat → Int32) (he : Nat → Int32) (il : Int32) (kn : Nat → Int32) (sp : Nat → Int32) (py : Nat → Int32) (bo : Nat → Int32) (post : Int32 → ((Nat → Int32) × (Nat → Int32)) → Prop) (a1 : Int32) (so : Nat → Int32) (sd : Nat → Int32) : Prop := (((bI (inB a1 16)) = 0 → post (-2 : Int32) (so, sd)) ∧ (¬ (bI (inB a1 16)) = 0 → (((bI (silF so a1)) = 0 → v_X3_silence_26 n se wo fO wI os fl wa fo sb lp fm pn tr fs sk ct nt ti on he il kn sp py bo post  a1 (1 : Int32) so sd) ∧ (¬ (bI (silF so a1)) = 0 → v_X3_silence_26 n se wo fO wI os fl wa fo sb lp fm pn tr fs sk ct nt ti on he il kn sp py bo post  a1 (0 : Int32) so sd))))
def v_X3_limit_0 (n : Nat) (se : Int32) (fO : Nat → Int32) (wI : Nat → Int32) (os : Int32) (fl : Int32) (wa : Int32) (fo : Int32) (sb : Int32) (lp : Int32) (fm : Int32) (pn : Int32) (tr : Nat → Int32) (fs : Nat → Int32) (sk : Nat → Int32) (ct : Nat → Int32) (nt : Nat → Int32) (so : Nat → Int32) (sd : Nat → Int32) (ti : Nat → Int32) (on : Nat → Int32) (he : Nat → Int32) (il : Int32) (kn : Nat → Int32) (sp : Nat → Int32) (py : Nat → Int32) (bo : Nat → Int32) (post : Int32 → (Int32) → Prop) (a1 : Int32) (wo : Int32) : Prop := ((a1 < (5 : Int32) → post (-3 : Int32) wo) ∧ (¬ a1 < (5 : Int32) → ((a1 ≤ (60 : Int32) → post wo a1) ∧ (¬ a1 ≤ (60 : Int32) → post (-3 : Int32) wo))))
def v_X3_on_0 (n : Nat) (se : Int32) (wo : Int32) (fO : Nat → Int32) (wI : Nat → Int32) (os : Int32) (fl : Int32) (wa : Int32) (fo : Int32) (sb : Int32) (lp : Int32) (fm : Int32) (pn : Int32) (tr : Nat → Int32) (fs : Nat → Int32) (sk : Nat → Int32) (ct : Nat → Int32) (nt : Nat → Int32) (so : Nat → Int32) (sd : Nat → Int32) (il : Int32) (kn : Nat → Int32) (sp : Nat → Int32) (py : Nat → Int32) (bo : Nat → Int32) (post : Int32 → ((Nat → Int32) × (Nat → Int32) × (Nat → Int32)) → Prop) (a1 : Int32) (a2 : Int32) (ti : Nat → Int32) (on : Nat → Int32) (he : Nat → Int32) : Prop := (((bI (inB a1 5)) = 0 → post (-2 : Int32) (ti, on, he)) ∧ (¬ (bI (inB a1 5)) = 0 → (((bI (inB a2 16)) = 0 → post (-2 : Int32) (ti, on, he)) ∧ (¬ (bI (inB a2 16)) = 0 → ((inB a2 16 = true) ∧ (∀ u22 : (Nat → Int32) × (Nat → Int32) × (Nat → Int32), u22 = (plT n kn bo so sd (ti, on, he) (a2.toNatClampNeg + 1)) → (vp_in a1 5 ∧ post (u22.2.1 a1.toNatClampNeg) (u22.1, u22.2.1, u22.2.2))))))))
def v_X3_heard_0 (n : Nat) (se : Int32) (wo : Int32) (fO : Nat → Int32) (wI : Nat → Int32) (os : Int32) (fl : Int32) (wa : Int32) (fo : Int32) (sb : Int32) (lp : Int32) (fm : Int32) (pn : Int32) (tr : Nat → Int32) (fs : Nat → Int32) (sk : Nat → Int32) (ct : Nat → Int32) (nt : Nat → Int32) (so : Nat → Int32) (sd : Nat → Int32) (il : Int32) (kn : Nat → Int32) (sp : Nat → Int32) (py : Nat → Int32) (bo : Nat → Int32) (post : Int32 → ((Nat → Int32) × (Nat → Int32) × (Nat → Int32)) → Prop) (a1 : Int32) (a2 : Int32) (ti : Nat → Int32) (on : Nat → Int32) (he : Nat → Int32) : Prop := (((bI (inB a1 5)) = 0 → post (-2 : Int32) (ti, on, he)) ∧ (¬ (bI (inB a1 5)) = 0 → (((bI (inB a2 16)) = 0 → post (-2 : Int32) (ti, on, he)) ∧ (¬ (bI (inB a2 16)) = 0 → ((inB a2 16 = true) ∧ (∀ u22 : (Nat → Int32) × (Nat → Int32) × (Nat → Int32), u22 = (plT n kn bo so sd (ti, on, he) (a2.toNatClampNeg + 1)) → (vp_in a1 5 ∧ post (u22.2.2 a1.toNatClampNeg) (u22.1, u22.2.1, u22.2.2))))))))
def v_X3_tired_0 (n : Nat) (se : Int32) (wo : Int32) (fO : Nat → Int32) (wI : Nat → Int32) (os : Int32) (fl : Int32) (wa : Int32) (fo : Int32) (sb : Int32) (lp : Int32) (fm : Int32) (pn : Int32) (tr : Nat → Int32) (fs : Nat → Int32) (sk : Nat → Int32) (ct : Nat → Int32) (nt : Nat → Int32) (so : Nat → Int32) (sd : Nat → Int32) (il : Int32) (kn : Nat → Int32) (sp : Nat → Int32) (py : Nat → Int32) (bo : Nat → Int32) (post : Int32 → ((Nat → Int32) × (Nat → Int32) × (Nat → Int32)) → Prop) (a1 : Int32) (a2 : Int32) (ti : Nat → Int32) (on : Nat → Int32) (he : Nat → Int32) : Prop := (((bI (inB a1 (nI n))) = 0 → post (-2 : Int32) (ti, on, he)) ∧ (¬ (bI (inB a1 (nI n))) = 0 → (((bI (inB a2 16)) = 0 → post (-2 : Int32) (ti, on, he)) ∧ (¬ (bI (inB a2 16)) = 0 → ((inB a2 16 = true) ∧ (∀ u26 : (Nat → Int32) × (Nat → Int32) × (Nat → Int32), u26 = (plT n kn bo so sd (ti, on, he) (a2.toNatClampNeg + 1)) → (vp_in a1 6 ∧ post (u26.1 a1.toNatClampNeg) (u26.1, u26.2.1, u26.2.2))))))))
def v_X3_late_0 (n : Nat) (se : Int32) (wo : Int32) (fO : Nat → Int32) (wI : Nat → Int32) (os : Int32) (fl : Int32) (wa : Int32) (fo : Int32) (sb : Int32) (lp : Int32) (fm : Int32) (pn : Int32) (tr : Nat → Int32) (fs : Nat → Int32) (sk : Nat → Int32) (ct : Nat → Int32) (nt : Nat → Int32) (so : Nat → Int32) (sd : Nat → Int32) (il : Int32) (kn : Nat → Int32) (sp : Nat → Int32) (py : Nat → Int32) (bo : Nat → Int32) (post : Int32 → ((Nat → Int32) × (Nat → Int32) × (Nat → Int32)) → Prop) (a1 : Int32) (ti : Nat → Int32) (on : Nat → Int32) (he : Nat → Int32) : Prop := (((bI (inB a1 5)) = 0 → post (-2 : Int32) (ti, on, he)) ∧ (¬ (bI (inB a1 5)) = 0 → ((inB a1 5 = true) ∧ (∀ u15 : (Nat → Int32) × (Nat → Int32) × (Nat → Int32), u15 = (plT n kn bo so sd (ti, on, he) 16) → post (laO n kn bo so sd (ti, on, he) a1 16) (u15.1, u15.2.1, u15.2.2)))))
def v_X3_worn_0 (n : Nat) (se : Int32) (wo : Int32) (fO : Nat → Int32) (wI : Nat → Int32) (os : Int32) (fl : Int32) (wa : Int32) (fo : Int32) (sb : Int32) (lp : Int32) (fm : Int32) (pn : Int32) (tr : Nat → Int32) (fs : Nat → Int32) (sk : Nat → Int32) (ct : Nat → Int32) (nt : Nat → Int32) (so : Nat → Int32) (sd : Nat → Int32) (il : Int32) (kn : Nat → Int32) (sp : Nat → Int32) (py : Nat → Int32) (bo : Nat → Int32) (post : Int32 → ((Nat → Int32) × (Nat → Int32) × (Nat → Int32)) → Prop) (ti : Nat → Int32) (on : Nat → Int32) (he : Nat → Int32) : Prop := (∀ u8 : (Nat → Int32) × (Nat → Int32) × (Nat → Int32), u8 = (plT n kn bo so sd (ti, on, he) 16) → post (woO n kn bo so sd (ti, on, he) wo 16) (u8.1, u8.2.1, u8.2.2))
def v_X3_count_0 (n : Nat) (se : Int32) (wo : Int32) (fO : Nat → Int32) (wI : Nat → Int32) (os : Int32) (fl : Int32) (wa : Int32) (fo : Int32) (sb : Int32) (lp : Int32) (fm : Int32) (pn : Int32) (tr : Nat → Int32) (fs : Nat → Int32) (sk : Nat → Int32) (ct : Nat → Int32) (nt : Nat → Int32) (so : Nat → Int32) (sd : Nat → Int32) (ti : Nat → Int32) (on : Nat → Int32) (he : Nat → Int32) (il : Int32) (kn : Nat → Int32) (sp : Nat → Int32) (py : Nat → Int32) (bo : Nat → Int32) (post : Int32 → (Unit) → Prop) (a1 : Int32) : Prop := ((a1 = 0 → post (nI n) ()) ∧ (a1 = 1 → post (btC il) ()) ∧ (a1 = 2 → post (sI (fun k => bI (!decide (bo k = 5))) n) ()) ∧ (a1 = 3 → post (sI (fun k => bI (!decide (so k = -1))) 16) ()) ∧ (a1 = 4 → post se ()) ∧ (¬ a1 = 0 ∧ ¬ a1 = 1 ∧ ¬ a1 = 2 ∧ ¬ a1 = 3 ∧ ¬ a1 = 4 → post (-3 : Int32) ()))
end
section
theorem h_J6_bitCount_0f7a4 (a0 : Int32) : v_J6_bitCount_0f7a4_0  (fun r _ => r = btC a0)  a0 := by
  unfold v_J6_bitCount_0f7a4_0
  rfl
theorem h_X3_searchTeams (n : Nat) (se : Int32) (wo : Int32) (fO : Nat → Int32) (wI : Nat → Int32) (so : Nat → Int32) (sd : Nat → Int32) (ti : Nat → Int32) (on : Nat → Int32) (he : Nat → Int32) (il : Int32) (kn : Nat → Int32) (sp : Nat → Int32) (py : Nat → Int32) (bo : Nat → Int32) (os : Int32) (fl : Int32) (wa : Int32) (fo : Int32) (sb : Int32) (lp : Int32) (fm : Int32) (pn : Int32) (tr : Nat → Int32) (fs : Nat → Int32) (sk : Nat → Int32) (ct : Nat → Int32) (nt : Nat → Int32) (a1 : Int32) (hn : n ≤ 6) : v_X3_searchTeams_0 n se wo fO wI so sd ti on he il kn sp py bo (fun u => u = stF n il kn sp py bo fO wI se a1 (os, fl, wa, fo, sb, lp, fm, pn, tr, fs, sk, ct, nt))  a1 os fl wa fo sb lp fm pn tr fs sk ct nt := by
  unfold v_X3_searchTeams_0
  simp only [bI_0, Bool.not_eq_false]
  refine ⟨fun h => ?_, fun h => ?_⟩
  · rw [stF, if_neg (by simp [h])]
  · have hv : vp_in a1 2 := inB_in (n := 2) h (Nat.le_refl _) (by omega)
    refine ⟨hv, hv, rfl, fun u hu => ?_⟩
    rw [stF, if_pos h, hu]
    rfl
theorem h_X3_person (n : Nat) (se : Int32) (wo : Int32) (fO : Nat → Int32) (wI : Nat → Int32) (os : Int32) (fl : Int32) (wa : Int32) (fo : Int32) (sb : Int32) (lp : Int32) (fm : Int32) (pn : Int32) (tr : Nat → Int32) (fs : Nat → Int32) (sk : Nat → Int32) (ct : Nat → Int32) (nt : Nat → Int32) (so : Nat → Int32) (sd : Nat → Int32) (ti : Nat → Int32) (on : Nat → Int32) (he : Nat → Int32) (il : Int32) (kn : Nat → Int32) (sp : Nat → Int32) (py : Nat → Int32) (bo : Nat → Int32) (a1 : Int32) (a2 : Int32) (a3 : Int32) (hn : n ≤ 6) : v_X3_person_0 n se wo fO wI os fl wa fo sb lp fm pn tr fs sk ct nt so sd ti on he il (fun r u => r = (if pOk a1 a2 a3 = true then (if n < 6 then nI n else (-5)) else (-3)) ∧ u = (nI (if (pOk a1 a2 a3 && decide (n < 6)) = true then n + 1 else n), (if (pOk a1 a2 a3 && decide (n < 6)) = true then upd kn n a1 else kn), (if (pOk a1 a2 a3 && decide (n < 6)) = true then upd sp n a2 else sp), (if (pOk a1 a2 a3 && decide (n < 6)) = true then upd py n a3 else py), (if (pOk a1 a2 a3 && decide (n < 6)) = true then upd bo n 5 else bo)))  a1 a2 a3 kn sp py bo := by
  unfold v_X3_person_0
  simp only [bI_0, Bool.not_eq_false, decide_eq_true_eq, decide_eq_false_iff_not]
  refine ⟨fun h => ?_, fun h => ⟨fun h2 => ?_, fun h2 => ⟨fun h3 => ⟨fun h4 => ?_, fun h4 => ⟨fun h5 => ?_, fun h5 => ?_⟩⟩, fun h3 => ?_⟩⟩⟩
  · have e : pOk a1 a2 a3 = false := by simp [pOk, h]
    simp [e]
  · have e : pOk a1 a2 a3 = false := by simp [pOk, h2]
    simp [e]
  · have e : pOk a1 a2 a3 = false := by simp [pOk, h4]
    simp [e]
  · have e : pOk a1 a2 a3 = true := by simp only [pOk, Classical.not_not.mp h, Classical.not_not.mp h2, h3, h4, h5, eq_self, decide_true, decide_false, Bool.not_false, Bool.and_self]
    simp [e]
  · have e : pOk a1 a2 a3 = false := by simp [pOk, h5]
    simp [e]
  · have e : pOk a1 a2 a3 = false := by simp only [pOk, h3, decide_false, Bool.false_and, Bool.and_false]
    simp [e]
theorem h_X3_ill (n : Nat) (se : Int32) (wo : Int32) (fO : Nat → Int32) (wI : Nat → Int32) (os : Int32) (fl : Int32) (wa : Int32) (fo : Int32) (sb : Int32) (lp : Int32) (fm : Int32) (pn : Int32) (tr : Nat → Int32) (fs : Nat → Int32) (sk : Nat → Int32) (ct : Nat → Int32) (nt : Nat → Int32) (so : Nat → Int32) (sd : Nat → Int32) (ti : Nat → Int32) (on : Nat → Int32) (he : Nat → Int32) (kn : Nat → Int32) (sp : Nat → Int32) (py : Nat → Int32) (bo : Nat → Int32) (il : Int32) (a1 : Int32) (a2 : Int32) (hn : n ≤ 6) : v_X3_ill_0 n se wo fO wI os fl wa fo sb lp fm pn tr fs sk ct nt so sd ti on he kn sp py bo (fun r u => r = (if inB a1 (nI n) = true then bI (hs il a1) else (-2)) ∧ u = (if inB a1 (nI n) = true then (if a2 = 0 then il &&& (((1 : Int32) <<< (a1 &&& 31)) ^^^ (-1)) else il ||| ((1 : Int32) <<< (a1 &&& 31))) else il))  a1 a2 il := by
  unfold v_X3_ill_0
  simp only [bI_0, Bool.not_eq_false, v_X3_ill_30]
  refine ⟨fun h => ?_, fun h => ⟨fun h2 => ?_, fun h2 => ?_⟩⟩
  · simp [h]
  · simp [h, h2, bI]
  · simp [h, h2, bI]
theorem h_X3_session (n : Nat) (se : Int32) (wo : Int32) (os : Int32) (fl : Int32) (wa : Int32) (fo : Int32) (sb : Int32) (lp : Int32) (fm : Int32) (pn : Int32) (tr : Nat → Int32) (fs : Nat → Int32) (sk : Nat → Int32) (ct : Nat → Int32) (nt : Nat → Int32) (so : Nat → Int32) (sd : Nat → Int32) (ti : Nat → Int32) (on : Nat → Int32) (he : Nat → Int32) (il : Int32) (kn : Nat → Int32) (sp : Nat → Int32) (py : Nat → Int32) (bo : Nat → Int32) (fO : Nat → Int32) (wI : Nat → Int32) (a1 : Int32) (a2 : Int32) (a3 : Int32) (hn : n ≤ 6) : v_X3_session_0 n se wo os fl wa fo sb lp fm pn tr fs sk ct nt so sd ti on he il kn sp py bo (fun r u => r = (if inB a1 2 = true then (if (decide (a2 &&& (-32) = 0) && decide (a3 &&& (-32) = 0)) = true then 1 else (-3)) else (-2)) ∧ u = ((if (inB a1 2 && (decide (a2 &&& (-32) = 0) && decide (a3 &&& (-32) = 0))) = true then upd fO a1.toNatClampNeg a2 else fO), (if (inB a1 2 && (decide (a2 &&& (-32) = 0) && decide (a3 &&& (-32) = 0))) = true then upd wI a1.toNatClampNeg a3 else wI)))  a1 a2 a3 fO wI := by
  unfold v_X3_session_0
  simp only [bI_0, Bool.not_eq_false, decide_eq_true_eq, decide_eq_false_iff_not]
  refine ⟨fun h => ?_, fun h => ⟨fun h2 => ?_, fun h2 => ⟨fun h3 => ?_, fun h3 => ?_⟩⟩⟩
  · simp [h]
  · simp [h, h2]
  · simp [h, h3]
  · have hv : vp_in a1 2 := inB_in (n := 2) h (Nat.le_refl _) (by omega)
    refine ⟨hv, hv, ?_⟩
    simp [h, h2, h3]
theorem h_X3_seats (n : Nat) (wo : Int32) (fO : Nat → Int32) (wI : Nat → Int32) (os : Int32) (fl : Int32) (wa : Int32) (fo : Int32) (sb : Int32) (lp : Int32) (fm : Int32) (pn : Int32) (tr : Nat → Int32) (fs : Nat → Int32) (sk : Nat → Int32) (ct : Nat → Int32) (nt : Nat → Int32) (so : Nat → Int32) (sd : Nat → Int32) (ti : Nat → Int32) (on : Nat → Int32) (he : Nat → Int32) (il : Int32) (kn : Nat → Int32) (sp : Nat → Int32) (py : Nat → Int32) (bo : Nat → Int32) (se : Int32) (a1 : Int32) (hn : n ≤ 6) : v_X3_seats_0 n wo fO wI os fl wa fo sb lp fm pn tr fs sk ct nt so sd ti on he il kn sp py bo (fun r u => r = (if (a1 < 1 ∨ 2 < a1) then (-3) else se) ∧ u = (if (a1 < 1 ∨ 2 < a1) then se else a1))  a1 se := by
  unfold v_X3_seats_0
  have hlt : ∀ x : Int32, (2 < x) = ¬ x ≤ 2 := fun x => propext Int32.not_le.symm
  simp only [hlt]
  refine ⟨fun h => ?_, fun h => ⟨fun h2 => ?_, fun h2 => ?_⟩⟩
  · simp [h]
  · simp [h, h2]
  · simp [h2]
theorem h_X3_whole (n : Nat) (se : Int32) (wo : Int32) (fO : Nat → Int32) (wI : Nat → Int32) (so : Nat → Int32) (sd : Nat → Int32) (ti : Nat → Int32) (on : Nat → Int32) (he : Nat → Int32) (il : Int32) (kn : Nat → Int32) (sp : Nat → Int32) (py : Nat → Int32) (bo : Nat → Int32) (os : Int32) (fl : Int32) (wa : Int32) (fo : Int32) (sb : Int32) (lp : Int32) (fm : Int32) (pn : Int32) (tr : Nat → Int32) (fs : Nat → Int32) (sk : Nat → Int32) (ct : Nat → Int32) (nt : Nat → Int32) (a1 : Int32) (hn : n ≤ 6) : v_X3_whole_0 n se wo fO wI so sd ti on he il kn sp py bo (fun r u => r = (if inB a1 2 = true then (stF n il kn sp py bo fO wI se a1 (os, fl, wa, fo, sb, lp, fm, pn, tr, fs, sk, ct, nt)).2.2.2.1 else (-2)) ∧ u = stF n il kn sp py bo fO wI se a1 (os, fl, wa, fo, sb, lp, fm, pn, tr, fs, sk, ct, nt))  a1 os fl wa fo sb lp fm pn tr fs sk ct nt := by
  unfold v_X3_whole_0
  simp only [bI_0, Bool.not_eq_false]
  refine ⟨fun h => ?_, fun h => fun u hu => ?_⟩
  · rw [if_neg (by simp [h]), stF, if_neg (by simp [h])]
    exact ⟨rfl, rfl⟩
  · rw [if_pos h, hu]
    exact ⟨rfl, rfl⟩
theorem h_X3_cheapest (n : Nat) (se : Int32) (wo : Int32) (fO : Nat → Int32) (wI : Nat → Int32) (so : Nat → Int32) (sd : Nat → Int32) (ti : Nat → Int32) (on : Nat → Int32) (he : Nat → Int32) (il : Int32) (kn : Nat → Int32) (sp : Nat → Int32) (py : Nat → Int32) (bo : Nat → Int32) (os : Int32) (fl : Int32) (wa : Int32) (fo : Int32) (sb : Int32) (lp : Int32) (fm : Int32) (pn : Int32) (tr : Nat → Int32) (fs : Nat → Int32) (sk : Nat → Int32) (ct : Nat → Int32) (nt : Nat → Int32) (a1 : Int32) (hn : n ≤ 6) : v_X3_cheapest_0 n se wo fO wI so sd ti on he il kn sp py bo (fun r u => r = (if inB a1 2 = true then (stF n il kn sp py bo fO wI se a1 (os, fl, wa, fo, sb, lp, fm, pn, tr, fs, sk, ct, nt)).2.2.2.2.2.1 else (-2)) ∧ u = stF n il kn sp py bo fO wI se a1 (os, fl, wa, fo, sb, lp, fm, pn, tr, fs, sk, ct, nt))  a1 os fl wa fo sb lp fm pn tr fs sk ct nt := by
  unfold v_X3_cheapest_0
  simp only [bI_0, Bool.not_eq_false]
  refine ⟨fun h => ?_, fun h => fun u hu => ?_⟩
  · rw [if_neg (by simp [h]), stF, if_neg (by simp [h])]
    exact ⟨rfl, rfl⟩
  · rw [if_pos h, hu]
    exact ⟨rfl, rfl⟩
theorem h_X3_nearest (n : Nat) (se : Int32) (wo : Int32) (fO : Nat → Int32) (wI : Nat → Int32) (so : Nat → Int32) (sd : Nat → Int32) (ti : Nat → Int32) (on : Nat → Int32) (he : Nat → Int32) (il : Int32) (kn : Nat → Int32) (sp : Nat → Int32) (py : Nat → Int32) (bo : Nat → Int32) (os : Int32) (fl : Int32) (wa : Int32) (fo : Int32) (sb : Int32) (lp : Int32) (fm : Int32) (pn : Int32) (tr : Nat → Int32) (fs : Nat → Int32) (sk : Nat → Int32) (ct : Nat → Int32) (nt : Nat → Int32) (a1 : Int32) (hn : n ≤ 6) : v_X3_nearest_0 n se wo fO wI so sd ti on he il kn sp py bo (fun r u => r = (if inB a1 2 = true then (stF n il kn sp py bo fO wI se a1 (os, fl, wa, fo, sb, lp, fm, pn, tr, fs, sk, ct, nt)).2.2.2.2.2.2.1 else (-2)) ∧ u = stF n il kn sp py bo fO wI se a1 (os, fl, wa, fo, sb, lp, fm, pn, tr, fs, sk, ct, nt))  a1 os fl wa fo sb lp fm pn tr fs sk ct nt := by
  unfold v_X3_nearest_0
  simp only [bI_0, Bool.not_eq_false]
  refine ⟨fun h => ?_, fun h => fun u hu => ?_⟩
  · rw [if_neg (by simp [h]), stF, if_neg (by simp [h])]
    exact ⟨rfl, rfl⟩
  · rw [if_pos h, hu]
    exact ⟨rfl, rfl⟩
theorem h_X3_take (n : Nat) (se : Int32) (wo : Int32) (fO : Nat → Int32) (wI : Nat → Int32) (so : Nat → Int32) (sd : Nat → Int32) (ti : Nat → Int32) (on : Nat → Int32) (he : Nat → Int32) (il : Int32) (kn : Nat → Int32) (sp : Nat → Int32) (py : Nat → Int32) (os : Int32) (fl : Int32) (wa : Int32) (fo : Int32) (sb : Int32) (lp : Int32) (fm : Int32) (pn : Int32) (tr : Nat → Int32) (fs : Nat → Int32) (sk : Nat → Int32) (ct : Nat → Int32) (nt : Nat → Int32) (bo : Nat → Int32) (a1 : Int32) (a2 : Int32) (hn : n ≤ 6) : v_X3_take_0 n se wo fO wI so sd ti on he il kn sp py (fun r u => r = tkR a1 a2 (stF n il kn sp py bo fO wI se a1 (os, fl, wa, fo, sb, lp, fm, pn, tr, fs, sk, ct, nt)) ∧ u = tkF a1 a2 (stF n il kn sp py bo fO wI se a1 (os, fl, wa, fo, sb, lp, fm, pn, tr, fs, sk, ct, nt)) (os, fl, wa, fo, sb, lp, fm, pn, tr, fs, sk, ct, nt) bo)  a1 a2 os fl wa fo sb lp fm pn tr fs sk ct nt bo := by
  unfold v_X3_take_0
  simp only [bI_0, Bool.not_eq_false, v_X3_take_22]
  generalize hy : stF n il kn sp py bo fO wI se a1 (os, fl, wa, fo, sb, lp, fm, pn, tr, fs, sk, ct, nt) = y
  have h10 : ¬ (1 : Int32) = 0 := by decide
  refine ⟨fun h => ?_, fun h => ⟨fun h2 => fun u hu => ⟨fun h3 => ?_, fun h3 => ⟨fun h4 => ?_, fun h4 => ?_⟩⟩, fun h2 => ⟨fun h5 => fun u hu => ⟨fun h3 => ?_, fun h3 => ⟨fun h4 => ?_, fun h4 => ?_⟩⟩, fun h5 => ?_⟩⟩⟩
  · rw [tkR, tkF, if_neg (by simp [h]), if_neg (by simp [h])]
    exact ⟨rfl, rfl⟩
  · subst hu
    rw [tkR, tkF, if_pos h, if_pos (Or.inl h2), if_pos h3, if_pos ⟨h, Or.inl h2⟩, if_pos h3]
    exact ⟨rfl, rfl⟩
  · subst hu
    rw [tkR, tkF, if_pos h, if_pos (Or.inl h2), if_neg h3, if_pos h2, if_pos ⟨h, Or.inl h2⟩, if_neg h3, if_pos h2]
    exact ⟨rfl, rfl⟩
  · exact absurd h2 h4
  · subst hu
    rw [tkR, tkF, if_pos h, if_pos (Or.inr h5), if_pos h3, if_pos ⟨h, Or.inr h5⟩, if_pos h3]
    exact ⟨rfl, rfl⟩
  · exact absurd h4 h2
  · subst hu
    rw [tkR, tkF, if_pos h, if_pos (Or.inr h5), if_neg h3, if_neg h2, if_pos ⟨h, Or.inr h5⟩, if_neg h3, if_neg h2]
    exact ⟨rfl, rfl⟩
  · have hc : ¬ (a2 = 0 ∨ a2 = 1) := fun hq => hq.elim h2 h5
    rw [tkR, tkF, if_pos h, if_neg hc, if_neg (fun hq => hc hq.2)]
    exact ⟨rfl, rfl⟩
theorem h_X3_leave (n : Nat) (se : Int32) (wo : Int32) (fO : Nat → Int32) (wI : Nat → Int32) (os : Int32) (fl : Int32) (wa : Int32) (fo : Int32) (sb : Int32) (lp : Int32) (fm : Int32) (pn : Int32) (tr : Nat → Int32) (fs : Nat → Int32) (sk : Nat → Int32) (ct : Nat → Int32) (nt : Nat → Int32) (so : Nat → Int32) (sd : Nat → Int32) (ti : Nat → Int32) (on : Nat → Int32) (he : Nat → Int32) (il : Int32) (kn : Nat → Int32) (sp : Nat → Int32) (py : Nat → Int32) (bo : Nat → Int32) (hn : n ≤ 6) : v_X3_leave_0 n se wo fO wI os fl wa fo sb lp fm pn tr fs sk ct nt so sd ti on he il kn sp py (fun r u => r = sI (fun k => bI (!decide (bo k = 5))) n ∧ u = fillA bo 6 5)   bo := by
  unfold v_X3_leave_0
  exact ⟨rfl, rfl⟩
theorem h_X3_booth (n : Nat) (se : Int32) (wo : Int32) (fO : Nat → Int32) (wI : Nat → Int32) (os : Int32) (fl : Int32) (wa : Int32) (fo : Int32) (sb : Int32) (lp : Int32) (fm : Int32) (pn : Int32) (tr : Nat → Int32) (fs : Nat → Int32) (sk : Nat → Int32) (ct : Nat → Int32) (nt : Nat → Int32) (so : Nat → Int32) (sd : Nat → Int32) (ti : Nat → Int32) (on : Nat → Int32) (he : Nat → Int32) (il : Int32) (kn : Nat → Int32) (sp : Nat → Int32) (py : Nat → Int32) (bo : Nat → Int32) (a1 : Int32) (hn : n ≤ 6) : v_X3_booth_0 n se wo fO wI os fl wa fo sb lp fm pn tr fs sk ct nt so sd ti on he il kn sp py bo (fun r _ => r = (if inB a1 (nI n) = true then bo a1.toNatClampNeg else (-2)))  a1 := by
  unfold v_X3_booth_0
  simp only [bI_0, Bool.not_eq_false]
  refine ⟨fun h => ?_, fun h => ?_⟩
  · simp [h]
  · simp [h, atP]
theorem h_X3_lacking (n : Nat) (se : Int32) (wo : Int32) (fO : Nat → Int32) (wI : Nat → Int32) (os : Int32) (fl : Int32) (wa : Int32) (fo : Int32) (sb : Int32) (lp : Int32) (fm : Int32) (pn : Int32) (tr : Nat → Int32) (fs : Nat → Int32) (sk : Nat → Int32) (ct : Nat → Int32) (nt : Nat → Int32) (so : Nat → Int32) (sd : Nat → Int32) (ti : Nat → Int32) (on : Nat → Int32) (he : Nat → Int32) (il : Int32) (kn : Nat → Int32) (sp : Nat → Int32) (py : Nat → Int32) (bo : Nat → Int32) (a1 : Int32) (hn : n ≤ 6) (K14 : Int32 → Int32 → Int32 → Prop) (R14 : ∀ x1 x2 x3, v_X3_lacking_14 n se wo fO wI os fl wa fo sb lp fm pn tr fs sk ct nt so sd ti on he il kn sp py bo (fun r _ => r = (if inB a1 2 = true then lcF n il sp (wI a1.toNatClampNeg) se 5 else (-2))) K14 x1 x2 x3 → K14 x1 x2 x3) : v_X3_lacking_0 n se wo fO wI os fl wa fo sb lp fm pn tr fs sk ct nt so sd ti on he il kn sp py bo (fun r _ => r = (if inB a1 2 = true then lcF n il sp (wI a1.toNatClampNeg) se 5 else (-2))) K14 a1 := by
  unfold v_X3_lacking_0
  simp only [bI_0, Bool.not_eq_false]
  refine ⟨fun h => ?_, fun h => ?_⟩
  · simp [h]
  · have hv : vp_in a1 2 := inB_in (n := 2) h (Nat.le_refl _) (by omega)
    rw [if_pos h] at R14
    have key := up_ind (fun k => K14 a1 (lcF n il sp (wI a1.toNatClampNeg) se k) (nI k)) 5 (R14 _ _ _ ?_) (fun k hk ih => R14 _ _ _ ?_)
    · exact key
    · exact ⟨fun _ => rfl, fun h => absurd (nI_le (a := 5) (b := 5) (Nat.le_refl _) (by omega)) h⟩
    · refine ⟨fun h => absurd h (nI_ge (b := 5) hk (by omega)), fun _ => ⟨hv, ?_⟩⟩
      simp only [bI_0, Bool.not_eq_false, v_X3_lacking_53, nI_1]
      refine ⟨fun h2 => ?_, fun h2 => ⟨fun h3 => ?_, fun h3 => ?_⟩⟩
      · simpa [lcF, h2] using ih
      · simpa [lcF, h3] using ih
      · simpa [lcF, h2, h3] using ih
theorem h_X3_needed (n : Nat) (se : Int32) (wo : Int32) (fO : Nat → Int32) (wI : Nat → Int32) (so : Nat → Int32) (sd : Nat → Int32) (ti : Nat → Int32) (on : Nat → Int32) (he : Nat → Int32) (il : Int32) (kn : Nat → Int32) (sp : Nat → Int32) (py : Nat → Int32) (bo : Nat → Int32) (os : Int32) (fl : Int32) (wa : Int32) (fo : Int32) (sb : Int32) (lp : Int32) (fm : Int32) (pn : Int32) (tr : Nat → Int32) (fs : Nat → Int32) (sk : Nat → Int32) (ct : Nat → Int32) (nt : Nat → Int32) (a1 : Int32) (a2 : Int32) (hn : n ≤ 6) : v_X3_needed_0 n se wo fO wI so sd ti on he il kn sp py bo (fun r u => r = (if (inB a1 (nI n) && inB a2 2) = true then bI (!decide ((stF n il kn sp py bo fO wI se a2 (os, fl, wa, fo, sb, lp, fm, pn, tr, fs, sk, ct, nt)).2.2.2.1 ≤ 0) && !hs ((stF n il kn sp py bo fO wI se a2 (os, fl, wa, fo, sb, lp, fm, pn, tr, fs, sk, ct, nt)).2.2.2.2.1) a1) else (-2)) ∧ u = (if (inB a1 (nI n) && inB a2 2) = true then stF n il kn sp py bo fO wI se a2 (os, fl, wa, fo, sb, lp, fm, pn, tr, fs, sk, ct, nt) else (os, fl, wa, fo, sb, lp, fm, pn, tr, fs, sk, ct, nt)))  a1 a2 os fl wa fo sb lp fm pn tr fs sk ct nt := by
  unfold v_X3_needed_0
  simp only [bI_0, Bool.not_eq_false]
  refine ⟨fun h => ?_, fun h => ⟨fun h2 => ?_, fun h2 => fun u hu => ⟨fun h3 => ?_, fun h3 => ⟨fun h4 => ?_, fun h4 => ?_⟩⟩⟩⟩
  · simp [h]
  · simp [h2]
  · have hc : (inB a1 (nI n) && inB a2 2) = true := by simp [h, h2]
    rw [if_pos hc, if_pos hc, ← hu]
    exact ⟨by simp [h3, bI], rfl⟩
  · have hc : (inB a1 (nI n) && inB a2 2) = true := by simp [h, h2]
    rw [if_pos hc, if_pos hc, ← hu]
    exact ⟨by simp [h3, h4, bI], rfl⟩
  · have hc : (inB a1 (nI n) && inB a2 2) = true := by simp [h, h2]
    rw [if_pos hc, if_pos hc, ← hu]
    exact ⟨by simp [h4, bI], rfl⟩
theorem h_X3_speak (n : Nat) (se : Int32) (wo : Int32) (fO : Nat → Int32) (wI : Nat → Int32) (os : Int32) (fl : Int32) (wa : Int32) (fo : Int32) (sb : Int32) (lp : Int32) (fm : Int32) (pn : Int32) (tr : Nat → Int32) (fs : Nat → Int32) (sk : Nat → Int32) (ct : Nat → Int32) (nt : Nat → Int32) (ti : Nat → Int32) (on : Nat → Int32) (he : Nat → Int32) (il : Int32) (kn : Nat → Int32) (sp : Nat → Int32) (py : Nat → Int32) (bo : Nat → Int32) (so : Nat → Int32) (sd : Nat → Int32) (a1 : Int32) (a2 : Int32) (a3 : Int32) (hn : n ≤ 6) : v_X3_speak_0 n se wo fO wI os fl wa fo sb lp fm pn tr fs sk ct nt ti on he il kn sp py bo (fun r u => r = (if (inB a1 16 && inB a2 5) = true then (if (!decide (a3 < 1) && !decide (9 < a3)) = true then 1 else (-3)) else (-2)) ∧ u = ((if (inB a1 16 && (inB a2 5 && (!decide (a3 < 1) && !decide (9 < a3)))) = true then upd so a1.toNatClampNeg a2 else so), (if (inB a1 16 && (inB a2 5 && (!decide (a3 < 1) && !decide (9 < a3)))) = true then upd sd a1.toNatClampNeg a3 else sd)))  a1 a2 a3 so sd := by
  unfold v_X3_speak_0
  have hlt : ∀ x : Int32, (9 < x) = ¬ x ≤ 9 := fun x => propext Int32.not_le.symm
  simp only [bI_0, Bool.not_eq_false, hlt]
  refine ⟨fun h => ?_, fun h => ⟨fun h2 => ?_, fun h2 => ⟨fun h3 => ?_, fun h3 => ⟨fun h4 => ?_, fun h4 => ?_⟩⟩⟩⟩
  · simp [h]
  · simp [h2]
  · simp [h, h2, h3]
  · simp [h, h2, h3, h4]
  · simp [h, h2, h4]
theorem h_X3_silence (n : Nat) (se : Int32) (wo : Int32) (fO : Nat → Int32) (wI : Nat → Int32) (os : Int32) (fl : Int32) (wa : Int32) (fo : Int32) (sb : Int32) (lp : Int32) (fm : Int32) (pn : Int32) (tr : Nat → Int32) (fs : Nat → Int32) (sk : Nat → Int32) (ct : Nat → Int32) (nt : Nat → Int32) (ti : Nat → Int32) (on : Nat → Int32) (he : Nat → Int32) (il : Int32) (kn : Nat → Int32) (sp : Nat → Int32) (py : Nat → Int32) (bo : Nat → Int32) (so : Nat → Int32) (sd : Nat → Int32) (a1 : Int32) (hn : n ≤ 6) : v_X3_silence_0 n se wo fO wI os fl wa fo sb lp fm pn tr fs sk ct nt ti on he il kn sp py bo (fun r u => r = (if inB a1 16 = true then bI (!decide (so a1.toNatClampNeg = -1)) else (-2)) ∧ u = ((if inB a1 16 = true then upd so a1.toNatClampNeg (-1) else so), (if inB a1 16 = true then upd sd a1.toNatClampNeg 0 else sd)))  a1 so sd := by
  unfold v_X3_silence_0
  simp only [bI_0, Bool.not_eq_false, v_X3_silence_26]
  refine ⟨fun h => ?_, fun h => ⟨fun h2 => ?_, fun h2 => ?_⟩⟩
  · simp [h]
  · have e : so a1.toNatClampNeg ≠ -1 := by simpa [silF, h] using h2
    simp [h, e, bI]
  · have e : so a1.toNatClampNeg = -1 := by simpa [silF, h] using h2
    simp [h, e, bI]
theorem h_X3_limit (n : Nat) (se : Int32) (fO : Nat → Int32) (wI : Nat → Int32) (os : Int32) (fl : Int32) (wa : Int32) (fo : Int32) (sb : Int32) (lp : Int32) (fm : Int32) (pn : Int32) (tr : Nat → Int32) (fs : Nat → Int32) (sk : Nat → Int32) (ct : Nat → Int32) (nt : Nat → Int32) (so : Nat → Int32) (sd : Nat → Int32) (ti : Nat → Int32) (on : Nat → Int32) (he : Nat → Int32) (il : Int32) (kn : Nat → Int32) (sp : Nat → Int32) (py : Nat → Int32) (bo : Nat → Int32) (wo : Int32) (a1 : Int32) (hn : n ≤ 6) : v_X3_limit_0 n se fO wI os fl wa fo sb lp fm pn tr fs sk ct nt so sd ti on he il kn sp py bo (fun r u => r = (if (a1 < 5 ∨ 60 < a1) then (-3) else wo) ∧ u = (if (a1 < 5 ∨ 60 < a1) then wo else a1))  a1 wo := by
  unfold v_X3_limit_0
  have hlt : ∀ x : Int32, (60 < x) = ¬ x ≤ 60 := fun x => propext Int32.not_le.symm
  simp only [hlt]
  refine ⟨fun h => ?_, fun h => ⟨fun h2 => ?_, fun h2 => ?_⟩⟩
  · simp [h]
  · simp [h, h2]
  · simp [h2]
theorem h_X3_on (n : Nat) (se : Int32) (wo : Int32) (fO : Nat → Int32) (wI : Nat → Int32) (os : Int32) (fl : Int32) (wa : Int32) (fo : Int32) (sb : Int32) (lp : Int32) (fm : Int32) (pn : Int32) (tr : Nat → Int32) (fs : Nat → Int32) (sk : Nat → Int32) (ct : Nat → Int32) (nt : Nat → Int32) (so : Nat → Int32) (sd : Nat → Int32) (il : Int32) (kn : Nat → Int32) (sp : Nat → Int32) (py : Nat → Int32) (bo : Nat → Int32) (ti : Nat → Int32) (on : Nat → Int32) (he : Nat → Int32) (a1 : Int32) (a2 : Int32) (hn : n ≤ 6) : v_X3_on_0 n se wo fO wI os fl wa fo sb lp fm pn tr fs sk ct nt so sd il kn sp py bo (fun r u => r = (if (inB a1 5 && inB a2 16) = true then (plT n kn bo so sd (ti, on, he) (a2.toNatClampNeg + 1)).2.1 a1.toNatClampNeg else (-2)) ∧ u = (if (inB a1 5 && inB a2 16) = true then (plT n kn bo so sd (ti, on, he) (a2.toNatClampNeg + 1)) else (ti, on, he)))  a1 a2 ti on he := by
  unfold v_X3_on_0
  simp only [bI_0, Bool.not_eq_false]
  refine ⟨fun h => ?_, fun h => ⟨fun h2 => ?_, fun h2 => ⟨h2, fun u hu => ⟨inB_in (n := 5) h (Nat.le_refl _) (by omega), ?_⟩⟩⟩⟩
  · simp [h]
  · simp [h2]
  · have hc : (inB a1 5 && inB a2 16) = true := by simp [h, h2]
    rw [if_pos hc, if_pos hc, hu]
    exact ⟨rfl, rfl⟩
theorem h_X3_heard (n : Nat) (se : Int32) (wo : Int32) (fO : Nat → Int32) (wI : Nat → Int32) (os : Int32) (fl : Int32) (wa : Int32) (fo : Int32) (sb : Int32) (lp : Int32) (fm : Int32) (pn : Int32) (tr : Nat → Int32) (fs : Nat → Int32) (sk : Nat → Int32) (ct : Nat → Int32) (nt : Nat → Int32) (so : Nat → Int32) (sd : Nat → Int32) (il : Int32) (kn : Nat → Int32) (sp : Nat → Int32) (py : Nat → Int32) (bo : Nat → Int32) (ti : Nat → Int32) (on : Nat → Int32) (he : Nat → Int32) (a1 : Int32) (a2 : Int32) (hn : n ≤ 6) : v_X3_heard_0 n se wo fO wI os fl wa fo sb lp fm pn tr fs sk ct nt so sd il kn sp py bo (fun r u => r = (if (inB a1 5 && inB a2 16) = true then (plT n kn bo so sd (ti, on, he) (a2.toNatClampNeg + 1)).2.2 a1.toNatClampNeg else (-2)) ∧ u = (if (inB a1 5 && inB a2 16) = true then (plT n kn bo so sd (ti, on, he) (a2.toNatClampNeg + 1)) else (ti, on, he)))  a1 a2 ti on he := by
  unfold v_X3_heard_0
  simp only [bI_0, Bool.not_eq_false]
  refine ⟨fun h => ?_, fun h => ⟨fun h2 => ?_, fun h2 => ⟨h2, fun u hu => ⟨inB_in (n := 5) h (Nat.le_refl _) (by omega), ?_⟩⟩⟩⟩
  · simp [h]
  · simp [h2]
  · have hc : (inB a1 5 && inB a2 16) = true := by simp [h, h2]
    rw [if_pos hc, if_pos hc, hu]
    exact ⟨rfl, rfl⟩
theorem h_X3_tired (n : Nat) (se : Int32) (wo : Int32) (fO : Nat → Int32) (wI : Nat → Int32) (os : Int32) (fl : Int32) (wa : Int32) (fo : Int32) (sb : Int32) (lp : Int32) (fm : Int32) (pn : Int32) (tr : Nat → Int32) (fs : Nat → Int32) (sk : Nat → Int32) (ct : Nat → Int32) (nt : Nat → Int32) (so : Nat → Int32) (sd : Nat → Int32) (il : Int32) (kn : Nat → Int32) (sp : Nat → Int32) (py : Nat → Int32) (bo : Nat → Int32) (ti : Nat → Int32) (on : Nat → Int32) (he : Nat → Int32) (a1 : Int32) (a2 : Int32) (hn : n ≤ 6) : v_X3_tired_0 n se wo fO wI os fl wa fo sb lp fm pn tr fs sk ct nt so sd il kn sp py bo (fun r u => r = (if (inB a1 (nI n) && inB a2 16) = true then (plT n kn bo so sd (ti, on, he) (a2.toNatClampNeg + 1)).1 a1.toNatClampNeg else (-2)) ∧ u = (if (inB a1 (nI n) && inB a2 16) = true then (plT n kn bo so sd (ti, on, he) (a2.toNatClampNeg + 1)) else (ti, on, he)))  a1 a2 ti on he := by
  unfold v_X3_tired_0
  simp only [bI_0, Bool.not_eq_false]
  refine ⟨fun h => ?_, fun h => ⟨fun h2 => ?_, fun h2 => ⟨h2, fun u hu => ⟨inB_in h hn (by omega), ?_⟩⟩⟩⟩
  · simp [h]
  · simp [h2]
  · have hc : (inB a1 (nI n) && inB a2 16) = true := by simp [h, h2]
    rw [if_pos hc, if_pos hc, hu]
    exact ⟨rfl, rfl⟩
theorem h_X3_late (n : Nat) (se : Int32) (wo : Int32) (fO : Nat → Int32) (wI : Nat → Int32) (os : Int32) (fl : Int32) (wa : Int32) (fo : Int32) (sb : Int32) (lp : Int32) (fm : Int32) (pn : Int32) (tr : Nat → Int32) (fs : Nat → Int32) (sk : Nat → Int32) (ct : Nat → Int32) (nt : Nat → Int32) (so : Nat → Int32) (sd : Nat → Int32) (il : Int32) (kn : Nat → Int32) (sp : Nat → Int32) (py : Nat → Int32) (bo : Nat → Int32) (ti : Nat → Int32) (on : Nat → Int32) (he : Nat → Int32) (a1 : Int32) (hn : n ≤ 6) : v_X3_late_0 n se wo fO wI os fl wa fo sb lp fm pn tr fs sk ct nt so sd il kn sp py bo (fun r u => r = (if inB a1 5 = true then laO n kn bo so sd (ti, on, he) a1 16 else (-2)) ∧ u = (if inB a1 5 = true then (plT n kn bo so sd (ti, on, he) 16) else (ti, on, he)))  a1 ti on he := by
  unfold v_X3_late_0
  simp only [bI_0, Bool.not_eq_false]
  refine ⟨fun h => ?_, fun h => ⟨h, fun u hu => ?_⟩⟩
  · simp [h]
  · rw [if_pos h, if_pos h, hu]
    exact ⟨rfl, rfl⟩
theorem h_X3_worn (n : Nat) (se : Int32) (wo : Int32) (fO : Nat → Int32) (wI : Nat → Int32) (os : Int32) (fl : Int32) (wa : Int32) (fo : Int32) (sb : Int32) (lp : Int32) (fm : Int32) (pn : Int32) (tr : Nat → Int32) (fs : Nat → Int32) (sk : Nat → Int32) (ct : Nat → Int32) (nt : Nat → Int32) (so : Nat → Int32) (sd : Nat → Int32) (il : Int32) (kn : Nat → Int32) (sp : Nat → Int32) (py : Nat → Int32) (bo : Nat → Int32) (ti : Nat → Int32) (on : Nat → Int32) (he : Nat → Int32) (hn : n ≤ 6) : v_X3_worn_0 n se wo fO wI os fl wa fo sb lp fm pn tr fs sk ct nt so sd il kn sp py bo (fun r u => r = woO n kn bo so sd (ti, on, he) wo 16 ∧ u = (plT n kn bo so sd (ti, on, he) 16))   ti on he := by
  unfold v_X3_worn_0
  intro u hu
  exact ⟨rfl, hu⟩
theorem h_X3_count (n : Nat) (se : Int32) (wo : Int32) (fO : Nat → Int32) (wI : Nat → Int32) (os : Int32) (fl : Int32) (wa : Int32) (fo : Int32) (sb : Int32) (lp : Int32) (fm : Int32) (pn : Int32) (tr : Nat → Int32) (fs : Nat → Int32) (sk : Nat → Int32) (ct : Nat → Int32) (nt : Nat → Int32) (so : Nat → Int32) (sd : Nat → Int32) (ti : Nat → Int32) (on : Nat → Int32) (he : Nat → Int32) (il : Int32) (kn : Nat → Int32) (sp : Nat → Int32) (py : Nat → Int32) (bo : Nat → Int32) (a1 : Int32) (hn : n ≤ 6) : v_X3_count_0 n se wo fO wI os fl wa fo sb lp fm pn tr fs sk ct nt so sd ti on he il kn sp py bo (fun r _ => r = coR n il bo so se a1)  a1 := by
  unfold v_X3_count_0
  refine ⟨fun h => ?_, fun h => ?_, fun h => ?_, fun h => ?_, fun h => ?_, fun h => ?_⟩
  · subst h; rfl
  · subst h; rfl
  · subst h; rfl
  · subst h; rfl
  · subst h; rfl
  · obtain ⟨h0, h1, h2, h3, h4⟩ := h
    rw [coR, if_neg h0, if_neg h1, if_neg h2, if_neg h3, if_neg h4]
end
section
def v_X4_in_0 (post : Int32 → (Unit) → Prop) (a0 : Int32) (a1 : Int32) (a2 : Int32) : Prop := ((a0 < a1 → post (0 : Int32) ()) ∧ (¬ a0 < a1 → ((a2 < a0 → post (0 : Int32) ()) ∧ (¬ a2 < a0 → post (1 : Int32) ()))))
def v_X4_has_0 (post : Int32 → (Unit) → Prop) (a0 : Int32) (a1 : Int32) : Prop := ((((a0 >>> (a1 &&& 31)) &&& (1 : Int32)) = (1 : Int32) → post (1 : Int32) ()) ∧ (¬ ((a0 >>> (a1 &&& 31)) &&& (1 : Int32)) = (1 : Int32) → post (0 : Int32) ()))
def v_X4_isSession_0 (post : Int32 → (Unit) → Prop) (a0 : Int32) : Prop := post (bI (inR a0 (0 : Int32) (1 : Int32))) ()
def v_X4_isTongue_0 (post : Int32 → (Unit) → Prop) (a0 : Int32) : Prop := post (bI (inR a0 (0 : Int32) (4 : Int32))) ()
def v_X4_isHalf_0 (post : Int32 → (Unit) → Prop) (a0 : Int32) : Prop := post (bI (inR a0 (0 : Int32) (15 : Int32))) ()
def v_X4_isPerson_0 (n : Nat) (se : Int32) (li : Int32) (wm : Int32) (ch : Int32) (ne : Int32) (np : Int32) (al : Int32) (wo : Int32) (kn : Nat → Int32) (sp : Nat → Int32) (py : Nat → Int32) (il : Nat → Int32) (fl : Nat → Int32) (wa : Nat → Int32) (bo : Nat → Int32) (so : Nat → Int32) (sd : Nat → Int32) (ro : Nat → Int32) (cp : Nat → Int32) (nr : Nat → Int32) (ti : Nat → Int32) (on : Nat → Int32) (he : Nat → Int32) (la : Nat → Int32) (post : Int32 → (Unit) → Prop) (a1 : Int32) : Prop := post (bI (inR a1 (0 : Int32) ((nI n) - (1 : Int32)))) ()
def v_X4_person_0 (n : Nat) (se : Int32) (li : Int32) (wm : Int32) (ch : Int32) (ne : Int32) (np : Int32) (al : Int32) (wo : Int32) (il : Nat → Int32) (fl : Nat → Int32) (wa : Nat → Int32) (bo : Nat → Int32) (so : Nat → Int32) (sd : Nat → Int32) (ro : Nat → Int32) (cp : Nat → Int32) (nr : Nat → Int32) (ti : Nat → Int32) (on : Nat → Int32) (he : Nat → Int32) (la : Nat → Int32) (post : Int32 → (Int32 × (Nat → Int32) × (Nat → Int32) × (Nat → Int32)) → Prop) (a1 : Int32) (a2 : Int32) (a3 : Int32) (kn : Nat → Int32) (sp : Nat → Int32) (py : Nat → Int32) : Prop := (((bI (inR a1 (0 : Int32) (31 : Int32))) = 0 → post (-3 : Int32) (nI n, kn, sp, py)) ∧ (¬ (bI (inR a1 (0 : Int32) (31 : Int32))) = 0 → (((bI (inR a2 (0 : Int32) (31 : Int32))) = 0 → post (-3 : Int32) (nI n, kn, sp, py)) ∧ (¬ (bI (inR a2 (0 : Int32) (31 : Int32))) = 0 → (((a2 &&& (a1 ^^^ (-1 : Int32))) = 0 → (((bI (inR a3 (1 : Int32) (99 : Int32))) = 0 → post (-3 : Int32) (nI n, kn, sp, py)) ∧ (¬ (bI (inR a3 (1 : Int32) (99 : Int32))) = 0 → (((nI n) = (6 : Int32) → post (-5 : Int32) (nI n, kn, sp, py)) ∧ (¬ (nI n) = (6 : Int32) → (vp_in (nI n) 6 ∧ (vp_in (nI n) 6 ∧ (vp_in (nI n) 6 ∧ post (((nI n) + (1 : Int32)) - (1 : Int32)) ((nI n) + (1 : Int32), upd kn (nI n).toNatClampNeg a1, upd sp (nI n).toNatClampNeg a2, upd py (nI n).toNatClampNeg a3))))))))) ∧ (¬ (a2 &&& (a1 ^^^ (-1 : Int32))) = 0 → post (-3 : Int32) (nI n, kn, sp, py)))))))
def v_X4_ill_0 (n : Nat) (se : Int32) (li : Int32) (wm : Int32) (ch : Int32) (ne : Int32) (np : Int32) (al : Int32) (wo : Int32) (kn : Nat → Int32) (sp : Nat → Int32) (py : Nat → Int32) (fl : Nat → Int32) (wa : Nat → Int32) (bo : Nat → Int32) (so : Nat → Int32) (sd : Nat → Int32) (ro : Nat → Int32) (cp : Nat → Int32) (nr : Nat → Int32) (ti : Nat → Int32) (on : Nat → Int32) (he : Nat → Int32) (la : Nat → Int32) (post : Int32 → ((Nat → Int32)) → Prop) (a1 : Int32) (a2 : Int32) (il : Nat → Int32) : Prop := (((bI (inR a1 0 (nI n - 1))) = 0 → post (-2 : Int32) il) ∧ (¬ (bI (inR a1 0 (nI n - 1))) = 0 → (vp_in a1 6 ∧ (vp_in a1 6 ∧ (((il a1.toNatClampNeg) = 0 → post (0 : Int32) (upd il a1.toNatClampNeg (vp_nar .boolean a2))) ∧ (¬ (il a1.toNatClampNeg) = 0 → post (1 : Int32) (upd il a1.toNatClampNeg (vp_nar .boolean a2))))))))
def v_X4_session_0 (n : Nat) (se : Int32) (li : Int32) (wm : Int32) (ch : Int32) (ne : Int32) (np : Int32) (al : Int32) (wo : Int32) (kn : Nat → Int32) (sp : Nat → Int32) (py : Nat → Int32) (il : Nat → Int32) (bo : Nat → Int32) (so : Nat → Int32) (sd : Nat → Int32) (ro : Nat → Int32) (cp : Nat → Int32) (nr : Nat → Int32) (ti : Nat → Int32) (on : Nat → Int32) (he : Nat → Int32) (la : Nat → Int32) (post : Int32 → ((Nat → Int32) × (Nat → Int32)) → Prop) (a1 : Int32) (a2 : Int32) (a3 : Int32) (fl : Nat → Int32) (wa : Nat → Int32) : Prop := (((bI (inR a1 0 1)) = 0 → post (-2 : Int32) (fl, wa)) ∧ (¬ (bI (inR a1 0 1)) = 0 → (((bI (inR a2 (0 : Int32) (31 : Int32))) = 0 → post (-3 : Int32) (fl, wa)) ∧ (¬ (bI (inR a2 (0 : Int32) (31 : Int32))) = 0 → (((bI (inR a3 (0 : Int32) (31 : Int32))) = 0 → post (-3 : Int32) (fl, wa)) ∧ (¬ (bI (inR a3 (0 : Int32) (31 : Int32))) = 0 → (vp_in a1 2 ∧ (vp_in a1 2 ∧ post (1 : Int32) (upd fl a1.toNatClampNeg a2, upd wa a1.toNatClampNeg a3)))))))))
def v_X4_seats_0 (n : Nat) (li : Int32) (wm : Int32) (ch : Int32) (ne : Int32) (np : Int32) (al : Int32) (wo : Int32) (kn : Nat → Int32) (sp : Nat → Int32) (py : Nat → Int32) (il : Nat → Int32) (fl : Nat → Int32) (wa : Nat → Int32) (bo : Nat → Int32) (so : Nat → Int32) (sd : Nat → Int32) (ro : Nat → Int32) (cp : Nat → Int32) (nr : Nat → Int32) (ti : Nat → Int32) (on : Nat → Int32) (he : Nat → Int32) (la : Nat → Int32) (post : Int32 → (Int32) → Prop) (a1 : Int32) (se : Int32) : Prop := (((bI (inR a1 (1 : Int32) (2 : Int32))) = 0 → post (-3 : Int32) se) ∧ (¬ (bI (inR a1 (1 : Int32) (2 : Int32))) = 0 → post se a1))
def v_X4_isTeam_0 (n : Nat) (se : Int32) (li : Int32) (wm : Int32) (ch : Int32) (ne : Int32) (np : Int32) (al : Int32) (wo : Int32) (kn : Nat → Int32) (sp : Nat → Int32) (py : Nat → Int32) (il : Nat → Int32) (fl : Nat → Int32) (wa : Nat → Int32) (bo : Nat → Int32) (so : Nat → Int32) (sd : Nat → Int32) (ro : Nat → Int32) (cp : Nat → Int32) (nr : Nat → Int32) (ti : Nat → Int32) (on : Nat → Int32) (he : Nat → Int32) (la : Nat → Int32) (post : Int32 → (Unit) → Prop) (K4 : Int32 → Int32 → Int32 → Prop) (K85 : Int32 → Int32 → Int32 → Prop) (K100 : Int32 → Int32 → Int32 → Int32 → Prop) (a1 : Int32) : Prop := K4 a1 (1 : Int32) (0 : Int32)
def v_X4_isTeam_76 (n : Nat) (se : Int32) (li : Int32) (wm : Int32) (ch : Int32) (ne : Int32) (np : Int32) (al : Int32) (wo : Int32) (kn : Nat → Int32) (sp : Nat → Int32) (py : Nat → Int32) (il : Nat → Int32) (fl : Nat → Int32) (wa : Nat → Int32) (bo : Nat → Int32) (so : Nat → Int32) (sd : Nat → Int32) (ro : Nat → Int32) (cp : Nat → Int32) (nr : Nat → Int32) (ti : Nat → Int32) (on : Nat → Int32) (he : Nat → Int32) (la : Nat → Int32) (post : Int32 → (Unit) → Prop) (K4 : Int32 → Int32 → Int32 → Prop) (K85 : Int32 → Int32 → Int32 → Prop) (K100 : Int32 → Int32 → Int32 → Int32 → Prop) (x1 : Int32) (x3 : Int32) (s0 : Int32) : Prop := K4 x1 s0 (x3 + 1)
def v_X4_isTeam_71 (n : Nat) (se : Int32) (li : Int32) (wm : Int32) (ch : Int32) (ne : Int32) (np : Int32) (al : Int32) (wo : Int32) (kn : Nat → Int32) (sp : Nat → Int32) (py : Nat → Int32) (il : Nat → Int32) (fl : Nat → Int32) (wa : Nat → Int32) (bo : Nat → Int32) (so : Nat → Int32) (sd : Nat → Int32) (ro : Nat → Int32) (cp : Nat → Int32) (nr : Nat → Int32) (ti : Nat → Int32) (on : Nat → Int32) (he : Nat → Int32) (la : Nat → Int32) (post : Int32 → (Unit) → Prop) (K4 : Int32 → Int32 → Int32 → Prop) (K85 : Int32 → Int32 → Int32 → Prop) (K100 : Int32 → Int32 → Int32 → Int32 → Prop) (x1 : Int32) (x3 : Int32) : Prop := v_X4_isTeam_76 n se li wm ch ne np al wo kn sp py il fl wa bo so sd ro cp nr ti on he la post K4 K85 K100 x1 x3 (1 : Int32)
def v_X4_isTeam_75 (n : Nat) (se : Int32) (li : Int32) (wm : Int32) (ch : Int32) (ne : Int32) (np : Int32) (al : Int32) (wo : Int32) (kn : Nat → Int32) (sp : Nat → Int32) (py : Nat → Int32) (il : Nat → Int32) (fl : Nat → Int32) (wa : Nat → Int32) (bo : Nat → Int32) (so : Nat → Int32) (sd : Nat → Int32) (ro : Nat → Int32) (cp : Nat → Int32) (nr : Nat → Int32) (ti : Nat → Int32) (on : Nat → Int32) (he : Nat → Int32) (la : Nat → Int32) (post : Int32 → (Unit) → Prop) (K4 : Int32 → Int32 → Int32 → Prop) (K85 : Int32 → Int32 → Int32 → Prop) (K100 : Int32 → Int32 → Int32 → Int32 → Prop) (x1 : Int32) (x3 : Int32) : Prop := v_X4_isTeam_76 n se li wm ch ne np al wo kn sp py il fl wa bo so sd ro cp nr ti on he la post K4 K85 K100 x1 x3 (0 : Int32)
def v_X4_isTeam_83 (n : Nat) (se : Int32) (li : Int32) (wm : Int32) (ch : Int32) (ne : Int32) (np : Int32) (al : Int32) (wo : Int32) (kn : Nat → Int32) (sp : Nat → Int32) (py : Nat → Int32) (il : Nat → Int32) (fl : Nat → Int32) (wa : Nat → Int32) (bo : Nat → Int32) (so : Nat → Int32) (sd : Nat → Int32) (ro : Nat → Int32) (cp : Nat → Int32) (nr : Nat → Int32) (ti : Nat → Int32) (on : Nat → Int32) (he : Nat → Int32) (la : Nat → Int32) (post : Int32 → (Unit) → Prop) (K4 : Int32 → Int32 → Int32 → Prop) (K85 : Int32 → Int32 → Int32 → Prop) (K100 : Int32 → Int32 → Int32 → Int32 → Prop) (x1 : Int32) (x2 : Int32) : Prop := K85 x1 x2 (0 : Int32)
def v_X4_isTeam_4 (n : Nat) (se : Int32) (li : Int32) (wm : Int32) (ch : Int32) (ne : Int32) (np : Int32) (al : Int32) (wo : Int32) (kn : Nat → Int32) (sp : Nat → Int32) (py : Nat → Int32) (il : Nat → Int32) (fl : Nat → Int32) (wa : Nat → Int32) (bo : Nat → Int32) (so : Nat → Int32) (sd : Nat → Int32) (ro : Nat → Int32) (cp : Nat → Int32) (nr : Nat → Int32) (ti : Nat → Int32) (on : Nat → Int32) (he : Nat → Int32) (la : Nat → Int32) (post : Int32 → (Unit) → Prop) (K4 : Int32 → Int32 → Int32 → Prop) (K85 : Int32 → Int32 → Int32 → Prop) (K100 : Int32 → Int32 → Int32 → Int32 → Prop) (x1 : Int32) (x2 : Int32) (x3 : Int32) : Prop := (((nI n) ≤ x3 → v_X4_isTeam_83 n se li wm ch ne np al wo kn sp py il fl wa bo so sd ro cp nr ti on he la post K4 K85 K100 x1 x2) ∧ (¬ (nI n) ≤ x3 → ((x2 = 0 → v_X4_isTeam_83 n se li wm ch ne np al wo kn sp py il fl wa bo so sd ro cp nr ti on he la post K4 K85 K100 x1 x2) ∧ (¬ x2 = 0 → (vp_in x3 6 ∧ (((ro x3.toNatClampNeg) = (5 : Int32) → v_X4_isTeam_71 n se li wm ch ne np al wo kn sp py il fl wa bo so sd ro cp nr ti on he la post K4 K85 K100 x1 x3) ∧ (¬ (ro x3.toNatClampNeg) = (5 : Int32) → (vp_in x1 2 ∧ (vp_in x3 6 ∧ (((bI (hs (wa x1.toNatClampNeg) (ro x3.toNatClampNeg))) = 0 → v_X4_isTeam_75 n se li wm ch ne np al wo kn sp py il fl wa bo so sd ro cp nr ti on he la post K4 K85 K100 x1 x3) ∧ (¬ (bI (hs (wa x1.toNatClampNeg) (ro x3.toNatClampNeg))) = 0 → (vp_in x3 6 ∧ (vp_in x3 6 ∧ (((bI (hs (sp x3.toNatClampNeg) (ro x3.toNatClampNeg))) = 0 → v_X4_isTeam_75 n se li wm ch ne np al wo kn sp py il fl wa bo so sd ro cp nr ti on he la post K4 K85 K100 x1 x3) ∧ (¬ (bI (hs (sp x3.toNatClampNeg) (ro x3.toNatClampNeg))) = 0 → (vp_in x3 6 ∧ (((il x3.toNatClampNeg) = 0 → v_X4_isTeam_71 n se li wm ch ne np al wo kn sp py il fl wa bo so sd ro cp nr ti on he la post K4 K85 K100 x1 x3) ∧ (¬ (il x3.toNatClampNeg) = 0 → v_X4_isTeam_75 n se li wm ch ne np al wo kn sp py il fl wa bo so sd ro cp nr ti on he la post K4 K85 K100 x1 x3))))))))))))))))))
def v_X4_isTeam_85 (n : Nat) (se : Int32) (li : Int32) (wm : Int32) (ch : Int32) (ne : Int32) (np : Int32) (al : Int32) (wo : Int32) (kn : Nat → Int32) (sp : Nat → Int32) (py : Nat → Int32) (il : Nat → Int32) (fl : Nat → Int32) (wa : Nat → Int32) (bo : Nat → Int32) (so : Nat → Int32) (sd : Nat → Int32) (ro : Nat → Int32) (cp : Nat → Int32) (nr : Nat → Int32) (ti : Nat → Int32) (on : Nat → Int32) (he : Nat → Int32) (la : Nat → Int32) (post : Int32 → (Unit) → Prop) (K4 : Int32 → Int32 → Int32 → Prop) (K85 : Int32 → Int32 → Int32 → Prop) (K100 : Int32 → Int32 → Int32 → Int32 → Prop) (x1 : Int32) (x2 : Int32) (x3 : Int32) : Prop := (((5 : Int32) ≤ x3 → (narrow .boolean (.int x2) = .int x2 ∧ post x2 ())) ∧ (¬ (5 : Int32) ≤ x3 → ((x2 = 0 → (narrow .boolean (.int x2) = .int x2 ∧ post x2 ())) ∧ (¬ x2 = 0 → K100 x1 x3 (0 : Int32) (0 : Int32)))))
def v_X4_isTeam_127 (n : Nat) (se : Int32) (li : Int32) (wm : Int32) (ch : Int32) (ne : Int32) (np : Int32) (al : Int32) (wo : Int32) (kn : Nat → Int32) (sp : Nat → Int32) (py : Nat → Int32) (il : Nat → Int32) (fl : Nat → Int32) (wa : Nat → Int32) (bo : Nat → Int32) (so : Nat → Int32) (sd : Nat → Int32) (ro : Nat → Int32) (cp : Nat → Int32) (nr : Nat → Int32) (ti : Nat → Int32) (on : Nat → Int32) (he : Nat → Int32) (la : Nat → Int32) (post : Int32 → (Unit) → Prop) (K4 : Int32 → Int32 → Int32 → Prop) (K85 : Int32 → Int32 → Int32 → Prop) (K100 : Int32 → Int32 → Int32 → Int32 → Prop) (x1 : Int32) (x3 : Int32) (x5 : Int32) (s0 : Int32) (s1 : Int32) : Prop := K100 x1 x3 (s1 + s0) (x5 + 1)
def v_X4_isTeam_163 (n : Nat) (se : Int32) (li : Int32) (wm : Int32) (ch : Int32) (ne : Int32) (np : Int32) (al : Int32) (wo : Int32) (kn : Nat → Int32) (sp : Nat → Int32) (py : Nat → Int32) (il : Nat → Int32) (fl : Nat → Int32) (wa : Nat → Int32) (bo : Nat → Int32) (so : Nat → Int32) (sd : Nat → Int32) (ro : Nat → Int32) (cp : Nat → Int32) (nr : Nat → Int32) (ti : Nat → Int32) (on : Nat → Int32) (he : Nat → Int32) (la : Nat → Int32) (post : Int32 → (Unit) → Prop) (K4 : Int32 → Int32 → Int32 → Prop) (K85 : Int32 → Int32 → Int32 → Prop) (K100 : Int32 → Int32 → Int32 → Int32 → Prop) (x1 : Int32) (x3 : Int32) (s0 : Int32) : Prop := K85 x1 s0 (x3 + 1)
def v_X4_isTeam_158 (n : Nat) (se : Int32) (li : Int32) (wm : Int32) (ch : Int32) (ne : Int32) (np : Int32) (al : Int32) (wo : Int32) (kn : Nat → Int32) (sp : Nat → Int32) (py : Nat → Int32) (il : Nat → Int32) (fl : Nat → Int32) (wa : Nat → Int32) (bo : Nat → Int32) (so : Nat → Int32) (sd : Nat → Int32) (ro : Nat → Int32) (cp : Nat → Int32) (nr : Nat → Int32) (ti : Nat → Int32) (on : Nat → Int32) (he : Nat → Int32) (la : Nat → Int32) (post : Int32 → (Unit) → Prop) (K4 : Int32 → Int32 → Int32 → Prop) (K85 : Int32 → Int32 → Int32 → Prop) (K100 : Int32 → Int32 → Int32 → Int32 → Prop) (x1 : Int32) (x3 : Int32) : Prop := v_X4_isTeam_163 n se li wm ch ne np al wo kn sp py il fl wa bo so sd ro cp nr ti on he la post K4 K85 K100 x1 x3 (1 : Int32)
def v_X4_isTeam_100 (n : Nat) (se : Int32) (li : Int32) (wm : Int32) (ch : Int32) (ne : Int32) (np : Int32) (al : Int32) (wo : Int32) (kn : Nat → Int32) (sp : Nat → Int32) (py : Nat → Int32) (il : Nat → Int32) (fl : Nat → Int32) (wa : Nat → Int32) (bo : Nat → Int32) (so : Nat → Int32) (sd : Nat → Int32) (ro : Nat → Int32) (cp : Nat → Int32) (nr : Nat → Int32) (ti : Nat → Int32) (on : Nat → Int32) (he : Nat → Int32) (la : Nat → Int32) (post : Int32 → (Unit) → Prop) (K4 : Int32 → Int32 → Int32 → Prop) (K85 : Int32 → Int32 → Int32 → Prop) (K100 : Int32 → Int32 → Int32 → Int32 → Prop) (x1 : Int32) (x3 : Int32) (x4 : Int32) (x5 : Int32) : Prop := (((nI n) ≤ x5 → (vp_in x1 2 ∧ (((bI (hs (wa x1.toNatClampNeg) x3)) = 0 → v_X4_isTeam_158 n se li wm ch ne np al wo kn sp py il fl wa bo so sd ro cp nr ti on he la post K4 K85 K100 x1 x3) ∧ (¬ (bI (hs (wa x1.toNatClampNeg) x3)) = 0 → ((x4 = se → v_X4_isTeam_158 n se li wm ch ne np al wo kn sp py il fl wa bo so sd ro cp nr ti on he la post K4 K85 K100 x1 x3) ∧ (¬ x4 = se → v_X4_isTeam_163 n se li wm ch ne np al wo kn sp py il fl wa bo so sd ro cp nr ti on he la post K4 K85 K100 x1 x3 (0 : Int32))))))) ∧ (¬ (nI n) ≤ x5 → (vp_in x5 6 ∧ (((ro x5.toNatClampNeg) = x3 → v_X4_isTeam_127 n se li wm ch ne np al wo kn sp py il fl wa bo so sd ro cp nr ti on he la post K4 K85 K100 x1 x3 x5 (1 : Int32) x4) ∧ (¬ (ro x5.toNatClampNeg) = x3 → v_X4_isTeam_127 n se li wm ch ne np al wo kn sp py il fl wa bo so sd ro cp nr ti on he la post K4 K85 K100 x1 x3 x5 (0 : Int32) x4)))))
def v_X4_allKnow_0 (n : Nat) (se : Int32) (li : Int32) (wm : Int32) (ch : Int32) (ne : Int32) (np : Int32) (al : Int32) (wo : Int32) (kn : Nat → Int32) (sp : Nat → Int32) (py : Nat → Int32) (il : Nat → Int32) (fl : Nat → Int32) (wa : Nat → Int32) (bo : Nat → Int32) (so : Nat → Int32) (sd : Nat → Int32) (ro : Nat → Int32) (cp : Nat → Int32) (nr : Nat → Int32) (ti : Nat → Int32) (on : Nat → Int32) (he : Nat → Int32) (la : Nat → Int32) (post : Int32 → (Unit) → Prop) (K5 : Int32 → Int32 → Int32 → Int32 → Prop) (a1 : Int32) (a2 : Int32) : Prop := K5 a1 a2 (1 : Int32) (0 : Int32)
def v_X4_allKnow_48 (n : Nat) (se : Int32) (li : Int32) (wm : Int32) (ch : Int32) (ne : Int32) (np : Int32) (al : Int32) (wo : Int32) (kn : Nat → Int32) (sp : Nat → Int32) (py : Nat → Int32) (il : Nat → Int32) (fl : Nat → Int32) (wa : Nat → Int32) (bo : Nat → Int32) (so : Nat → Int32) (sd : Nat → Int32) (ro : Nat → Int32) (cp : Nat → Int32) (nr : Nat → Int32) (ti : Nat → Int32) (on : Nat → Int32) (he : Nat → Int32) (la : Nat → Int32) (post : Int32 → (Unit) → Prop) (K5 : Int32 → Int32 → Int32 → Int32 → Prop) (x1 : Int32) (x2 : Int32) (x4 : Int32) (s0 : Int32) : Prop := K5 x1 x2 s0 (x4 + 1)
def v_X4_allKnow_43 (n : Nat) (se : Int32) (li : Int32) (wm : Int32) (ch : Int32) (ne : Int32) (np : Int32) (al : Int32) (wo : Int32) (kn : Nat → Int32) (sp : Nat → Int32) (py : Nat → Int32) (il : Nat → Int32) (fl : Nat → Int32) (wa : Nat → Int32) (bo : Nat → Int32) (so : Nat → Int32) (sd : Nat → Int32) (ro : Nat → Int32) (cp : Nat → Int32) (nr : Nat → Int32) (ti : Nat → Int32) (on : Nat → Int32) (he : Nat → Int32) (la : Nat → Int32) (post : Int32 → (Unit) → Prop) (K5 : Int32 → Int32 → Int32 → Int32 → Prop) (x1 : Int32) (x2 : Int32) (x4 : Int32) : Prop := v_X4_allKnow_48 n se li wm ch ne np al wo kn sp py il fl wa bo so sd ro cp nr ti on he la post K5 x1 x2 x4 (1 : Int32)
def v_X4_allKnow_47 (n : Nat) (se : Int32) (li : Int32) (wm : Int32) (ch : Int32) (ne : Int32) (np : Int32) (al : Int32) (wo : Int32) (kn : Nat → Int32) (sp : Nat → Int32) (py : Nat → Int32) (il : Nat → Int32) (fl : Nat → Int32) (wa : Nat → Int32) (bo : Nat → Int32) (so : Nat → Int32) (sd : Nat → Int32) (ro : Nat → Int32) (cp : Nat → Int32) (nr : Nat → Int32) (ti : Nat → Int32) (on : Nat → Int32) (he : Nat → Int32) (la : Nat → Int32) (post : Int32 → (Unit) → Prop) (K5 : Int32 → Int32 → Int32 → Int32 → Prop) (x1 : Int32) (x2 : Int32) (x4 : Int32) : Prop := v_X4_allKnow_48 n se li wm ch ne np al wo kn sp py il fl wa bo so sd ro cp nr ti on he la post K5 x1 x2 x4 (0 : Int32)
def v_X4_allKnow_5 (n : Nat) (se : Int32) (li : Int32) (wm : Int32) (ch : Int32) (ne : Int32) (np : Int32) (al : Int32) (wo : Int32) (kn : Nat → Int32) (sp : Nat → Int32) (py : Nat → Int32) (il : Nat → Int32) (fl : Nat → Int32) (wa : Nat → Int32) (bo : Nat → Int32) (so : Nat → Int32) (sd : Nat → Int32) (ro : Nat → Int32) (cp : Nat → Int32) (nr : Nat → Int32) (ti : Nat → Int32) (on : Nat → Int32) (he : Nat → Int32) (la : Nat → Int32) (post : Int32 → (Unit) → Prop) (K5 : Int32 → Int32 → Int32 → Int32 → Prop) (x1 : Int32) (x2 : Int32) (x3 : Int32) (x4 : Int32) : Prop := (((nI n) ≤ x4 → (narrow .boolean (.int x3) = .int x3 ∧ post x3 ())) ∧ (¬ (nI n) ≤ x4 → ((x3 = 0 → v_X4_allKnow_47 n se li wm ch ne np al wo kn sp py il fl wa bo so sd ro cp nr ti on he la post K5 x1 x2 x4) ∧ (¬ x3 = 0 → (vp_in x4 6 ∧ (((ro x4.toNatClampNeg) = x1 → (vp_in x4 6 ∧ (((bI (hs (kn x4.toNatClampNeg) x2)) = 0 → v_X4_allKnow_47 n se li wm ch ne np al wo kn sp py il fl wa bo so sd ro cp nr ti on he la post K5 x1 x2 x4) ∧ (¬ (bI (hs (kn x4.toNatClampNeg) x2)) = 0 → v_X4_allKnow_43 n se li wm ch ne np al wo kn sp py il fl wa bo so sd ro cp nr ti on he la post K5 x1 x2 x4)))) ∧ (¬ (ro x4.toNatClampNeg) = x1 → v_X4_allKnow_43 n se li wm ch ne np al wo kn sp py il fl wa bo so sd ro cp nr ti on he la post K5 x1 x2 x4)))))))
def v_X4_isWhole_0 (n : Nat) (se : Int32) (li : Int32) (wm : Int32) (ch : Int32) (ne : Int32) (np : Int32) (al : Int32) (wo : Int32) (kn : Nat → Int32) (sp : Nat → Int32) (py : Nat → Int32) (il : Nat → Int32) (fl : Nat → Int32) (wa : Nat → Int32) (bo : Nat → Int32) (so : Nat → Int32) (sd : Nat → Int32) (ro : Nat → Int32) (cp : Nat → Int32) (nr : Nat → Int32) (ti : Nat → Int32) (on : Nat → Int32) (he : Nat → Int32) (la : Nat → Int32) (post : Int32 → (Unit) → Prop) (K4 : Int32 → Int32 → Int32 → Prop) (K12 : Int32 → Int32 → Int32 → Int32 → Prop) (K63 : Int32 → Int32 → Int32 → Int32 → Int32 → Int32 → Prop) (a1 : Int32) : Prop := K4 a1 (1 : Int32) (0 : Int32)
def v_X4_isWhole_4 (n : Nat) (se : Int32) (li : Int32) (wm : Int32) (ch : Int32) (ne : Int32) (np : Int32) (al : Int32) (wo : Int32) (kn : Nat → Int32) (sp : Nat → Int32) (py : Nat → Int32) (il : Nat → Int32) (fl : Nat → Int32) (wa : Nat → Int32) (bo : Nat → Int32) (so : Nat → Int32) (sd : Nat → Int32) (ro : Nat → Int32) (cp : Nat → Int32) (nr : Nat → Int32) (ti : Nat → Int32) (on : Nat → Int32) (he : Nat → Int32) (la : Nat → Int32) (post : Int32 → (Unit) → Prop) (K4 : Int32 → Int32 → Int32 → Prop) (K12 : Int32 → Int32 → Int32 → Int32 → Prop) (K63 : Int32 → Int32 → Int32 → Int32 → Int32 → Int32 → Prop) (x1 : Int32) (x2 : Int32) (x3 : Int32) : Prop := (((5 : Int32) ≤ x3 → (narrow .boolean (.int x2) = .int x2 ∧ post x2 ())) ∧ (¬ (5 : Int32) ≤ x3 → K12 x1 x2 x3 (0 : Int32)))
def v_X4_isWhole_150 (n : Nat) (se : Int32) (li : Int32) (wm : Int32) (ch : Int32) (ne : Int32) (np : Int32) (al : Int32) (wo : Int32) (kn : Nat → Int32) (sp : Nat → Int32) (py : Nat → Int32) (il : Nat → Int32) (fl : Nat → Int32) (wa : Nat → Int32) (bo : Nat → Int32) (so : Nat → Int32) (sd : Nat → Int32) (ro : Nat → Int32) (cp : Nat → Int32) (nr : Nat → Int32) (ti : Nat → Int32) (on : Nat → Int32) (he : Nat → Int32) (la : Nat → Int32) (post : Int32 → (Unit) → Prop) (K4 : Int32 → Int32 → Int32 → Prop) (K12 : Int32 → Int32 → Int32 → Int32 → Prop) (K63 : Int32 → Int32 → Int32 → Int32 → Int32 → Int32 → Prop) (x1 : Int32) (x2 : Int32) (x3 : Int32) (x4 : Int32) : Prop := K12 x1 x2 x3 (x4 + 1)
def v_X4_isWhole_12 (n : Nat) (se : Int32) (li : Int32) (wm : Int32) (ch : Int32) (ne : Int32) (np : Int32) (al : Int32) (wo : Int32) (kn : Nat → Int32) (sp : Nat → Int32) (py : Nat → Int32) (il : Nat → Int32) (fl : Nat → Int32) (wa : Nat → Int32) (bo : Nat → Int32) (so : Nat → Int32) (sd : Nat → Int32) (ro : Nat → Int32) (cp : Nat → Int32) (nr : Nat → Int32) (ti : Nat → Int32) (on : Nat → Int32) (he : Nat → Int32) (la : Nat → Int32) (post : Int32 → (Unit) → Prop) (K4 : Int32 → Int32 → Int32 → Prop) (K12 : Int32 → Int32 → Int32 → Int32 → Prop) (K63 : Int32 → Int32 → Int32 → Int32 → Int32 → Int32 → Prop) (x1 : Int32) (x2 : Int32) (x3 : Int32) (x4 : Int32) : Prop := (((5 : Int32) ≤ x4 → K4 x1 x2 (x3 + 1)) ∧ (¬ (5 : Int32) ≤ x4 → (vp_in x1 2 ∧ (((bI (hs (fl x1.toNatClampNeg) x3)) = 0 → v_X4_isWhole_150 n se li wm ch ne np al wo kn sp py il fl wa bo so sd ro cp nr ti on he la post K4 K12 K63 x1 x2 x3 x4) ∧ (¬ (bI (hs (fl x1.toNatClampNeg) x3)) = 0 → (vp_in x1 2 ∧ (((bI (hs (wa x1.toNatClampNeg) x4)) = 0 → v_X4_isWhole_150 n se li wm ch ne np al wo kn sp py il fl wa bo so sd ro cp nr ti on he la post K4 K12 K63 x1 x2 x3 x4) ∧ (¬ (bI (hs (wa x1.toNatClampNeg) x4)) = 0 → ((x4 = x3 → v_X4_isWhole_150 n se li wm ch ne np al wo kn sp py il fl wa bo so sd ro cp nr ti on he la post K4 K12 K63 x1 x2 x3 x4) ∧ (¬ x4 = x3 → K63 x1 x2 x3 x4 (bI (akF kn ro x4 x3 n)) (0 : Int32)))))))))))
def v_X4_isWhole_127 (n : Nat) (se : Int32) (li : Int32) (wm : Int32) (ch : Int32) (ne : Int32) (np : Int32) (al : Int32) (wo : Int32) (kn : Nat → Int32) (sp : Nat → Int32) (py : Nat → Int32) (il : Nat → Int32) (fl : Nat → Int32) (wa : Nat → Int32) (bo : Nat → Int32) (so : Nat → Int32) (sd : Nat → Int32) (ro : Nat → Int32) (cp : Nat → Int32) (nr : Nat → Int32) (ti : Nat → Int32) (on : Nat → Int32) (he : Nat → Int32) (la : Nat → Int32) (post : Int32 → (Unit) → Prop) (K4 : Int32 → Int32 → Int32 → Prop) (K12 : Int32 → Int32 → Int32 → Int32 → Prop) (K63 : Int32 → Int32 → Int32 → Int32 → Int32 → Int32 → Prop) (x1 : Int32) (x2 : Int32) (x3 : Int32) (x4 : Int32) (x6 : Int32) (s0 : Int32) : Prop := K63 x1 x2 x3 x4 s0 (x6 + 1)
def v_X4_isWhole_122 (n : Nat) (se : Int32) (li : Int32) (wm : Int32) (ch : Int32) (ne : Int32) (np : Int32) (al : Int32) (wo : Int32) (kn : Nat → Int32) (sp : Nat → Int32) (py : Nat → Int32) (il : Nat → Int32) (fl : Nat → Int32) (wa : Nat → Int32) (bo : Nat → Int32) (so : Nat → Int32) (sd : Nat → Int32) (ro : Nat → Int32) (cp : Nat → Int32) (nr : Nat → Int32) (ti : Nat → Int32) (on : Nat → Int32) (he : Nat → Int32) (la : Nat → Int32) (post : Int32 → (Unit) → Prop) (K4 : Int32 → Int32 → Int32 → Prop) (K12 : Int32 → Int32 → Int32 → Int32 → Prop) (K63 : Int32 → Int32 → Int32 → Int32 → Int32 → Int32 → Prop) (x1 : Int32) (x2 : Int32) (x3 : Int32) (x4 : Int32) (x6 : Int32) : Prop := v_X4_isWhole_127 n se li wm ch ne np al wo kn sp py il fl wa bo so sd ro cp nr ti on he la post K4 K12 K63 x1 x2 x3 x4 x6 (1 : Int32)
def v_X4_isWhole_126 (n : Nat) (se : Int32) (li : Int32) (wm : Int32) (ch : Int32) (ne : Int32) (np : Int32) (al : Int32) (wo : Int32) (kn : Nat → Int32) (sp : Nat → Int32) (py : Nat → Int32) (il : Nat → Int32) (fl : Nat → Int32) (wa : Nat → Int32) (bo : Nat → Int32) (so : Nat → Int32) (sd : Nat → Int32) (ro : Nat → Int32) (cp : Nat → Int32) (nr : Nat → Int32) (ti : Nat → Int32) (on : Nat → Int32) (he : Nat → Int32) (la : Nat → Int32) (post : Int32 → (Unit) → Prop) (K4 : Int32 → Int32 → Int32 → Prop) (K12 : Int32 → Int32 → Int32 → Int32 → Prop) (K63 : Int32 → Int32 → Int32 → Int32 → Int32 → Int32 → Prop) (x1 : Int32) (x2 : Int32) (x3 : Int32) (x4 : Int32) (x6 : Int32) : Prop := v_X4_isWhole_127 n se li wm ch ne np al wo kn sp py il fl wa bo so sd ro cp nr ti on he la post K4 K12 K63 x1 x2 x3 x4 x6 (0 : Int32)
def v_X4_isWhole_149 (n : Nat) (se : Int32) (li : Int32) (wm : Int32) (ch : Int32) (ne : Int32) (np : Int32) (al : Int32) (wo : Int32) (kn : Nat → Int32) (sp : Nat → Int32) (py : Nat → Int32) (il : Nat → Int32) (fl : Nat → Int32) (wa : Nat → Int32) (bo : Nat → Int32) (so : Nat → Int32) (sd : Nat → Int32) (ro : Nat → Int32) (cp : Nat → Int32) (nr : Nat → Int32) (ti : Nat → Int32) (on : Nat → Int32) (he : Nat → Int32) (la : Nat → Int32) (post : Int32 → (Unit) → Prop) (K4 : Int32 → Int32 → Int32 → Prop) (K12 : Int32 → Int32 → Int32 → Int32 → Prop) (K63 : Int32 → Int32 → Int32 → Int32 → Int32 → Int32 → Prop) (x1 : Int32) (x3 : Int32) (x4 : Int32) (s0 : Int32) : Prop := v_X4_isWhole_150 n se li wm ch ne np al wo kn sp py il fl wa bo so sd ro cp nr ti on he la post K4 K12 K63 x1 s0 x3 x4
def v_X4_isWhole_148 (n : Nat) (se : Int32) (li : Int32) (wm : Int32) (ch : Int32) (ne : Int32) (np : Int32) (al : Int32) (wo : Int32) (kn : Nat → Int32) (sp : Nat → Int32) (py : Nat → Int32) (il : Nat → Int32) (fl : Nat → Int32) (wa : Nat → Int32) (bo : Nat → Int32) (so : Nat → Int32) (sd : Nat → Int32) (ro : Nat → Int32) (cp : Nat → Int32) (nr : Nat → Int32) (ti : Nat → Int32) (on : Nat → Int32) (he : Nat → Int32) (la : Nat → Int32) (post : Int32 → (Unit) → Prop) (K4 : Int32 → Int32 → Int32 → Prop) (K12 : Int32 → Int32 → Int32 → Int32 → Prop) (K63 : Int32 → Int32 → Int32 → Int32 → Int32 → Int32 → Prop) (x1 : Int32) (x3 : Int32) (x4 : Int32) : Prop := v_X4_isWhole_149 n se li wm ch ne np al wo kn sp py il fl wa bo so sd ro cp nr ti on he la post K4 K12 K63 x1 x3 x4 (0 : Int32)
def v_X4_isWhole_63 (n : Nat) (se : Int32) (li : Int32) (wm : Int32) (ch : Int32) (ne : Int32) (np : Int32) (al : Int32) (wo : Int32) (kn : Nat → Int32) (sp : Nat → Int32) (py : Nat → Int32) (il : Nat → Int32) (fl : Nat → Int32) (wa : Nat → Int32) (bo : Nat → Int32) (so : Nat → Int32) (sd : Nat → Int32) (ro : Nat → Int32) (cp : Nat → Int32) (nr : Nat → Int32) (ti : Nat → Int32) (on : Nat → Int32) (he : Nat → Int32) (la : Nat → Int32) (post : Int32 → (Unit) → Prop) (K4 : Int32 → Int32 → Int32 → Prop) (K12 : Int32 → Int32 → Int32 → Int32 → Prop) (K63 : Int32 → Int32 → Int32 → Int32 → Int32 → Int32 → Prop) (x1 : Int32) (x2 : Int32) (x3 : Int32) (x4 : Int32) (x5 : Int32) (x6 : Int32) : Prop := (((5 : Int32) ≤ x6 → ((x2 = 0 → v_X4_isWhole_148 n se li wm ch ne np al wo kn sp py il fl wa bo so sd ro cp nr ti on he la post K4 K12 K63 x1 x3 x4) ∧ (¬ x2 = 0 → ((x5 = 0 → v_X4_isWhole_148 n se li wm ch ne np al wo kn sp py il fl wa bo so sd ro cp nr ti on he la post K4 K12 K63 x1 x3 x4) ∧ (¬ x5 = 0 → v_X4_isWhole_149 n se li wm ch ne np al wo kn sp py il fl wa bo so sd ro cp nr ti on he la post K4 K12 K63 x1 x3 x4 (1 : Int32)))))) ∧ (¬ (5 : Int32) ≤ x6 → ((x5 = 0 → (vp_in x1 2 ∧ (((bI (hs (wa x1.toNatClampNeg) x6)) = 0 → v_X4_isWhole_126 n se li wm ch ne np al wo kn sp py il fl wa bo so sd ro cp nr ti on he la post K4 K12 K63 x1 x2 x3 x4 x6) ∧ (¬ (bI (hs (wa x1.toNatClampNeg) x6)) = 0 → ((x6 = x3 → v_X4_isWhole_126 n se li wm ch ne np al wo kn sp py il fl wa bo so sd ro cp nr ti on he la post K4 K12 K63 x1 x2 x3 x4 x6) ∧ (¬ x6 = x3 → ((x6 = x4 → v_X4_isWhole_126 n se li wm ch ne np al wo kn sp py il fl wa bo so sd ro cp nr ti on he la post K4 K12 K63 x1 x2 x3 x4 x6) ∧ (¬ x6 = x4 → (((bI (akF kn ro x4 x6 n)) = 0 → v_X4_isWhole_126 n se li wm ch ne np al wo kn sp py il fl wa bo so sd ro cp nr ti on he la post K4 K12 K63 x1 x2 x3 x4 x6) ∧ (¬ (bI (akF kn ro x4 x6 n)) = 0 → (((bI (akF kn ro x6 x3 n)) = 0 → v_X4_isWhole_126 n se li wm ch ne np al wo kn sp py il fl wa bo so sd ro cp nr ti on he la post K4 K12 K63 x1 x2 x3 x4 x6) ∧ (¬ (bI (akF kn ro x6 x3 n)) = 0 → v_X4_isWhole_122 n se li wm ch ne np al wo kn sp py il fl wa bo so sd ro cp nr ti on he la post K4 K12 K63 x1 x2 x3 x4 x6)))))))))))) ∧ (¬ x5 = 0 → v_X4_isWhole_122 n se li wm ch ne np al wo kn sp py il fl wa bo so sd ro cp nr ti on he la post K4 K12 K63 x1 x2 x3 x4 x6))))
def v_X4_findTeams_0 (n : Nat) (se : Int32) (li : Int32) (wo : Int32) (kn : Nat → Int32) (sp : Nat → Int32) (py : Nat → Int32) (il : Nat → Int32) (fl : Nat → Int32) (wa : Nat → Int32) (bo : Nat → Int32) (so : Nat → Int32) (sd : Nat → Int32) (ti : Nat → Int32) (on : Nat → Int32) (he : Nat → Int32) (la : Nat → Int32) (post : (Int32 × Int32 × Int32 × Int32 × Int32 × (Nat → Int32) × (Nat → Int32) × (Nat → Int32)) → Prop) (K25 : Int32 → Int32 → Int32 → Int32 → Int32 → Int32 → Int32 → Int32 → (Nat → Int32) → (Nat → Int32) → (Nat → Int32) → Prop) (K46 : Int32 → Int32 → Int32 → Int32 → Int32 → Int32 → Int32 → Int32 → (Nat → Int32) → (Nat → Int32) → (Nat → Int32) → Prop) (K62 : Int32 → Int32 → Int32 → Int32 → Int32 → Int32 → Int32 → Int32 → Int32 → Int32 → (Nat → Int32) → (Nat → Int32) → (Nat → Int32) → Prop) (K117 : Int32 → Int32 → Int32 → Int32 → Int32 → Int32 → Int32 → Int32 → Int32 → Int32 → Int32 → (Nat → Int32) → (Nat → Int32) → (Nat → Int32) → Prop) (K298 : Int32 → Int32 → Int32 → Int32 → Int32 → Int32 → Int32 → Int32 → Int32 → Int32 → Int32 → Int32 → Int32 → (Nat → Int32) → (Nat → Int32) → (Nat → Int32) → Prop) (a1 : Int32) (wm : Int32) (ch : Int32) (ne : Int32) (np : Int32) (al : Int32) (ro : Nat → Int32) (cp : Nat → Int32) (nr : Nat → Int32) : Prop := K25 a1 (1 : Int32) (0 : Int32) (0 : Int32) (-1 : Int32) (-1 : Int32) np (63 : Int32) ro cp nr
def v_X4_findTeams_25 (n : Nat) (se : Int32) (li : Int32) (wo : Int32) (kn : Nat → Int32) (sp : Nat → Int32) (py : Nat → Int32) (il : Nat → Int32) (fl : Nat → Int32) (wa : Nat → Int32) (bo : Nat → Int32) (so : Nat → Int32) (sd : Nat → Int32) (ti : Nat → Int32) (on : Nat → Int32) (he : Nat → Int32) (la : Nat → Int32) (post : (Int32 × Int32 × Int32 × Int32 × Int32 × (Nat → Int32) × (Nat → Int32) × (Nat → Int32)) → Prop) (K25 : Int32 → Int32 → Int32 → Int32 → Int32 → Int32 → Int32 → Int32 → (Nat → Int32) → (Nat → Int32) → (Nat → Int32) → Prop) (K46 : Int32 → Int32 → Int32 → Int32 → Int32 → Int32 → Int32 → Int32 → (Nat → Int32) → (Nat → Int32) → (Nat → Int32) → Prop) (K62 : Int32 → Int32 → Int32 → Int32 → Int32 → Int32 → Int32 → Int32 → Int32 → Int32 → (Nat → Int32) → (Nat → Int32) → (Nat → Int32) → Prop) (K117 : Int32 → Int32 → Int32 → Int32 → Int32 → Int32 → Int32 → Int32 → Int32 → Int32 → Int32 → (Nat → Int32) → (Nat → Int32) → (Nat → Int32) → Prop) (K298 : Int32 → Int32 → Int32 → Int32 → Int32 → Int32 → Int32 → Int32 → Int32 → Int32 → Int32 → Int32 → Int32 → (Nat → Int32) → (Nat → Int32) → (Nat → Int32) → Prop) (x1 : Int32) (x2 : Int32) (x3 : Int32) (wm_ : Int32) (ch_ : Int32) (ne_ : Int32) (np_ : Int32) (al_ : Int32) (ro_ : Nat → Int32) (cp_ : Nat → Int32) (nr_ : Nat → Int32) : Prop := (((nI n) ≤ x3 → K46 x1 x2 (0 : Int32) wm_ ch_ ne_ np_ al_ ro_ cp_ nr_) ∧ (¬ (nI n) ≤ x3 → K25 x1 (x2 * (6 : Int32)) (x3 + 1) wm_ ch_ ne_ np_ al_ ro_ cp_ nr_))
def v_X4_findTeams_46 (n : Nat) (se : Int32) (li : Int32) (wo : Int32) (kn : Nat → Int32) (sp : Nat → Int32) (py : Nat → Int32) (il : Nat → Int32) (fl : Nat → Int32) (wa : Nat → Int32) (bo : Nat → Int32) (so : Nat → Int32) (sd : Nat → Int32) (ti : Nat → Int32) (on : Nat → Int32) (he : Nat → Int32) (la : Nat → Int32) (post : (Int32 × Int32 × Int32 × Int32 × Int32 × (Nat → Int32) × (Nat → Int32) × (Nat → Int32)) → Prop) (K25 : Int32 → Int32 → Int32 → Int32 → Int32 → Int32 → Int32 → Int32 → (Nat → Int32) → (Nat → Int32) → (Nat → Int32) → Prop) (K46 : Int32 → Int32 → Int32 → Int32 → Int32 → Int32 → Int32 → Int32 → (Nat → Int32) → (Nat → Int32) → (Nat → Int32) → Prop) (K62 : Int32 → Int32 → Int32 → Int32 → Int32 → Int32 → Int32 → Int32 → Int32 → Int32 → (Nat → Int32) → (Nat → Int32) → (Nat → Int32) → Prop) (K117 : Int32 → Int32 → Int32 → Int32 → Int32 → Int32 → Int32 → Int32 → Int32 → Int32 → Int32 → (Nat → Int32) → (Nat → Int32) → (Nat → Int32) → Prop) (K298 : Int32 → Int32 → Int32 → Int32 → Int32 → Int32 → Int32 → Int32 → Int32 → Int32 → Int32 → Int32 → Int32 → (Nat → Int32) → (Nat → Int32) → (Nat → Int32) → Prop) (x1 : Int32) (x2 : Int32) (x3 : Int32) (wm_ : Int32) (ch_ : Int32) (ne_ : Int32) (np_ : Int32) (al_ : Int32) (ro_ : Nat → Int32) (cp_ : Nat → Int32) (nr_ : Nat → Int32) : Prop := ((x2 ≤ x3 → post (wm_, ch_, ne_, np_, al_, ro_, cp_, nr_)) ∧ (¬ x2 ≤ x3 → K62 x1 x2 x3 x3 ((nI n) - (1 : Int32)) wm_ ch_ ne_ np_ al_ ro_ cp_ nr_))
def v_X4_findTeams_425 (n : Nat) (se : Int32) (li : Int32) (wo : Int32) (kn : Nat → Int32) (sp : Nat → Int32) (py : Nat → Int32) (il : Nat → Int32) (fl : Nat → Int32) (wa : Nat → Int32) (bo : Nat → Int32) (so : Nat → Int32) (sd : Nat → Int32) (ti : Nat → Int32) (on : Nat → Int32) (he : Nat → Int32) (la : Nat → Int32) (post : (Int32 × Int32 × Int32 × Int32 × Int32 × (Nat → Int32) × (Nat → Int32) × (Nat → Int32)) → Prop) (K25 : Int32 → Int32 → Int32 → Int32 → Int32 → Int32 → Int32 → Int32 → (Nat → Int32) → (Nat → Int32) → (Nat → Int32) → Prop) (K46 : Int32 → Int32 → Int32 → Int32 → Int32 → Int32 → Int32 → Int32 → (Nat → Int32) → (Nat → Int32) → (Nat → Int32) → Prop) (K62 : Int32 → Int32 → Int32 → Int32 → Int32 → Int32 → Int32 → Int32 → Int32 → Int32 → (Nat → Int32) → (Nat → Int32) → (Nat → Int32) → Prop) (K117 : Int32 → Int32 → Int32 → Int32 → Int32 → Int32 → Int32 → Int32 → Int32 → Int32 → Int32 → (Nat → Int32) → (Nat → Int32) → (Nat → Int32) → Prop) (K298 : Int32 → Int32 → Int32 → Int32 → Int32 → Int32 → Int32 → Int32 → Int32 → Int32 → Int32 → Int32 → Int32 → (Nat → Int32) → (Nat → Int32) → (Nat → Int32) → Prop) (x1 : Int32) (x2 : Int32) (x3 : Int32) (wm_ : Int32) (ch_ : Int32) (ne_ : Int32) (np_ : Int32) (al_ : Int32) (ro_ : Nat → Int32) (cp_ : Nat → Int32) (nr_ : Nat → Int32) : Prop := K46 x1 x2 (x3 + 1) wm_ ch_ ne_ np_ al_ ro_ cp_ nr_
def v_X4_findTeams_62 (n : Nat) (se : Int32) (li : Int32) (wo : Int32) (kn : Nat → Int32) (sp : Nat → Int32) (py : Nat → Int32) (il : Nat → Int32) (fl : Nat → Int32) (wa : Nat → Int32) (bo : Nat → Int32) (so : Nat → Int32) (sd : Nat → Int32) (ti : Nat → Int32) (on : Nat → Int32) (he : Nat → Int32) (la : Nat → Int32) (post : (Int32 × Int32 × Int32 × Int32 × Int32 × (Nat → Int32) × (Nat → Int32) × (Nat → Int32)) → Prop) (K25 : Int32 → Int32 → Int32 → Int32 → Int32 → Int32 → Int32 → Int32 → (Nat → Int32) → (Nat → Int32) → (Nat → Int32) → Prop) (K46 : Int32 → Int32 → Int32 → Int32 → Int32 → Int32 → Int32 → Int32 → (Nat → Int32) → (Nat → Int32) → (Nat → Int32) → Prop) (K62 : Int32 → Int32 → Int32 → Int32 → Int32 → Int32 → Int32 → Int32 → Int32 → Int32 → (Nat → Int32) → (Nat → Int32) → (Nat → Int32) → Prop) (K117 : Int32 → Int32 → Int32 → Int32 → Int32 → Int32 → Int32 → Int32 → Int32 → Int32 → Int32 → (Nat → Int32) → (Nat → Int32) → (Nat → Int32) → Prop) (K298 : Int32 → Int32 → Int32 → Int32 → Int32 → Int32 → Int32 → Int32 → Int32 → Int32 → Int32 → Int32 → Int32 → (Nat → Int32) → (Nat → Int32) → (Nat → Int32) → Prop) (x1 : Int32) (x2 : Int32) (x3 : Int32) (x4 : Int32) (x5 : Int32) (wm_ : Int32) (ch_ : Int32) (ne_ : Int32) (np_ : Int32) (al_ : Int32) (ro_ : Nat → Int32) (cp_ : Nat → Int32) (nr_ : Nat → Int32) : Prop := ((x5 < 0 → ((inB x1 2 = true) ∧ (((bI (itF n sp il (wa x1.toNatClampNeg) se ro_)) = 0 → v_X4_findTeams_425 n se li wo kn sp py il fl wa bo so sd ti on he la post K25 K46 K62 K117 K298 x1 x2 x3 wm_ ch_ ne_ np_ al_ ro_ cp_ nr_) ∧ (¬ (bI (itF n sp il (wa x1.toNatClampNeg) se ro_)) = 0 → ((inB x1 2 = true) ∧ (((bI (iwF n kn (fl x1.toNatClampNeg) (wa x1.toNatClampNeg) ro_)) = 0 → v_X4_findTeams_425 n se li wo kn sp py il fl wa bo so sd ti on he la post K25 K46 K62 K117 K298 x1 x2 x3 wm_ ch_ ne_ np_ al_ ro_ cp_ nr_) ∧ (¬ (bI (iwF n kn (fl x1.toNatClampNeg) (wa x1.toNatClampNeg) ro_)) = 0 → K117 x1 x2 x3 (0 : Int32) (0 : Int32) (0 : Int32) wm_ ch_ ne_ np_ al_ ro_ cp_ nr_))))))) ∧ (¬ x5 < 0 → (vp_in x5 6 ∧ K62 x1 x2 x3 (x4 / (6 : Int32)) (x5 + (-1)) wm_ ch_ ne_ np_ al_ (upd ro_ x5.toNatClampNeg (x4 - x4 / (6 : Int32) * (6 : Int32))) cp_ nr_)))
def v_X4_findTeams_210 (n : Nat) (se : Int32) (li : Int32) (wo : Int32) (kn : Nat → Int32) (sp : Nat → Int32) (py : Nat → Int32) (il : Nat → Int32) (fl : Nat → Int32) (wa : Nat → Int32) (bo : Nat → Int32) (so : Nat → Int32) (sd : Nat → Int32) (ti : Nat → Int32) (on : Nat → Int32) (he : Nat → Int32) (la : Nat → Int32) (post : (Int32 × Int32 × Int32 × Int32 × Int32 × (Nat → Int32) × (Nat → Int32) × (Nat → Int32)) → Prop) (K25 : Int32 → Int32 → Int32 → Int32 → Int32 → Int32 → Int32 → Int32 → (Nat → Int32) → (Nat → Int32) → (Nat → Int32) → Prop) (K46 : Int32 → Int32 → Int32 → Int32 → Int32 → Int32 → Int32 → Int32 → (Nat → Int32) → (Nat → Int32) → (Nat → Int32) → Prop) (K62 : Int32 → Int32 → Int32 → Int32 → Int32 → Int32 → Int32 → Int32 → Int32 → Int32 → (Nat → Int32) → (Nat → Int32) → (Nat → Int32) → Prop) (K117 : Int32 → Int32 → Int32 → Int32 → Int32 → Int32 → Int32 → Int32 → Int32 → Int32 → Int32 → (Nat → Int32) → (Nat → Int32) → (Nat → Int32) → Prop) (K298 : Int32 → Int32 → Int32 → Int32 → Int32 → Int32 → Int32 → Int32 → Int32 → Int32 → Int32 → Int32 → Int32 → (Nat → Int32) → (Nat → Int32) → (Nat → Int32) → Prop) (x1 : Int32) (x2 : Int32) (x3 : Int32) (x5 : Int32) (x6 : Int32) (x7 : Int32) (s0 : Int32) (wm_ : Int32) (ch_ : Int32) (ne_ : Int32) (np_ : Int32) (al_ : Int32) (ro_ : Nat → Int32) (cp_ : Nat → Int32) (nr_ : Nat → Int32) : Prop := K117 x1 x2 x3 x5 x6 (x7 + 1) wm_ ch_ ne_ np_ s0 ro_ cp_ nr_
def v_X4_findTeams_177 (n : Nat) (se : Int32) (li : Int32) (wo : Int32) (kn : Nat → Int32) (sp : Nat → Int32) (py : Nat → Int32) (il : Nat → Int32) (fl : Nat → Int32) (wa : Nat → Int32) (bo : Nat → Int32) (so : Nat → Int32) (sd : Nat → Int32) (ti : Nat → Int32) (on : Nat → Int32) (he : Nat → Int32) (la : Nat → Int32) (post : (Int32 × Int32 × Int32 × Int32 × Int32 × (Nat → Int32) × (Nat → Int32) × (Nat → Int32)) → Prop) (K25 : Int32 → Int32 → Int32 → Int32 → Int32 → Int32 → Int32 → Int32 → (Nat → Int32) → (Nat → Int32) → (Nat → Int32) → Prop) (K46 : Int32 → Int32 → Int32 → Int32 → Int32 → Int32 → Int32 → Int32 → (Nat → Int32) → (Nat → Int32) → (Nat → Int32) → Prop) (K62 : Int32 → Int32 → Int32 → Int32 → Int32 → Int32 → Int32 → Int32 → Int32 → Int32 → (Nat → Int32) → (Nat → Int32) → (Nat → Int32) → Prop) (K117 : Int32 → Int32 → Int32 → Int32 → Int32 → Int32 → Int32 → Int32 → Int32 → Int32 → Int32 → (Nat → Int32) → (Nat → Int32) → (Nat → Int32) → Prop) (K298 : Int32 → Int32 → Int32 → Int32 → Int32 → Int32 → Int32 → Int32 → Int32 → Int32 → Int32 → Int32 → Int32 → (Nat → Int32) → (Nat → Int32) → (Nat → Int32) → Prop) (x1 : Int32) (x2 : Int32) (x3 : Int32) (x5 : Int32) (x7 : Int32) (s0 : Int32) (s1 : Int32) (wm_ : Int32) (ch_ : Int32) (ne_ : Int32) (np_ : Int32) (al_ : Int32) (ro_ : Nat → Int32) (cp_ : Nat → Int32) (nr_ : Nat → Int32) : Prop := (vp_in x7 6 ∧ (((5 : Int32) ≤ (ro_ x7.toNatClampNeg) → v_X4_findTeams_210 n se li wo kn sp py il fl wa bo so sd ti on he la post K25 K46 K62 K117 K298 x1 x2 x3 x5 (s1 + s0) x7 (al_ &&& (((1 : Int32) <<< (x7 &&& 31)) ^^^ (-1 : Int32))) wm_ ch_ ne_ np_ al_ ro_ cp_ nr_) ∧ (¬ (5 : Int32) ≤ (ro_ x7.toNatClampNeg) → v_X4_findTeams_210 n se li wo kn sp py il fl wa bo so sd ti on he la post K25 K46 K62 K117 K298 x1 x2 x3 x5 (s1 + s0) x7 al_ wm_ ch_ ne_ np_ al_ ro_ cp_ nr_)))
def v_X4_findTeams_150 (n : Nat) (se : Int32) (li : Int32) (wo : Int32) (kn : Nat → Int32) (sp : Nat → Int32) (py : Nat → Int32) (il : Nat → Int32) (fl : Nat → Int32) (wa : Nat → Int32) (bo : Nat → Int32) (so : Nat → Int32) (sd : Nat → Int32) (ti : Nat → Int32) (on : Nat → Int32) (he : Nat → Int32) (la : Nat → Int32) (post : (Int32 × Int32 × Int32 × Int32 × Int32 × (Nat → Int32) × (Nat → Int32) × (Nat → Int32)) → Prop) (K25 : Int32 → Int32 → Int32 → Int32 → Int32 → Int32 → Int32 → Int32 → (Nat → Int32) → (Nat → Int32) → (Nat → Int32) → Prop) (K46 : Int32 → Int32 → Int32 → Int32 → Int32 → Int32 → Int32 → Int32 → (Nat → Int32) → (Nat → Int32) → (Nat → Int32) → Prop) (K62 : Int32 → Int32 → Int32 → Int32 → Int32 → Int32 → Int32 → Int32 → Int32 → Int32 → (Nat → Int32) → (Nat → Int32) → (Nat → Int32) → Prop) (K117 : Int32 → Int32 → Int32 → Int32 → Int32 → Int32 → Int32 → Int32 → Int32 → Int32 → Int32 → (Nat → Int32) → (Nat → Int32) → (Nat → Int32) → Prop) (K298 : Int32 → Int32 → Int32 → Int32 → Int32 → Int32 → Int32 → Int32 → Int32 → Int32 → Int32 → Int32 → Int32 → (Nat → Int32) → (Nat → Int32) → (Nat → Int32) → Prop) (x1 : Int32) (x2 : Int32) (x3 : Int32) (x6 : Int32) (x7 : Int32) (s0 : Int32) (s1 : Int32) (wm_ : Int32) (ch_ : Int32) (ne_ : Int32) (np_ : Int32) (al_ : Int32) (ro_ : Nat → Int32) (cp_ : Nat → Int32) (nr_ : Nat → Int32) : Prop := (vp_in x7 6 ∧ (vp_in x7 6 ∧ (((ro_ x7.toNatClampNeg) = (bo x7.toNatClampNeg) → v_X4_findTeams_177 n se li wo kn sp py il fl wa bo so sd ti on he la post K25 K46 K62 K117 K298 x1 x2 x3 (s1 + s0) x7 (0 : Int32) x6 wm_ ch_ ne_ np_ al_ ro_ cp_ nr_) ∧ (¬ (ro_ x7.toNatClampNeg) = (bo x7.toNatClampNeg) → v_X4_findTeams_177 n se li wo kn sp py il fl wa bo so sd ti on he la post K25 K46 K62 K117 K298 x1 x2 x3 (s1 + s0) x7 (1 : Int32) x6 wm_ ch_ ne_ np_ al_ ro_ cp_ nr_))))
def v_X4_findTeams_293 (n : Nat) (se : Int32) (li : Int32) (wo : Int32) (kn : Nat → Int32) (sp : Nat → Int32) (py : Nat → Int32) (il : Nat → Int32) (fl : Nat → Int32) (wa : Nat → Int32) (bo : Nat → Int32) (so : Nat → Int32) (sd : Nat → Int32) (ti : Nat → Int32) (on : Nat → Int32) (he : Nat → Int32) (la : Nat → Int32) (post : (Int32 × Int32 × Int32 × Int32 × Int32 × (Nat → Int32) × (Nat → Int32) × (Nat → Int32)) → Prop) (K25 : Int32 → Int32 → Int32 → Int32 → Int32 → Int32 → Int32 → Int32 → (Nat → Int32) → (Nat → Int32) → (Nat → Int32) → Prop) (K46 : Int32 → Int32 → Int32 → Int32 → Int32 → Int32 → Int32 → Int32 → (Nat → Int32) → (Nat → Int32) → (Nat → Int32) → Prop) (K62 : Int32 → Int32 → Int32 → Int32 → Int32 → Int32 → Int32 → Int32 → Int32 → Int32 → (Nat → Int32) → (Nat → Int32) → (Nat → Int32) → Prop) (K117 : Int32 → Int32 → Int32 → Int32 → Int32 → Int32 → Int32 → Int32 → Int32 → Int32 → Int32 → (Nat → Int32) → (Nat → Int32) → (Nat → Int32) → Prop) (K298 : Int32 → Int32 → Int32 → Int32 → Int32 → Int32 → Int32 → Int32 → Int32 → Int32 → Int32 → Int32 → Int32 → (Nat → Int32) → (Nat → Int32) → (Nat → Int32) → Prop) (x1 : Int32) (x2 : Int32) (x3 : Int32) (x5 : Int32) (x6 : Int32) (x7 : Int32) (s0 : Int32) (wm_ : Int32) (ch_ : Int32) (ne_ : Int32) (np_ : Int32) (al_ : Int32) (ro_ : Nat → Int32) (cp_ : Nat → Int32) (nr_ : Nat → Int32) : Prop := K298 x1 x2 x3 x5 x6 x7 s0 (0 : Int32) wm_ ch_ ne_ np_ al_ ro_ cp_ nr_
def v_X4_findTeams_288 (n : Nat) (se : Int32) (li : Int32) (wo : Int32) (kn : Nat → Int32) (sp : Nat → Int32) (py : Nat → Int32) (il : Nat → Int32) (fl : Nat → Int32) (wa : Nat → Int32) (bo : Nat → Int32) (so : Nat → Int32) (sd : Nat → Int32) (ti : Nat → Int32) (on : Nat → Int32) (he : Nat → Int32) (la : Nat → Int32) (post : (Int32 × Int32 × Int32 × Int32 × Int32 × (Nat → Int32) × (Nat → Int32) × (Nat → Int32)) → Prop) (K25 : Int32 → Int32 → Int32 → Int32 → Int32 → Int32 → Int32 → Int32 → (Nat → Int32) → (Nat → Int32) → (Nat → Int32) → Prop) (K46 : Int32 → Int32 → Int32 → Int32 → Int32 → Int32 → Int32 → Int32 → (Nat → Int32) → (Nat → Int32) → (Nat → Int32) → Prop) (K62 : Int32 → Int32 → Int32 → Int32 → Int32 → Int32 → Int32 → Int32 → Int32 → Int32 → (Nat → Int32) → (Nat → Int32) → (Nat → Int32) → Prop) (K117 : Int32 → Int32 → Int32 → Int32 → Int32 → Int32 → Int32 → Int32 → Int32 → Int32 → Int32 → (Nat → Int32) → (Nat → Int32) → (Nat → Int32) → Prop) (K298 : Int32 → Int32 → Int32 → Int32 → Int32 → Int32 → Int32 → Int32 → Int32 → Int32 → Int32 → Int32 → Int32 → (Nat → Int32) → (Nat → Int32) → (Nat → Int32) → Prop) (x1 : Int32) (x2 : Int32) (x3 : Int32) (x5 : Int32) (x6 : Int32) (x7 : Int32) (wm_ : Int32) (ch_ : Int32) (ne_ : Int32) (np_ : Int32) (al_ : Int32) (ro_ : Nat → Int32) (cp_ : Nat → Int32) (nr_ : Nat → Int32) : Prop := v_X4_findTeams_293 n se li wo kn sp py il fl wa bo so sd ti on he la post K25 K46 K62 K117 K298 x1 x2 x3 x5 x6 x7 (1 : Int32) wm_ ch_ ne_ np_ al_ ro_ cp_ nr_
def v_X4_findTeams_292 (n : Nat) (se : Int32) (li : Int32) (wo : Int32) (kn : Nat → Int32) (sp : Nat → Int32) (py : Nat → Int32) (il : Nat → Int32) (fl : Nat → Int32) (wa : Nat → Int32) (bo : Nat → Int32) (so : Nat → Int32) (sd : Nat → Int32) (ti : Nat → Int32) (on : Nat → Int32) (he : Nat → Int32) (la : Nat → Int32) (post : (Int32 × Int32 × Int32 × Int32 × Int32 × (Nat → Int32) × (Nat → Int32) × (Nat → Int32)) → Prop) (K25 : Int32 → Int32 → Int32 → Int32 → Int32 → Int32 → Int32 → Int32 → (Nat → Int32) → (Nat → Int32) → (Nat → Int32) → Prop) (K46 : Int32 → Int32 → Int32 → Int32 → Int32 → Int32 → Int32 → Int32 → (Nat → Int32) → (Nat → Int32) → (Nat → Int32) → Prop) (K62 : Int32 → Int32 → Int32 → Int32 → Int32 → Int32 → Int32 → Int32 → Int32 → Int32 → (Nat → Int32) → (Nat → Int32) → (Nat → Int32) → Prop) (K117 : Int32 → Int32 → Int32 → Int32 → Int32 → Int32 → Int32 → Int32 → Int32 → Int32 → Int32 → (Nat → Int32) → (Nat → Int32) → (Nat → Int32) → Prop) (K298 : Int32 → Int32 → Int32 → Int32 → Int32 → Int32 → Int32 → Int32 → Int32 → Int32 → Int32 → Int32 → Int32 → (Nat → Int32) → (Nat → Int32) → (Nat → Int32) → Prop) (x1 : Int32) (x2 : Int32) (x3 : Int32) (x5 : Int32) (x6 : Int32) (x7 : Int32) (wm_ : Int32) (ch_ : Int32) (ne_ : Int32) (np_ : Int32) (al_ : Int32) (ro_ : Nat → Int32) (cp_ : Nat → Int32) (nr_ : Nat → Int32) : Prop := v_X4_findTeams_293 n se li wo kn sp py il fl wa bo so sd ti on he la post K25 K46 K62 K117 K298 x1 x2 x3 x5 x6 x7 (0 : Int32) wm_ ch_ ne_ np_ al_ ro_ cp_ nr_
def v_X4_findTeams_251 (n : Nat) (se : Int32) (li : Int32) (wo : Int32) (kn : Nat → Int32) (sp : Nat → Int32) (py : Nat → Int32) (il : Nat → Int32) (fl : Nat → Int32) (wa : Nat → Int32) (bo : Nat → Int32) (so : Nat → Int32) (sd : Nat → Int32) (ti : Nat → Int32) (on : Nat → Int32) (he : Nat → Int32) (la : Nat → Int32) (post : (Int32 × Int32 × Int32 × Int32 × Int32 × (Nat → Int32) × (Nat → Int32) × (Nat → Int32)) → Prop) (K25 : Int32 → Int32 → Int32 → Int32 → Int32 → Int32 → Int32 → Int32 → (Nat → Int32) → (Nat → Int32) → (Nat → Int32) → Prop) (K46 : Int32 → Int32 → Int32 → Int32 → Int32 → Int32 → Int32 → Int32 → (Nat → Int32) → (Nat → Int32) → (Nat → Int32) → Prop) (K62 : Int32 → Int32 → Int32 → Int32 → Int32 → Int32 → Int32 → Int32 → Int32 → Int32 → (Nat → Int32) → (Nat → Int32) → (Nat → Int32) → Prop) (K117 : Int32 → Int32 → Int32 → Int32 → Int32 → Int32 → Int32 → Int32 → Int32 → Int32 → Int32 → (Nat → Int32) → (Nat → Int32) → (Nat → Int32) → Prop) (K298 : Int32 → Int32 → Int32 → Int32 → Int32 → Int32 → Int32 → Int32 → Int32 → Int32 → Int32 → Int32 → Int32 → (Nat → Int32) → (Nat → Int32) → (Nat → Int32) → Prop) (x1 : Int32) (x2 : Int32) (x3 : Int32) (x5 : Int32) (x6 : Int32) (s0 : Int32) (wm_ : Int32) (ch_ : Int32) (ne_ : Int32) (np_ : Int32) (al_ : Int32) (ro_ : Nat → Int32) (cp_ : Nat → Int32) (nr_ : Nat → Int32) : Prop := ((ne_ = (-1 : Int32) → v_X4_findTeams_288 n se li wo kn sp py il fl wa bo so sd ti on he la post K25 K46 K62 K117 K298 x1 x2 x3 x5 x6 s0 wm_ ch_ ne_ np_ al_ ro_ cp_ nr_) ∧ (¬ ne_ = (-1 : Int32) → ((x6 < ne_ → v_X4_findTeams_288 n se li wo kn sp py il fl wa bo so sd ti on he la post K25 K46 K62 K117 K298 x1 x2 x3 x5 x6 s0 wm_ ch_ ne_ np_ al_ ro_ cp_ nr_) ∧ (¬ x6 < ne_ → ((x6 = ne_ → ((np_ ≤ x5 → v_X4_findTeams_292 n se li wo kn sp py il fl wa bo so sd ti on he la post K25 K46 K62 K117 K298 x1 x2 x3 x5 x6 s0 wm_ ch_ ne_ np_ al_ ro_ cp_ nr_) ∧ (¬ np_ ≤ x5 → v_X4_findTeams_288 n se li wo kn sp py il fl wa bo so sd ti on he la post K25 K46 K62 K117 K298 x1 x2 x3 x5 x6 s0 wm_ ch_ ne_ np_ al_ ro_ cp_ nr_))) ∧ (¬ x6 = ne_ → v_X4_findTeams_292 n se li wo kn sp py il fl wa bo so sd ti on he la post K25 K46 K62 K117 K298 x1 x2 x3 x5 x6 s0 wm_ ch_ ne_ np_ al_ ro_ cp_ nr_))))))
def v_X4_findTeams_246 (n : Nat) (se : Int32) (li : Int32) (wo : Int32) (kn : Nat → Int32) (sp : Nat → Int32) (py : Nat → Int32) (il : Nat → Int32) (fl : Nat → Int32) (wa : Nat → Int32) (bo : Nat → Int32) (so : Nat → Int32) (sd : Nat → Int32) (ti : Nat → Int32) (on : Nat → Int32) (he : Nat → Int32) (la : Nat → Int32) (post : (Int32 × Int32 × Int32 × Int32 × Int32 × (Nat → Int32) × (Nat → Int32) × (Nat → Int32)) → Prop) (K25 : Int32 → Int32 → Int32 → Int32 → Int32 → Int32 → Int32 → Int32 → (Nat → Int32) → (Nat → Int32) → (Nat → Int32) → Prop) (K46 : Int32 → Int32 → Int32 → Int32 → Int32 → Int32 → Int32 → Int32 → (Nat → Int32) → (Nat → Int32) → (Nat → Int32) → Prop) (K62 : Int32 → Int32 → Int32 → Int32 → Int32 → Int32 → Int32 → Int32 → Int32 → Int32 → (Nat → Int32) → (Nat → Int32) → (Nat → Int32) → Prop) (K117 : Int32 → Int32 → Int32 → Int32 → Int32 → Int32 → Int32 → Int32 → Int32 → Int32 → Int32 → (Nat → Int32) → (Nat → Int32) → (Nat → Int32) → Prop) (K298 : Int32 → Int32 → Int32 → Int32 → Int32 → Int32 → Int32 → Int32 → Int32 → Int32 → Int32 → Int32 → Int32 → (Nat → Int32) → (Nat → Int32) → (Nat → Int32) → Prop) (x1 : Int32) (x2 : Int32) (x3 : Int32) (x5 : Int32) (x6 : Int32) (wm_ : Int32) (ch_ : Int32) (ne_ : Int32) (np_ : Int32) (al_ : Int32) (ro_ : Nat → Int32) (cp_ : Nat → Int32) (nr_ : Nat → Int32) : Prop := v_X4_findTeams_251 n se li wo kn sp py il fl wa bo so sd ti on he la post K25 K46 K62 K117 K298 x1 x2 x3 x5 x6 (1 : Int32) wm_ ch_ ne_ np_ al_ ro_ cp_ nr_
def v_X4_findTeams_117 (n : Nat) (se : Int32) (li : Int32) (wo : Int32) (kn : Nat → Int32) (sp : Nat → Int32) (py : Nat → Int32) (il : Nat → Int32) (fl : Nat → Int32) (wa : Nat → Int32) (bo : Nat → Int32) (so : Nat → Int32) (sd : Nat → Int32) (ti : Nat → Int32) (on : Nat → Int32) (he : Nat → Int32) (la : Nat → Int32) (post : (Int32 × Int32 × Int32 × Int32 × Int32 × (Nat → Int32) × (Nat → Int32) × (Nat → Int32)) → Prop) (K25 : Int32 → Int32 → Int32 → Int32 → Int32 → Int32 → Int32 → Int32 → (Nat → Int32) → (Nat → Int32) → (Nat → Int32) → Prop) (K46 : Int32 → Int32 → Int32 → Int32 → Int32 → Int32 → Int32 → Int32 → (Nat → Int32) → (Nat → Int32) → (Nat → Int32) → Prop) (K62 : Int32 → Int32 → Int32 → Int32 → Int32 → Int32 → Int32 → Int32 → Int32 → Int32 → (Nat → Int32) → (Nat → Int32) → (Nat → Int32) → Prop) (K117 : Int32 → Int32 → Int32 → Int32 → Int32 → Int32 → Int32 → Int32 → Int32 → Int32 → Int32 → (Nat → Int32) → (Nat → Int32) → (Nat → Int32) → Prop) (K298 : Int32 → Int32 → Int32 → Int32 → Int32 → Int32 → Int32 → Int32 → Int32 → Int32 → Int32 → Int32 → Int32 → (Nat → Int32) → (Nat → Int32) → (Nat → Int32) → Prop) (x1 : Int32) (x2 : Int32) (x3 : Int32) (x5 : Int32) (x6 : Int32) (x7 : Int32) (wm_ : Int32) (ch_ : Int32) (ne_ : Int32) (np_ : Int32) (al_ : Int32) (ro_ : Nat → Int32) (cp_ : Nat → Int32) (nr_ : Nat → Int32) : Prop := (((nI n) ≤ x7 → ((ch_ = (-1 : Int32) → v_X4_findTeams_246 n se li wo kn sp py il fl wa bo so sd ti on he la post K25 K46 K62 K117 K298 x1 x2 x3 x5 x6 (wm_ + (1 : Int32)) ch_ ne_ np_ al_ ro_ cp_ nr_) ∧ (¬ ch_ = (-1 : Int32) → ((ch_ ≤ x5 → v_X4_findTeams_251 n se li wo kn sp py il fl wa bo so sd ti on he la post K25 K46 K62 K117 K298 x1 x2 x3 x5 x6 (0 : Int32) (wm_ + (1 : Int32)) ch_ ne_ np_ al_ ro_ cp_ nr_) ∧ (¬ ch_ ≤ x5 → v_X4_findTeams_246 n se li wo kn sp py il fl wa bo so sd ti on he la post K25 K46 K62 K117 K298 x1 x2 x3 x5 x6 (wm_ + (1 : Int32)) ch_ ne_ np_ al_ ro_ cp_ nr_))))) ∧ (¬ (nI n) ≤ x7 → (vp_in x7 6 ∧ (((5 : Int32) ≤ (ro_ x7.toNatClampNeg) → v_X4_findTeams_150 n se li wo kn sp py il fl wa bo so sd ti on he la post K25 K46 K62 K117 K298 x1 x2 x3 x6 x7 (0 : Int32) x5 wm_ ch_ ne_ np_ al_ ro_ cp_ nr_) ∧ (¬ (5 : Int32) ≤ (ro_ x7.toNatClampNeg) → (vp_in x7 6 ∧ v_X4_findTeams_150 n se li wo kn sp py il fl wa bo so sd ti on he la post K25 K46 K62 K117 K298 x1 x2 x3 x6 x7 (py x7.toNatClampNeg) x5 wm_ ch_ ne_ np_ al_ ro_ cp_ nr_))))))
def v_X4_findTeams_364 (n : Nat) (se : Int32) (li : Int32) (wo : Int32) (kn : Nat → Int32) (sp : Nat → Int32) (py : Nat → Int32) (il : Nat → Int32) (fl : Nat → Int32) (wa : Nat → Int32) (bo : Nat → Int32) (so : Nat → Int32) (sd : Nat → Int32) (ti : Nat → Int32) (on : Nat → Int32) (he : Nat → Int32) (la : Nat → Int32) (post : (Int32 × Int32 × Int32 × Int32 × Int32 × (Nat → Int32) × (Nat → Int32) × (Nat → Int32)) → Prop) (K25 : Int32 → Int32 → Int32 → Int32 → Int32 → Int32 → Int32 → Int32 → (Nat → Int32) → (Nat → Int32) → (Nat → Int32) → Prop) (K46 : Int32 → Int32 → Int32 → Int32 → Int32 → Int32 → Int32 → Int32 → (Nat → Int32) → (Nat → Int32) → (Nat → Int32) → Prop) (K62 : Int32 → Int32 → Int32 → Int32 → Int32 → Int32 → Int32 → Int32 → Int32 → Int32 → (Nat → Int32) → (Nat → Int32) → (Nat → Int32) → Prop) (K117 : Int32 → Int32 → Int32 → Int32 → Int32 → Int32 → Int32 → Int32 → Int32 → Int32 → Int32 → (Nat → Int32) → (Nat → Int32) → (Nat → Int32) → Prop) (K298 : Int32 → Int32 → Int32 → Int32 → Int32 → Int32 → Int32 → Int32 → Int32 → Int32 → Int32 → Int32 → Int32 → (Nat → Int32) → (Nat → Int32) → (Nat → Int32) → Prop) (x1 : Int32) (x2 : Int32) (x3 : Int32) (x5 : Int32) (x6 : Int32) (x7 : Int32) (x8 : Int32) (x9 : Int32) (s0 : Int32) (s1 : Int32) (wm_ : Int32) (ch_ : Int32) (ne_ : Int32) (np_ : Int32) (al_ : Int32) (ro_ : Nat → Int32) (cp_ : Nat → Int32) (nr_ : Nat → Int32) : Prop := (vp_in s1 6 ∧ K298 x1 x2 x3 x5 x6 x7 x8 (x9 + 1) wm_ ch_ ne_ np_ al_ ro_ cp_ (upd nr_ s1.toNatClampNeg s0))
def v_X4_findTeams_335 (n : Nat) (se : Int32) (li : Int32) (wo : Int32) (kn : Nat → Int32) (sp : Nat → Int32) (py : Nat → Int32) (il : Nat → Int32) (fl : Nat → Int32) (wa : Nat → Int32) (bo : Nat → Int32) (so : Nat → Int32) (sd : Nat → Int32) (ti : Nat → Int32) (on : Nat → Int32) (he : Nat → Int32) (la : Nat → Int32) (post : (Int32 × Int32 × Int32 × Int32 × Int32 × (Nat → Int32) × (Nat → Int32) × (Nat → Int32)) → Prop) (K25 : Int32 → Int32 → Int32 → Int32 → Int32 → Int32 → Int32 → Int32 → (Nat → Int32) → (Nat → Int32) → (Nat → Int32) → Prop) (K46 : Int32 → Int32 → Int32 → Int32 → Int32 → Int32 → Int32 → Int32 → (Nat → Int32) → (Nat → Int32) → (Nat → Int32) → Prop) (K62 : Int32 → Int32 → Int32 → Int32 → Int32 → Int32 → Int32 → Int32 → Int32 → Int32 → (Nat → Int32) → (Nat → Int32) → (Nat → Int32) → Prop) (K117 : Int32 → Int32 → Int32 → Int32 → Int32 → Int32 → Int32 → Int32 → Int32 → Int32 → Int32 → (Nat → Int32) → (Nat → Int32) → (Nat → Int32) → Prop) (K298 : Int32 → Int32 → Int32 → Int32 → Int32 → Int32 → Int32 → Int32 → Int32 → Int32 → Int32 → Int32 → Int32 → (Nat → Int32) → (Nat → Int32) → (Nat → Int32) → Prop) (x1 : Int32) (x2 : Int32) (x3 : Int32) (x5 : Int32) (x6 : Int32) (x7 : Int32) (x8 : Int32) (x9 : Int32) (s0 : Int32) (s1 : Int32) (wm_ : Int32) (ch_ : Int32) (ne_ : Int32) (np_ : Int32) (al_ : Int32) (ro_ : Nat → Int32) (cp_ : Nat → Int32) (nr_ : Nat → Int32) : Prop := (vp_in s1 6 ∧ ((x8 = 0 → (vp_in x9 6 ∧ v_X4_findTeams_364 n se li wo kn sp py il fl wa bo so sd ti on he la post K25 K46 K62 K117 K298 x1 x2 x3 x5 x6 x7 x8 x9 (nr_ x9.toNatClampNeg) x9 wm_ ch_ ne_ np_ al_ ro_ (upd cp_ s1.toNatClampNeg s0) nr_)) ∧ (¬ x8 = 0 → (vp_in x9 6 ∧ v_X4_findTeams_364 n se li wo kn sp py il fl wa bo so sd ti on he la post K25 K46 K62 K117 K298 x1 x2 x3 x5 x6 x7 x8 x9 (ro_ x9.toNatClampNeg) x9 wm_ ch_ ne_ np_ al_ ro_ (upd cp_ s1.toNatClampNeg s0) nr_))))
def v_X4_findTeams_422 (n : Nat) (se : Int32) (li : Int32) (wo : Int32) (kn : Nat → Int32) (sp : Nat → Int32) (py : Nat → Int32) (il : Nat → Int32) (fl : Nat → Int32) (wa : Nat → Int32) (bo : Nat → Int32) (so : Nat → Int32) (sd : Nat → Int32) (ti : Nat → Int32) (on : Nat → Int32) (he : Nat → Int32) (la : Nat → Int32) (post : (Int32 × Int32 × Int32 × Int32 × Int32 × (Nat → Int32) × (Nat → Int32) × (Nat → Int32)) → Prop) (K25 : Int32 → Int32 → Int32 → Int32 → Int32 → Int32 → Int32 → Int32 → (Nat → Int32) → (Nat → Int32) → (Nat → Int32) → Prop) (K46 : Int32 → Int32 → Int32 → Int32 → Int32 → Int32 → Int32 → Int32 → (Nat → Int32) → (Nat → Int32) → (Nat → Int32) → Prop) (K62 : Int32 → Int32 → Int32 → Int32 → Int32 → Int32 → Int32 → Int32 → Int32 → Int32 → (Nat → Int32) → (Nat → Int32) → (Nat → Int32) → Prop) (K117 : Int32 → Int32 → Int32 → Int32 → Int32 → Int32 → Int32 → Int32 → Int32 → Int32 → Int32 → (Nat → Int32) → (Nat → Int32) → (Nat → Int32) → Prop) (K298 : Int32 → Int32 → Int32 → Int32 → Int32 → Int32 → Int32 → Int32 → Int32 → Int32 → Int32 → Int32 → Int32 → (Nat → Int32) → (Nat → Int32) → (Nat → Int32) → Prop) (x1 : Int32) (x2 : Int32) (x3 : Int32) (s0 : Int32) (wm_ : Int32) (ch_ : Int32) (ne_ : Int32) (np_ : Int32) (al_ : Int32) (ro_ : Nat → Int32) (cp_ : Nat → Int32) (nr_ : Nat → Int32) : Prop := v_X4_findTeams_425 n se li wo kn sp py il fl wa bo so sd ti on he la post K25 K46 K62 K117 K298 x1 x2 x3 wm_ ch_ ne_ s0 al_ ro_ cp_ nr_
def v_X4_findTeams_404 (n : Nat) (se : Int32) (li : Int32) (wo : Int32) (kn : Nat → Int32) (sp : Nat → Int32) (py : Nat → Int32) (il : Nat → Int32) (fl : Nat → Int32) (wa : Nat → Int32) (bo : Nat → Int32) (so : Nat → Int32) (sd : Nat → Int32) (ti : Nat → Int32) (on : Nat → Int32) (he : Nat → Int32) (la : Nat → Int32) (post : (Int32 × Int32 × Int32 × Int32 × Int32 × (Nat → Int32) × (Nat → Int32) × (Nat → Int32)) → Prop) (K25 : Int32 → Int32 → Int32 → Int32 → Int32 → Int32 → Int32 → Int32 → (Nat → Int32) → (Nat → Int32) → (Nat → Int32) → Prop) (K46 : Int32 → Int32 → Int32 → Int32 → Int32 → Int32 → Int32 → Int32 → (Nat → Int32) → (Nat → Int32) → (Nat → Int32) → Prop) (K62 : Int32 → Int32 → Int32 → Int32 → Int32 → Int32 → Int32 → Int32 → Int32 → Int32 → (Nat → Int32) → (Nat → Int32) → (Nat → Int32) → Prop) (K117 : Int32 → Int32 → Int32 → Int32 → Int32 → Int32 → Int32 → Int32 → Int32 → Int32 → Int32 → (Nat → Int32) → (Nat → Int32) → (Nat → Int32) → Prop) (K298 : Int32 → Int32 → Int32 → Int32 → Int32 → Int32 → Int32 → Int32 → Int32 → Int32 → Int32 → Int32 → Int32 → (Nat → Int32) → (Nat → Int32) → (Nat → Int32) → Prop) (x1 : Int32) (x2 : Int32) (x3 : Int32) (x5 : Int32) (x8 : Int32) (s0 : Int32) (wm_ : Int32) (ch_ : Int32) (ne_ : Int32) (np_ : Int32) (al_ : Int32) (ro_ : Nat → Int32) (cp_ : Nat → Int32) (nr_ : Nat → Int32) : Prop := ((x8 = 0 → v_X4_findTeams_422 n se li wo kn sp py il fl wa bo so sd ti on he la post K25 K46 K62 K117 K298 x1 x2 x3 np_ wm_ ch_ s0 np_ al_ ro_ cp_ nr_) ∧ (¬ x8 = 0 → v_X4_findTeams_422 n se li wo kn sp py il fl wa bo so sd ti on he la post K25 K46 K62 K117 K298 x1 x2 x3 x5 wm_ ch_ s0 np_ al_ ro_ cp_ nr_))
def v_X4_findTeams_386 (n : Nat) (se : Int32) (li : Int32) (wo : Int32) (kn : Nat → Int32) (sp : Nat → Int32) (py : Nat → Int32) (il : Nat → Int32) (fl : Nat → Int32) (wa : Nat → Int32) (bo : Nat → Int32) (so : Nat → Int32) (sd : Nat → Int32) (ti : Nat → Int32) (on : Nat → Int32) (he : Nat → Int32) (la : Nat → Int32) (post : (Int32 × Int32 × Int32 × Int32 × Int32 × (Nat → Int32) × (Nat → Int32) × (Nat → Int32)) → Prop) (K25 : Int32 → Int32 → Int32 → Int32 → Int32 → Int32 → Int32 → Int32 → (Nat → Int32) → (Nat → Int32) → (Nat → Int32) → Prop) (K46 : Int32 → Int32 → Int32 → Int32 → Int32 → Int32 → Int32 → Int32 → (Nat → Int32) → (Nat → Int32) → (Nat → Int32) → Prop) (K62 : Int32 → Int32 → Int32 → Int32 → Int32 → Int32 → Int32 → Int32 → Int32 → Int32 → (Nat → Int32) → (Nat → Int32) → (Nat → Int32) → Prop) (K117 : Int32 → Int32 → Int32 → Int32 → Int32 → Int32 → Int32 → Int32 → Int32 → Int32 → Int32 → (Nat → Int32) → (Nat → Int32) → (Nat → Int32) → Prop) (K298 : Int32 → Int32 → Int32 → Int32 → Int32 → Int32 → Int32 → Int32 → Int32 → Int32 → Int32 → Int32 → Int32 → (Nat → Int32) → (Nat → Int32) → (Nat → Int32) → Prop) (x1 : Int32) (x2 : Int32) (x3 : Int32) (x5 : Int32) (x6 : Int32) (x8 : Int32) (s0 : Int32) (wm_ : Int32) (ch_ : Int32) (ne_ : Int32) (np_ : Int32) (al_ : Int32) (ro_ : Nat → Int32) (cp_ : Nat → Int32) (nr_ : Nat → Int32) : Prop := ((x8 = 0 → v_X4_findTeams_404 n se li wo kn sp py il fl wa bo so sd ti on he la post K25 K46 K62 K117 K298 x1 x2 x3 x5 x8 ne_ wm_ s0 ne_ np_ al_ ro_ cp_ nr_) ∧ (¬ x8 = 0 → v_X4_findTeams_404 n se li wo kn sp py il fl wa bo so sd ti on he la post K25 K46 K62 K117 K298 x1 x2 x3 x5 x8 x6 wm_ s0 ne_ np_ al_ ro_ cp_ nr_))
def v_X4_findTeams_298 (n : Nat) (se : Int32) (li : Int32) (wo : Int32) (kn : Nat → Int32) (sp : Nat → Int32) (py : Nat → Int32) (il : Nat → Int32) (fl : Nat → Int32) (wa : Nat → Int32) (bo : Nat → Int32) (so : Nat → Int32) (sd : Nat → Int32) (ti : Nat → Int32) (on : Nat → Int32) (he : Nat → Int32) (la : Nat → Int32) (post : (Int32 × Int32 × Int32 × Int32 × Int32 × (Nat → Int32) × (Nat → Int32) × (Nat → Int32)) → Prop) (K25 : Int32 → Int32 → Int32 → Int32 → Int32 → Int32 → Int32 → Int32 → (Nat → Int32) → (Nat → Int32) → (Nat → Int32) → Prop) (K46 : Int32 → Int32 → Int32 → Int32 → Int32 → Int32 → Int32 → Int32 → (Nat → Int32) → (Nat → Int32) → (Nat → Int32) → Prop) (K62 : Int32 → Int32 → Int32 → Int32 → Int32 → Int32 → Int32 → Int32 → Int32 → Int32 → (Nat → Int32) → (Nat → Int32) → (Nat → Int32) → Prop) (K117 : Int32 → Int32 → Int32 → Int32 → Int32 → Int32 → Int32 → Int32 → Int32 → Int32 → Int32 → (Nat → Int32) → (Nat → Int32) → (Nat → Int32) → Prop) (K298 : Int32 → Int32 → Int32 → Int32 → Int32 → Int32 → Int32 → Int32 → Int32 → Int32 → Int32 → Int32 → Int32 → (Nat → Int32) → (Nat → Int32) → (Nat → Int32) → Prop) (x1 : Int32) (x2 : Int32) (x3 : Int32) (x5 : Int32) (x6 : Int32) (x7 : Int32) (x8 : Int32) (x9 : Int32) (wm_ : Int32) (ch_ : Int32) (ne_ : Int32) (np_ : Int32) (al_ : Int32) (ro_ : Nat → Int32) (cp_ : Nat → Int32) (nr_ : Nat → Int32) : Prop := (((nI n) ≤ x9 → ((x7 = 0 → v_X4_findTeams_386 n se li wo kn sp py il fl wa bo so sd ti on he la post K25 K46 K62 K117 K298 x1 x2 x3 x5 x6 x8 ch_ wm_ ch_ ne_ np_ al_ ro_ cp_ nr_) ∧ (¬ x7 = 0 → v_X4_findTeams_386 n se li wo kn sp py il fl wa bo so sd ti on he la post K25 K46 K62 K117 K298 x1 x2 x3 x5 x6 x8 x5 wm_ ch_ ne_ np_ al_ ro_ cp_ nr_))) ∧ (¬ (nI n) ≤ x9 → ((x7 = 0 → (vp_in x9 6 ∧ v_X4_findTeams_335 n se li wo kn sp py il fl wa bo so sd ti on he la post K25 K46 K62 K117 K298 x1 x2 x3 x5 x6 x7 x8 x9 (cp_ x9.toNatClampNeg) x9 wm_ ch_ ne_ np_ al_ ro_ cp_ nr_)) ∧ (¬ x7 = 0 → (vp_in x9 6 ∧ v_X4_findTeams_335 n se li wo kn sp py il fl wa bo so sd ti on he la post K25 K46 K62 K117 K298 x1 x2 x3 x5 x6 x7 x8 x9 (ro_ x9.toNatClampNeg) x9 wm_ ch_ ne_ np_ al_ ro_ cp_ nr_)))))
def v_X4_whole_0 (n : Nat) (se : Int32) (li : Int32) (wo : Int32) (kn : Nat → Int32) (sp : Nat → Int32) (py : Nat → Int32) (il : Nat → Int32) (fl : Nat → Int32) (wa : Nat → Int32) (bo : Nat → Int32) (so : Nat → Int32) (sd : Nat → Int32) (ti : Nat → Int32) (on : Nat → Int32) (he : Nat → Int32) (la : Nat → Int32) (post : Int32 → (Int32 × Int32 × Int32 × Int32 × Int32 × (Nat → Int32) × (Nat → Int32) × (Nat → Int32)) → Prop) (a1 : Int32) (wm : Int32) (ch : Int32) (ne : Int32) (np : Int32) (al : Int32) (ro : Nat → Int32) (cp : Nat → Int32) (nr : Nat → Int32) : Prop := (((bI (inR a1 0 1)) = 0 → post (-2 : Int32) (wm, ch, ne, np, al, ro, cp, nr)) ∧ (¬ (bI (inR a1 0 1)) = 0 → ((inB a1 2 = true) ∧ (∀ u12 : Int32 × Int32 × Int32 × Int32 × Int32 × (Nat → Int32) × (Nat → Int32) × (Nat → Int32), u12 = ftF n kn sp py il fl wa bo se a1 (wm, ch, ne, np, al, ro, cp, nr) → post u12.1 (u12.1, u12.2.1, u12.2.2.1, u12.2.2.2.1, u12.2.2.2.2.1, u12.2.2.2.2.2.1, u12.2.2.2.2.2.2.1, u12.2.2.2.2.2.2.2)))))
def v_X4_cheapest_0 (n : Nat) (se : Int32) (li : Int32) (wo : Int32) (kn : Nat → Int32) (sp : Nat → Int32) (py : Nat → Int32) (il : Nat → Int32) (fl : Nat → Int32) (wa : Nat → Int32) (bo : Nat → Int32) (so : Nat → Int32) (sd : Nat → Int32) (ti : Nat → Int32) (on : Nat → Int32) (he : Nat → Int32) (la : Nat → Int32) (post : Int32 → (Int32 × Int32 × Int32 × Int32 × Int32 × (Nat → Int32) × (Nat → Int32) × (Nat → Int32)) → Prop) (a1 : Int32) (wm : Int32) (ch : Int32) (ne : Int32) (np : Int32) (al : Int32) (ro : Nat → Int32) (cp : Nat → Int32) (nr : Nat → Int32) : Prop := (((bI (inR a1 0 1)) = 0 → post (-2 : Int32) (wm, ch, ne, np, al, ro, cp, nr)) ∧ (¬ (bI (inR a1 0 1)) = 0 → ((inB a1 2 = true) ∧ (∀ u12 : Int32 × Int32 × Int32 × Int32 × Int32 × (Nat → Int32) × (Nat → Int32) × (Nat → Int32), u12 = ftF n kn sp py il fl wa bo se a1 (wm, ch, ne, np, al, ro, cp, nr) → post u12.2.1 (u12.1, u12.2.1, u12.2.2.1, u12.2.2.2.1, u12.2.2.2.2.1, u12.2.2.2.2.2.1, u12.2.2.2.2.2.2.1, u12.2.2.2.2.2.2.2)))))
def v_X4_nearest_0 (n : Nat) (se : Int32) (li : Int32) (wo : Int32) (kn : Nat → Int32) (sp : Nat → Int32) (py : Nat → Int32) (il : Nat → Int32) (fl : Nat → Int32) (wa : Nat → Int32) (bo : Nat → Int32) (so : Nat → Int32) (sd : Nat → Int32) (ti : Nat → Int32) (on : Nat → Int32) (he : Nat → Int32) (la : Nat → Int32) (post : Int32 → (Int32 × Int32 × Int32 × Int32 × Int32 × (Nat → Int32) × (Nat → Int32) × (Nat → Int32)) → Prop) (a1 : Int32) (wm : Int32) (ch : Int32) (ne : Int32) (np : Int32) (al : Int32) (ro : Nat → Int32) (cp : Nat → Int32) (nr : Nat → Int32) : Prop := (((bI (inR a1 0 1)) = 0 → post (-2 : Int32) (wm, ch, ne, np, al, ro, cp, nr)) ∧ (¬ (bI (inR a1 0 1)) = 0 → ((inB a1 2 = true) ∧ (∀ u12 : Int32 × Int32 × Int32 × Int32 × Int32 × (Nat → Int32) × (Nat → Int32) × (Nat → Int32), u12 = ftF n kn sp py il fl wa bo se a1 (wm, ch, ne, np, al, ro, cp, nr) → post u12.2.2.1 (u12.1, u12.2.1, u12.2.2.1, u12.2.2.2.1, u12.2.2.2.2.1, u12.2.2.2.2.2.1, u12.2.2.2.2.2.2.1, u12.2.2.2.2.2.2.2)))))
def v_X4_take_0 (n : Nat) (se : Int32) (li : Int32) (wo : Int32) (kn : Nat → Int32) (sp : Nat → Int32) (py : Nat → Int32) (il : Nat → Int32) (fl : Nat → Int32) (wa : Nat → Int32) (so : Nat → Int32) (sd : Nat → Int32) (ti : Nat → Int32) (on : Nat → Int32) (he : Nat → Int32) (la : Nat → Int32) (post : Int32 → (Int32 × Int32 × Int32 × Int32 × Int32 × (Nat → Int32) × (Nat → Int32) × (Nat → Int32) × (Nat → Int32)) → Prop) (K39 : Int32 → Int32 → Int32 → Int32 → Int32 → Int32 → Int32 → (Nat → Int32) → (Nat → Int32) → (Nat → Int32) → (Nat → Int32) → Prop) (a1 : Int32) (a2 : Int32) (wm : Int32) (ch : Int32) (ne : Int32) (np : Int32) (al : Int32) (bo : Nat → Int32) (ro : Nat → Int32) (cp : Nat → Int32) (nr : Nat → Int32) : Prop := (((bI (inR a1 0 1)) = 0 → post (-2 : Int32) (wm, ch, ne, np, al, bo, ro, cp, nr)) ∧ (¬ (bI (inR a1 0 1)) = 0 → (((bI (inR a2 (0 : Int32) (1 : Int32))) = 0 → post (-3 : Int32) (wm, ch, ne, np, al, bo, ro, cp, nr)) ∧ (¬ (bI (inR a2 (0 : Int32) (1 : Int32))) = 0 → ((inB a1 2 = true) ∧ (∀ u24 : Int32 × Int32 × Int32 × Int32 × Int32 × (Nat → Int32) × (Nat → Int32) × (Nat → Int32), u24 = ftF n kn sp py il fl wa bo se a1 (wm, ch, ne, np, al, ro, cp, nr) → ((u24.1 = 0 → post (-4 : Int32) (u24.1, u24.2.1, u24.2.2.1, u24.2.2.2.1, u24.2.2.2.2.1, bo, u24.2.2.2.2.2.1, u24.2.2.2.2.2.2.1, u24.2.2.2.2.2.2.2)) ∧ (¬ u24.1 = 0 → K39 a2 (0 : Int32) u24.1 u24.2.1 u24.2.2.1 u24.2.2.2.1 u24.2.2.2.2.1 bo u24.2.2.2.2.2.1 u24.2.2.2.2.2.2.1 u24.2.2.2.2.2.2.2))))))))
def v_X4_take_71 (n : Nat) (se : Int32) (li : Int32) (wo : Int32) (kn : Nat → Int32) (sp : Nat → Int32) (py : Nat → Int32) (il : Nat → Int32) (fl : Nat → Int32) (wa : Nat → Int32) (so : Nat → Int32) (sd : Nat → Int32) (ti : Nat → Int32) (on : Nat → Int32) (he : Nat → Int32) (la : Nat → Int32) (post : Int32 → (Int32 × Int32 × Int32 × Int32 × Int32 × (Nat → Int32) × (Nat → Int32) × (Nat → Int32) × (Nat → Int32)) → Prop) (K39 : Int32 → Int32 → Int32 → Int32 → Int32 → Int32 → Int32 → (Nat → Int32) → (Nat → Int32) → (Nat → Int32) → (Nat → Int32) → Prop) (x2 : Int32) (x3 : Int32) (s0 : Int32) (s1 : Int32) (wm_ : Int32) (ch_ : Int32) (ne_ : Int32) (np_ : Int32) (al_ : Int32) (bo_ : Nat → Int32) (ro_ : Nat → Int32) (cp_ : Nat → Int32) (nr_ : Nat → Int32) : Prop := (vp_in s1 6 ∧ K39 x2 (x3 + 1) wm_ ch_ ne_ np_ al_ (upd bo_ s1.toNatClampNeg s0) ro_ cp_ nr_)
def v_X4_take_39 (n : Nat) (se : Int32) (li : Int32) (wo : Int32) (kn : Nat → Int32) (sp : Nat → Int32) (py : Nat → Int32) (il : Nat → Int32) (fl : Nat → Int32) (wa : Nat → Int32) (so : Nat → Int32) (sd : Nat → Int32) (ti : Nat → Int32) (on : Nat → Int32) (he : Nat → Int32) (la : Nat → Int32) (post : Int32 → (Int32 × Int32 × Int32 × Int32 × Int32 × (Nat → Int32) × (Nat → Int32) × (Nat → Int32) × (Nat → Int32)) → Prop) (K39 : Int32 → Int32 → Int32 → Int32 → Int32 → Int32 → Int32 → (Nat → Int32) → (Nat → Int32) → (Nat → Int32) → (Nat → Int32) → Prop) (x2 : Int32) (x3 : Int32) (wm_ : Int32) (ch_ : Int32) (ne_ : Int32) (np_ : Int32) (al_ : Int32) (bo_ : Nat → Int32) (ro_ : Nat → Int32) (cp_ : Nat → Int32) (nr_ : Nat → Int32) : Prop := (((nI n) ≤ x3 → ((x2 = 0 → post ch_ (wm_, ch_, ne_, np_, al_, bo_, ro_, cp_, nr_)) ∧ (¬ x2 = 0 → post np_ (wm_, ch_, ne_, np_, al_, bo_, ro_, cp_, nr_)))) ∧ (¬ (nI n) ≤ x3 → ((x2 = 0 → (vp_in x3 6 ∧ v_X4_take_71 n se li wo kn sp py il fl wa so sd ti on he la post K39 x2 x3 (cp_ x3.toNatClampNeg) x3 wm_ ch_ ne_ np_ al_ bo_ ro_ cp_ nr_)) ∧ (¬ x2 = 0 → (vp_in x3 6 ∧ v_X4_take_71 n se li wo kn sp py il fl wa so sd ti on he la post K39 x2 x3 (nr_ x3.toNatClampNeg) x3 wm_ ch_ ne_ np_ al_ bo_ ro_ cp_ nr_)))))
def v_X4_seated_0 (n : Nat) (se : Int32) (li : Int32) (wm : Int32) (ch : Int32) (ne : Int32) (np : Int32) (al : Int32) (wo : Int32) (kn : Nat → Int32) (sp : Nat → Int32) (py : Nat → Int32) (il : Nat → Int32) (fl : Nat → Int32) (wa : Nat → Int32) (bo : Nat → Int32) (so : Nat → Int32) (sd : Nat → Int32) (ro : Nat → Int32) (cp : Nat → Int32) (nr : Nat → Int32) (ti : Nat → Int32) (on : Nat → Int32) (he : Nat → Int32) (la : Nat → Int32) (post : Int32 → (Unit) → Prop) (K4 : Int32 → Int32 → Prop) : Prop := K4 (0 : Int32) (0 : Int32)
def v_X4_seated_28 (n : Nat) (se : Int32) (li : Int32) (wm : Int32) (ch : Int32) (ne : Int32) (np : Int32) (al : Int32) (wo : Int32) (kn : Nat → Int32) (sp : Nat → Int32) (py : Nat → Int32) (il : Nat → Int32) (fl : Nat → Int32) (wa : Nat → Int32) (bo : Nat → Int32) (so : Nat → Int32) (sd : Nat → Int32) (ro : Nat → Int32) (cp : Nat → Int32) (nr : Nat → Int32) (ti : Nat → Int32) (on : Nat → Int32) (he : Nat → Int32) (la : Nat → Int32) (post : Int32 → (Unit) → Prop) (K4 : Int32 → Int32 → Prop) (x2 : Int32) (s0 : Int32) (s1 : Int32) : Prop := K4 (s1 + s0) (x2 + 1)
def v_X4_seated_4 (n : Nat) (se : Int32) (li : Int32) (wm : Int32) (ch : Int32) (ne : Int32) (np : Int32) (al : Int32) (wo : Int32) (kn : Nat → Int32) (sp : Nat → Int32) (py : Nat → Int32) (il : Nat → Int32) (fl : Nat → Int32) (wa : Nat → Int32) (bo : Nat → Int32) (so : Nat → Int32) (sd : Nat → Int32) (ro : Nat → Int32) (cp : Nat → Int32) (nr : Nat → Int32) (ti : Nat → Int32) (on : Nat → Int32) (he : Nat → Int32) (la : Nat → Int32) (post : Int32 → (Unit) → Prop) (K4 : Int32 → Int32 → Prop) (x1 : Int32) (x2 : Int32) : Prop := (((nI n) ≤ x2 → post x1 ()) ∧ (¬ (nI n) ≤ x2 → (vp_in x2 6 ∧ (((5 : Int32) ≤ (bo x2.toNatClampNeg) → v_X4_seated_28 n se li wm ch ne np al wo kn sp py il fl wa bo so sd ro cp nr ti on he la post K4 x2 (0 : Int32) x1) ∧ (¬ (5 : Int32) ≤ (bo x2.toNatClampNeg) → v_X4_seated_28 n se li wm ch ne np al wo kn sp py il fl wa bo so sd ro cp nr ti on he la post K4 x2 (1 : Int32) x1)))))
def v_X4_leave_0 (n : Nat) (se : Int32) (li : Int32) (wm : Int32) (ch : Int32) (ne : Int32) (np : Int32) (al : Int32) (wo : Int32) (kn : Nat → Int32) (sp : Nat → Int32) (py : Nat → Int32) (il : Nat → Int32) (fl : Nat → Int32) (wa : Nat → Int32) (so : Nat → Int32) (sd : Nat → Int32) (ro : Nat → Int32) (cp : Nat → Int32) (nr : Nat → Int32) (ti : Nat → Int32) (on : Nat → Int32) (he : Nat → Int32) (la : Nat → Int32) (post : Int32 → ((Nat → Int32)) → Prop) (K7 : Int32 → Int32 → (Nat → Int32) → Prop) (bo : Nat → Int32) : Prop := K7 (sI (fun k => if bo k < 5 then 1 else 0) n) (0 : Int32) bo
def v_X4_leave_7 (n : Nat) (se : Int32) (li : Int32) (wm : Int32) (ch : Int32) (ne : Int32) (np : Int32) (al : Int32) (wo : Int32) (kn : Nat → Int32) (sp : Nat → Int32) (py : Nat → Int32) (il : Nat → Int32) (fl : Nat → Int32) (wa : Nat → Int32) (so : Nat → Int32) (sd : Nat → Int32) (ro : Nat → Int32) (cp : Nat → Int32) (nr : Nat → Int32) (ti : Nat → Int32) (on : Nat → Int32) (he : Nat → Int32) (la : Nat → Int32) (post : Int32 → ((Nat → Int32)) → Prop) (K7 : Int32 → Int32 → (Nat → Int32) → Prop) (x1 : Int32) (x2 : Int32) (bo_ : Nat → Int32) : Prop := (((6 : Int32) ≤ x2 → post x1 bo_) ∧ (¬ (6 : Int32) ≤ x2 → (vp_in x2 6 ∧ K7 x1 (x2 + 1) (upd bo_ x2.toNatClampNeg (5 : Int32)))))
def v_X4_booth_0 (n : Nat) (se : Int32) (li : Int32) (wm : Int32) (ch : Int32) (ne : Int32) (np : Int32) (al : Int32) (wo : Int32) (kn : Nat → Int32) (sp : Nat → Int32) (py : Nat → Int32) (il : Nat → Int32) (fl : Nat → Int32) (wa : Nat → Int32) (bo : Nat → Int32) (so : Nat → Int32) (sd : Nat → Int32) (ro : Nat → Int32) (cp : Nat → Int32) (nr : Nat → Int32) (ti : Nat → Int32) (on : Nat → Int32) (he : Nat → Int32) (la : Nat → Int32) (post : Int32 → (Unit) → Prop) (a1 : Int32) : Prop := (((bI (inR a1 0 (nI n - 1))) = 0 → post (-2 : Int32) ()) ∧ (¬ (bI (inR a1 0 (nI n - 1))) = 0 → (vp_in a1 6 ∧ post (bo a1.toNatClampNeg) ())))
def v_X4_lacking_0 (n : Nat) (se : Int32) (li : Int32) (wm : Int32) (ch : Int32) (ne : Int32) (np : Int32) (al : Int32) (wo : Int32) (kn : Nat → Int32) (sp : Nat → Int32) (py : Nat → Int32) (il : Nat → Int32) (fl : Nat → Int32) (wa : Nat → Int32) (bo : Nat → Int32) (so : Nat → Int32) (sd : Nat → Int32) (ro : Nat → Int32) (cp : Nat → Int32) (nr : Nat → Int32) (ti : Nat → Int32) (on : Nat → Int32) (he : Nat → Int32) (la : Nat → Int32) (post : Int32 → (Unit) → Prop) (K14 : Int32 → Int32 → Int32 → Prop) (K25 : Int32 → Int32 → Int32 → Int32 → Int32 → Prop) (a1 : Int32) : Prop := (((bI (inR a1 0 1)) = 0 → post (-2 : Int32) ()) ∧ (¬ (bI (inR a1 0 1)) = 0 → K14 a1 (0 : Int32) (0 : Int32)))
def v_X4_lacking_14 (n : Nat) (se : Int32) (li : Int32) (wm : Int32) (ch : Int32) (ne : Int32) (np : Int32) (al : Int32) (wo : Int32) (kn : Nat → Int32) (sp : Nat → Int32) (py : Nat → Int32) (il : Nat → Int32) (fl : Nat → Int32) (wa : Nat → Int32) (bo : Nat → Int32) (so : Nat → Int32) (sd : Nat → Int32) (ro : Nat → Int32) (cp : Nat → Int32) (nr : Nat → Int32) (ti : Nat → Int32) (on : Nat → Int32) (he : Nat → Int32) (la : Nat → Int32) (post : Int32 → (Unit) → Prop) (K14 : Int32 → Int32 → Int32 → Prop) (K25 : Int32 → Int32 → Int32 → Int32 → Int32 → Prop) (x1 : Int32) (x2 : Int32) (x3 : Int32) : Prop := (((5 : Int32) ≤ x3 → post x2 ()) ∧ (¬ (5 : Int32) ≤ x3 → K25 x1 x2 x3 (0 : Int32) (0 : Int32)))
def v_X4_lacking_65 (n : Nat) (se : Int32) (li : Int32) (wm : Int32) (ch : Int32) (ne : Int32) (np : Int32) (al : Int32) (wo : Int32) (kn : Nat → Int32) (sp : Nat → Int32) (py : Nat → Int32) (il : Nat → Int32) (fl : Nat → Int32) (wa : Nat → Int32) (bo : Nat → Int32) (so : Nat → Int32) (sd : Nat → Int32) (ro : Nat → Int32) (cp : Nat → Int32) (nr : Nat → Int32) (ti : Nat → Int32) (on : Nat → Int32) (he : Nat → Int32) (la : Nat → Int32) (post : Int32 → (Unit) → Prop) (K14 : Int32 → Int32 → Int32 → Prop) (K25 : Int32 → Int32 → Int32 → Int32 → Int32 → Prop) (x1 : Int32) (x2 : Int32) (x3 : Int32) (x5 : Int32) (s0 : Int32) (s1 : Int32) : Prop := K25 x1 x2 x3 (s1 + s0) (x5 + 1)
def v_X4_lacking_64 (n : Nat) (se : Int32) (li : Int32) (wm : Int32) (ch : Int32) (ne : Int32) (np : Int32) (al : Int32) (wo : Int32) (kn : Nat → Int32) (sp : Nat → Int32) (py : Nat → Int32) (il : Nat → Int32) (fl : Nat → Int32) (wa : Nat → Int32) (bo : Nat → Int32) (so : Nat → Int32) (sd : Nat → Int32) (ro : Nat → Int32) (cp : Nat → Int32) (nr : Nat → Int32) (ti : Nat → Int32) (on : Nat → Int32) (he : Nat → Int32) (la : Nat → Int32) (post : Int32 → (Unit) → Prop) (K14 : Int32 → Int32 → Int32 → Prop) (K25 : Int32 → Int32 → Int32 → Int32 → Int32 → Prop) (x1 : Int32) (x2 : Int32) (x3 : Int32) (x5 : Int32) (s0 : Int32) : Prop := v_X4_lacking_65 n se li wm ch ne np al wo kn sp py il fl wa bo so sd ro cp nr ti on he la post K14 K25 x1 x2 x3 x5 (0 : Int32) s0
def v_X4_lacking_104 (n : Nat) (se : Int32) (li : Int32) (wm : Int32) (ch : Int32) (ne : Int32) (np : Int32) (al : Int32) (wo : Int32) (kn : Nat → Int32) (sp : Nat → Int32) (py : Nat → Int32) (il : Nat → Int32) (fl : Nat → Int32) (wa : Nat → Int32) (bo : Nat → Int32) (so : Nat → Int32) (sd : Nat → Int32) (ro : Nat → Int32) (cp : Nat → Int32) (nr : Nat → Int32) (ti : Nat → Int32) (on : Nat → Int32) (he : Nat → Int32) (la : Nat → Int32) (post : Int32 → (Unit) → Prop) (K14 : Int32 → Int32 → Int32 → Prop) (K25 : Int32 → Int32 → Int32 → Int32 → Int32 → Prop) (x1 : Int32) (x3 : Int32) (s0 : Int32) (s1 : Int32) : Prop := K14 x1 (s1 ||| s0) (x3 + 1)
def v_X4_lacking_103 (n : Nat) (se : Int32) (li : Int32) (wm : Int32) (ch : Int32) (ne : Int32) (np : Int32) (al : Int32) (wo : Int32) (kn : Nat → Int32) (sp : Nat → Int32) (py : Nat → Int32) (il : Nat → Int32) (fl : Nat → Int32) (wa : Nat → Int32) (bo : Nat → Int32) (so : Nat → Int32) (sd : Nat → Int32) (ro : Nat → Int32) (cp : Nat → Int32) (nr : Nat → Int32) (ti : Nat → Int32) (on : Nat → Int32) (he : Nat → Int32) (la : Nat → Int32) (post : Int32 → (Unit) → Prop) (K14 : Int32 → Int32 → Int32 → Prop) (K25 : Int32 → Int32 → Int32 → Int32 → Int32 → Prop) (x1 : Int32) (x3 : Int32) (s0 : Int32) : Prop := v_X4_lacking_104 n se li wm ch ne np al wo kn sp py il fl wa bo so sd ro cp nr ti on he la post K14 K25 x1 x3 (0 : Int32) s0
def v_X4_lacking_25 (n : Nat) (se : Int32) (li : Int32) (wm : Int32) (ch : Int32) (ne : Int32) (np : Int32) (al : Int32) (wo : Int32) (kn : Nat → Int32) (sp : Nat → Int32) (py : Nat → Int32) (il : Nat → Int32) (fl : Nat → Int32) (wa : Nat → Int32) (bo : Nat → Int32) (so : Nat → Int32) (sd : Nat → Int32) (ro : Nat → Int32) (cp : Nat → Int32) (nr : Nat → Int32) (ti : Nat → Int32) (on : Nat → Int32) (he : Nat → Int32) (la : Nat → Int32) (post : Int32 → (Unit) → Prop) (K14 : Int32 → Int32 → Int32 → Prop) (K25 : Int32 → Int32 → Int32 → Int32 → Int32 → Prop) (x1 : Int32) (x2 : Int32) (x3 : Int32) (x4 : Int32) (x5 : Int32) : Prop := (((nI n) ≤ x5 → (vp_in x1 2 ∧ (((bI (hs (wa x1.toNatClampNeg) x3)) = 0 → v_X4_lacking_103 n se li wm ch ne np al wo kn sp py il fl wa bo so sd ro cp nr ti on he la post K14 K25 x1 x3 x2) ∧ (¬ (bI (hs (wa x1.toNatClampNeg) x3)) = 0 → ((se ≤ x4 → v_X4_lacking_103 n se li wm ch ne np al wo kn sp py il fl wa bo so sd ro cp nr ti on he la post K14 K25 x1 x3 x2) ∧ (¬ se ≤ x4 → v_X4_lacking_104 n se li wm ch ne np al wo kn sp py il fl wa bo so sd ro cp nr ti on he la post K14 K25 x1 x3 ((1 : Int32) <<< (x3 &&& 31)) x2)))))) ∧ (¬ (nI n) ≤ x5 → (vp_in x5 6 ∧ (((il x5.toNatClampNeg) = 0 → (vp_in x5 6 ∧ (((bI (hs (sp x5.toNatClampNeg) x3)) = 0 → v_X4_lacking_64 n se li wm ch ne np al wo kn sp py il fl wa bo so sd ro cp nr ti on he la post K14 K25 x1 x2 x3 x5 x4) ∧ (¬ (bI (hs (sp x5.toNatClampNeg) x3)) = 0 → v_X4_lacking_65 n se li wm ch ne np al wo kn sp py il fl wa bo so sd ro cp nr ti on he la post K14 K25 x1 x2 x3 x5 (1 : Int32) x4)))) ∧ (¬ (il x5.toNatClampNeg) = 0 → v_X4_lacking_64 n se li wm ch ne np al wo kn sp py il fl wa bo so sd ro cp nr ti on he la post K14 K25 x1 x2 x3 x5 x4)))))
def v_X4_needed_0 (n : Nat) (se : Int32) (li : Int32) (wo : Int32) (kn : Nat → Int32) (sp : Nat → Int32) (py : Nat → Int32) (il : Nat → Int32) (fl : Nat → Int32) (wa : Nat → Int32) (bo : Nat → Int32) (so : Nat → Int32) (sd : Nat → Int32) (ti : Nat → Int32) (on : Nat → Int32) (he : Nat → Int32) (la : Nat → Int32) (post : Int32 → (Int32 × Int32 × Int32 × Int32 × Int32 × (Nat → Int32) × (Nat → Int32) × (Nat → Int32)) → Prop) (a1 : Int32) (a2 : Int32) (wm : Int32) (ch : Int32) (ne : Int32) (np : Int32) (al : Int32) (ro : Nat → Int32) (cp : Nat → Int32) (nr : Nat → Int32) : Prop := (((bI (inR a1 0 (nI n - 1))) = 0 → post (-2 : Int32) (wm, ch, ne, np, al, ro, cp, nr)) ∧ (¬ (bI (inR a1 0 (nI n - 1))) = 0 → (((bI (inR a2 0 1)) = 0 → post (-2 : Int32) (wm, ch, ne, np, al, ro, cp, nr)) ∧ (¬ (bI (inR a2 0 1)) = 0 → ((inB a2 2 = true) ∧ (∀ u20 : Int32 × Int32 × Int32 × Int32 × Int32 × (Nat → Int32) × (Nat → Int32) × (Nat → Int32), u20 = ftF n kn sp py il fl wa bo se a2 (wm, ch, ne, np, al, ro, cp, nr) → ((u20.1 ≤ 0 → post (0 : Int32) (u20.1, u20.2.1, u20.2.2.1, u20.2.2.2.1, u20.2.2.2.2.1, u20.2.2.2.2.2.1, u20.2.2.2.2.2.2.1, u20.2.2.2.2.2.2.2)) ∧ (¬ u20.1 ≤ 0 → (((bI (hs u20.2.2.2.2.1 a1)) = 0 → post (0 : Int32) (u20.1, u20.2.1, u20.2.2.1, u20.2.2.2.1, u20.2.2.2.2.1, u20.2.2.2.2.2.1, u20.2.2.2.2.2.2.1, u20.2.2.2.2.2.2.2)) ∧ (¬ (bI (hs u20.2.2.2.2.1 a1)) = 0 → post (1 : Int32) (u20.1, u20.2.1, u20.2.2.1, u20.2.2.2.1, u20.2.2.2.2.1, u20.2.2.2.2.2.1, u20.2.2.2.2.2.2.1, u20.2.2.2.2.2.2.2)))))))))))
def v_X4_speak_0 (n : Nat) (se : Int32) (li : Int32) (wm : Int32) (ch : Int32) (ne : Int32) (np : Int32) (al : Int32) (wo : Int32) (kn : Nat → Int32) (sp : Nat → Int32) (py : Nat → Int32) (il : Nat → Int32) (fl : Nat → Int32) (wa : Nat → Int32) (bo : Nat → Int32) (ro : Nat → Int32) (cp : Nat → Int32) (nr : Nat → Int32) (ti : Nat → Int32) (on : Nat → Int32) (he : Nat → Int32) (la : Nat → Int32) (post : Int32 → ((Nat → Int32) × (Nat → Int32)) → Prop) (a1 : Int32) (a2 : Int32) (a3 : Int32) (so : Nat → Int32) (sd : Nat → Int32) : Prop := (((bI (inR a1 0 15)) = 0 → post (-2 : Int32) (so, sd)) ∧ (¬ (bI (inR a1 0 15)) = 0 → (((bI (inR a2 0 4)) = 0 → post (-2 : Int32) (so, sd)) ∧ (¬ (bI (inR a2 0 4)) = 0 → (((bI (inR a3 (1 : Int32) (9 : Int32))) = 0 → post (-3 : Int32) (so, sd)) ∧ (¬ (bI (inR a3 (1 : Int32) (9 : Int32))) = 0 → (vp_in a1 16 ∧ (vp_in a1 16 ∧ post (1 : Int32) (upd so a1.toNatClampNeg a2, upd sd a1.toNatClampNeg a3)))))))))
def v_X4_silence_25 (n : Nat) (se : Int32) (li : Int32) (wm : Int32) (ch : Int32) (ne : Int32) (np : Int32) (al : Int32) (wo : Int32) (kn : Nat → Int32) (sp : Nat → Int32) (py : Nat → Int32) (il : Nat → Int32) (fl : Nat → Int32) (wa : Nat → Int32) (bo : Nat → Int32) (sd : Nat → Int32) (ro : Nat → Int32) (cp : Nat → Int32) (nr : Nat → Int32) (ti : Nat → Int32) (on : Nat → Int32) (he : Nat → Int32) (la : Nat → Int32) (post : Int32 → ((Nat → Int32)) → Prop) (x1 : Int32) (s0 : Int32) (so_ : Nat → Int32) : Prop := (vp_in x1 16 ∧ post s0 (upd so_ x1.toNatClampNeg (-1 : Int32)))
def v_X4_silence_0 (n : Nat) (se : Int32) (li : Int32) (wm : Int32) (ch : Int32) (ne : Int32) (np : Int32) (al : Int32) (wo : Int32) (kn : Nat → Int32) (sp : Nat → Int32) (py : Nat → Int32) (il : Nat → Int32) (fl : Nat → Int32) (wa : Nat → Int32) (bo : Nat → Int32) (sd : Nat → Int32) (ro : Nat → Int32) (cp : Nat → Int32) (nr : Nat → Int32) (ti : Nat → Int32) (on : Nat → Int32) (he : Nat → Int32) (la : Nat → Int32) (post : Int32 → ((Nat → Int32)) → Prop) (a1 : Int32) (so : Nat → Int32) : Prop := (((bI (inR a1 0 15)) = 0 → post (-2 : Int32) so) ∧ (¬ (bI (inR a1 0 15)) = 0 → (vp_in a1 16 ∧ (((so a1.toNatClampNeg) = (-1 : Int32) → v_X4_silence_25 n se li wm ch ne np al wo kn sp py il fl wa bo sd ro cp nr ti on he la post  a1 (0 : Int32) so) ∧ (¬ (so a1.toNatClampNeg) = (-1 : Int32) → v_X4_silence_25 n se li wm ch ne np al wo kn sp py il fl wa bo sd ro cp nr ti on he la post  a1 (1 : Int32) so)))))
def v_X4_limit_0 (n : Nat) (se : Int32) (wm : Int32) (ch : Int32) (ne : Int32) (np : Int32) (al : Int32) (wo : Int32) (kn : Nat → Int32) (sp : Nat → Int32) (py : Nat → Int32) (il : Nat → Int32) (fl : Nat → Int32) (wa : Nat → Int32) (bo : Nat → Int32) (so : Nat → Int32) (sd : Nat → Int32) (ro : Nat → Int32) (cp : Nat → Int32) (nr : Nat → Int32) (ti : Nat → Int32) (on : Nat → Int32) (he : Nat → Int32) (la : Nat → Int32) (post : Int32 → (Int32) → Prop) (a1 : Int32) (li : Int32) : Prop := (((bI (inR a1 (5 : Int32) (60 : Int32))) = 0 → post (-3 : Int32) li) ∧ (¬ (bI (inR a1 (5 : Int32) (60 : Int32))) = 0 → post li a1))
def v_X4_knowsIt_0 (n : Nat) (se : Int32) (li : Int32) (wm : Int32) (ch : Int32) (ne : Int32) (np : Int32) (al : Int32) (wo : Int32) (kn : Nat → Int32) (sp : Nat → Int32) (py : Nat → Int32) (il : Nat → Int32) (fl : Nat → Int32) (wa : Nat → Int32) (bo : Nat → Int32) (so : Nat → Int32) (sd : Nat → Int32) (ro : Nat → Int32) (cp : Nat → Int32) (nr : Nat → Int32) (ti : Nat → Int32) (on : Nat → Int32) (he : Nat → Int32) (la : Nat → Int32) (post : Int32 → (Unit) → Prop) (a1 : Int32) (a2 : Int32) : Prop := ((a1 = (-1 : Int32) → post (0 : Int32) ()) ∧ (¬ a1 = (-1 : Int32) → (vp_in a1 6 ∧ (((bI (hs (kn a1.toNatClampNeg) a2)) = 0 → post (0 : Int32) ()) ∧ (¬ (bI (hs (kn a1.toNatClampNeg) a2)) = 0 → post (1 : Int32) ())))))
end
section
theorem h_X4_in (a0 : Int32) (a1 : Int32) (a2 : Int32) : v_X4_in_0  (fun r _ => r = bI (inR a0 a1 a2))  a0 a1 a2 := by
  unfold v_X4_in_0
  refine ⟨fun h => ?_, fun h => ⟨fun h2 => ?_, fun h2 => ?_⟩⟩ <;> simp [inR, bI, *]
theorem h_X4_has (a0 : Int32) (a1 : Int32) : v_X4_has_0  (fun r _ => r = bI (hs a0 a1))  a0 a1 := by
  unfold v_X4_has_0
  refine ⟨fun h => ?_, fun h => ?_⟩ <;> simp [hs, h, bI]
theorem h_X4_isSession (a0 : Int32) : v_X4_isSession_0  (fun r _ => r = bI (inR a0 0 1))  a0 := by
  unfold v_X4_isSession_0
  rfl
theorem h_X4_isTongue (a0 : Int32) : v_X4_isTongue_0  (fun r _ => r = bI (inR a0 0 4))  a0 := by
  unfold v_X4_isTongue_0
  rfl
theorem h_X4_isHalf (a0 : Int32) : v_X4_isHalf_0  (fun r _ => r = bI (inR a0 0 15))  a0 := by
  unfold v_X4_isHalf_0
  rfl
theorem h_X4_isPerson (n : Nat) (se : Int32) (li : Int32) (wm : Int32) (ch : Int32) (ne : Int32) (np : Int32) (al : Int32) (wo : Int32) (kn : Nat → Int32) (sp : Nat → Int32) (py : Nat → Int32) (il : Nat → Int32) (fl : Nat → Int32) (wa : Nat → Int32) (bo : Nat → Int32) (so : Nat → Int32) (sd : Nat → Int32) (ro : Nat → Int32) (cp : Nat → Int32) (nr : Nat → Int32) (ti : Nat → Int32) (on : Nat → Int32) (he : Nat → Int32) (la : Nat → Int32) (a1 : Int32) (hn : n ≤ 6) : v_X4_isPerson_0 n se li wm ch ne np al wo kn sp py il fl wa bo so sd ro cp nr ti on he la (fun r _ => r = bI (inR a1 0 (nI n - 1)))  a1 := by
  unfold v_X4_isPerson_0
  rfl
theorem h_X4_person (n : Nat) (se : Int32) (li : Int32) (wm : Int32) (ch : Int32) (ne : Int32) (np : Int32) (al : Int32) (wo : Int32) (il : Nat → Int32) (fl : Nat → Int32) (wa : Nat → Int32) (bo : Nat → Int32) (so : Nat → Int32) (sd : Nat → Int32) (ro : Nat → Int32) (cp : Nat → Int32) (nr : Nat → Int32) (ti : Nat → Int32) (on : Nat → Int32) (he : Nat → Int32) (la : Nat → Int32) (kn : Nat → Int32) (sp : Nat → Int32) (py : Nat → Int32) (a1 : Int32) (a2 : Int32) (a3 : Int32) (hn : n ≤ 6) : v_X4_person_0 n se li wm ch ne np al wo il fl wa bo so sd ro cp nr ti on he la (fun r u => r = (if rOk a1 a2 a3 = true then (if n < 6 then nI n else (-5)) else (-3)) ∧ u = (nI (if (rOk a1 a2 a3 && decide (n < 6)) = true then n + 1 else n), (if (rOk a1 a2 a3 && decide (n < 6)) = true then upd kn n a1 else kn), (if (rOk a1 a2 a3 && decide (n < 6)) = true then upd sp n a2 else sp), (if (rOk a1 a2 a3 && decide (n < 6)) = true then upd py n a3 else py)))  a1 a2 a3 kn sp py := by
  unfold v_X4_person_0
  have e6 : (6 : Int32) = nI 6 := rfl
  simp only [bI_0, Bool.not_eq_false]
  refine ⟨fun h => ?_, fun h => ⟨fun h2 => ?_, fun h2 => ⟨fun h3 => ⟨fun h4 => ?_, fun h4 => ⟨fun h5 => ?_, fun h5 => ?_⟩⟩, fun h3 => ?_⟩⟩⟩
  · have e : rOk a1 a2 a3 = false := by simp [rOk, h]
    simp [e]
  · have e : rOk a1 a2 a3 = false := by simp [rOk, h2]
    simp [e]
  · have e : rOk a1 a2 a3 = false := by simp [rOk, h4]
    simp [e]
  · have e : rOk a1 a2 a3 = true := by simp only [rOk, h, h2, h3, h4, eq_self, decide_true, Bool.and_self]
    rw [e6, nI_eq (by omega) (by omega)] at h5
    subst h5
    simp [e]
  · have e : rOk a1 a2 a3 = true := by simp only [rOk, h, h2, h3, h4, eq_self, decide_true, Bool.and_self]
    rw [e6, nI_eq (by omega) (by omega)] at h5
    have h6 : n < 6 := by omega
    have hv : vp_in (nI n) 6 := vp_in_nI h6 (by omega)
    refine ⟨hv, hv, hv, ?_⟩
    rw [nI_1, nI_pred, nI_clamp (by omega)]
    simp [e, h6]
  · have e : rOk a1 a2 a3 = false := by simp only [rOk, h3, decide_false, Bool.false_and, Bool.and_false]
    simp [e]
theorem h_X4_ill (n : Nat) (se : Int32) (li : Int32) (wm : Int32) (ch : Int32) (ne : Int32) (np : Int32) (al : Int32) (wo : Int32) (kn : Nat → Int32) (sp : Nat → Int32) (py : Nat → Int32) (fl : Nat → Int32) (wa : Nat → Int32) (bo : Nat → Int32) (so : Nat → Int32) (sd : Nat → Int32) (ro : Nat → Int32) (cp : Nat → Int32) (nr : Nat → Int32) (ti : Nat → Int32) (on : Nat → Int32) (he : Nat → Int32) (la : Nat → Int32) (il : Nat → Int32) (a1 : Int32) (a2 : Int32) (hn : n ≤ 6) : v_X4_ill_0 n se li wm ch ne np al wo kn sp py fl wa bo so sd ro cp nr ti on he la (fun r u => r = (if inR a1 0 (nI n - 1) = true then (if il a1.toNatClampNeg = 0 then 0 else 1) else (-2)) ∧ u = (if inR a1 0 (nI n - 1) = true then upd il a1.toNatClampNeg (vp_nar .boolean a2) else il))  a1 a2 il := by
  unfold v_X4_ill_0
  simp only [bI_0, Bool.not_eq_false]
  refine ⟨fun h => ?_, fun h => ?_⟩
  · simp [h]
  · have hv : vp_in a1 6 := inB_in (n := n) (by rw [← inR_p hn]; exact h) hn (by omega)
    refine ⟨hv, hv, fun h2 => ?_, fun h2 => ?_⟩
    · simp [h, h2]
    · simp [h, h2]
theorem h_X4_session (n : Nat) (se : Int32) (li : Int32) (wm : Int32) (ch : Int32) (ne : Int32) (np : Int32) (al : Int32) (wo : Int32) (kn : Nat → Int32) (sp : Nat → Int32) (py : Nat → Int32) (il : Nat → Int32) (bo : Nat → Int32) (so : Nat → Int32) (sd : Nat → Int32) (ro : Nat → Int32) (cp : Nat → Int32) (nr : Nat → Int32) (ti : Nat → Int32) (on : Nat → Int32) (he : Nat → Int32) (la : Nat → Int32) (fl : Nat → Int32) (wa : Nat → Int32) (a1 : Int32) (a2 : Int32) (a3 : Int32) (hn : n ≤ 6) : v_X4_session_0 n se li wm ch ne np al wo kn sp py il bo so sd ro cp nr ti on he la (fun r u => r = (if inR a1 0 1 = true then (if (inR a2 0 31 && inR a3 0 31) = true then 1 else (-3)) else (-2)) ∧ u = ((if (inR a1 0 1 && (inR a2 0 31 && inR a3 0 31)) = true then upd fl a1.toNatClampNeg a2 else fl), (if (inR a1 0 1 && (inR a2 0 31 && inR a3 0 31)) = true then upd wa a1.toNatClampNeg a3 else wa)))  a1 a2 a3 fl wa := by
  unfold v_X4_session_0
  simp only [bI_0, Bool.not_eq_false]
  refine ⟨fun h => ?_, fun h => ⟨fun h2 => ?_, fun h2 => ⟨fun h3 => ?_, fun h3 => ?_⟩⟩⟩
  · simp [h]
  · simp [h, h2]
  · simp [h, h3]
  · have hv : vp_in a1 2 := inB_in (n := 2) (by rw [← inR_b (m := 1) (by omega)]; exact h) (Nat.le_refl _) (by omega)
    refine ⟨hv, hv, ?_⟩
    simp [h, h2, h3]
theorem h_X4_seats (n : Nat) (li : Int32) (wm : Int32) (ch : Int32) (ne : Int32) (np : Int32) (al : Int32) (wo : Int32) (kn : Nat → Int32) (sp : Nat → Int32) (py : Nat → Int32) (il : Nat → Int32) (fl : Nat → Int32) (wa : Nat → Int32) (bo : Nat → Int32) (so : Nat → Int32) (sd : Nat → Int32) (ro : Nat → Int32) (cp : Nat → Int32) (nr : Nat → Int32) (ti : Nat → Int32) (on : Nat → Int32) (he : Nat → Int32) (la : Nat → Int32) (se : Int32) (a1 : Int32) (hn : n ≤ 6) : v_X4_seats_0 n li wm ch ne np al wo kn sp py il fl wa bo so sd ro cp nr ti on he la (fun r u => r = (if inR a1 1 2 = true then se else (-3)) ∧ u = (if inR a1 1 2 = true then a1 else se))  a1 se := by
  unfold v_X4_seats_0
  simp only [bI_0, Bool.not_eq_false]
  refine ⟨fun h => ?_, fun h => ?_⟩ <;> simp [h]
theorem h_X4_isTeam (n : Nat) (se : Int32) (li : Int32) (wm : Int32) (ch : Int32) (ne : Int32) (np : Int32) (al : Int32) (wo : Int32) (kn : Nat → Int32) (sp : Nat → Int32) (py : Nat → Int32) (il : Nat → Int32) (fl : Nat → Int32) (wa : Nat → Int32) (bo : Nat → Int32) (so : Nat → Int32) (sd : Nat → Int32) (ro : Nat → Int32) (cp : Nat → Int32) (nr : Nat → Int32) (ti : Nat → Int32) (on : Nat → Int32) (he : Nat → Int32) (la : Nat → Int32) (a1 : Int32) (hn : n ≤ 6) (h0 : inB a1 2 = true) (K4 : Int32 → Int32 → Int32 → Prop) (K85 : Int32 → Int32 → Int32 → Prop) (K100 : Int32 → Int32 → Int32 → Int32 → Prop) (R4 : ∀ x1 x2 x3, v_X4_isTeam_4 n se li wm ch ne np al wo kn sp py il fl wa bo so sd ro cp nr ti on he la (fun r _ => r = bI (itF n sp il (wa a1.toNatClampNeg) se ro)) K4 K85 K100 x1 x2 x3 → K4 x1 x2 x3) (R85 : ∀ x1 x2 x3, v_X4_isTeam_85 n se li wm ch ne np al wo kn sp py il fl wa bo so sd ro cp nr ti on he la (fun r _ => r = bI (itF n sp il (wa a1.toNatClampNeg) se ro)) K4 K85 K100 x1 x2 x3 → K85 x1 x2 x3) (R100 : ∀ x1 x3 x4 x5, v_X4_isTeam_100 n se li wm ch ne np al wo kn sp py il fl wa bo so sd ro cp nr ti on he la (fun r _ => r = bI (itF n sp il (wa a1.toNatClampNeg) se ro)) K4 K85 K100 x1 x3 x4 x5 → K100 x1 x3 x4 x5) : v_X4_isTeam_0 n se li wm ch ne np al wo kn sp py il fl wa bo so sd ro cp nr ti on he la (fun r _ => r = bI (itF n sp il (wa a1.toNatClampNeg) se ro)) K4 K85 K100 a1 := by
  unfold v_X4_isTeam_0
  have hv : vp_in a1 2 := inB_in (n := 2) h0 (Nat.le_refl _) (by omega)
  generalize hw0 : wa a1.toNatClampNeg = w at *
  -- the booths' loop
  have key2 : K85 a1 (bI (itA sp il w ro n)) (0 : Int32) := by
    have k2 := up_ind (fun t => K85 a1 (bI (itA sp il w ro n && itB n w se ro t)) (nI t)) 5 (R85 _ _ _ ?_) (fun t ht ih => R85 _ _ _ ?_)
    · have e0 : (itA sp il w ro n && itB n w se ro 0) = itA sp il w ro n := by simp [itB]
      have k2b : K85 a1 (bI (itA sp il w ro n && itB n w se ro 0)) (nI 0) := k2
      rw [e0] at k2b
      exact k2b
    · refine ⟨fun _ => ⟨bI_nar _, rfl⟩, fun h => absurd (nI_le (a := 5) (b := 5) (Nat.le_refl _) (by omega)) h⟩
    · refine ⟨fun h => absurd h (nI_ge (b := 5) ht (by omega)), fun _ => ?_⟩
      simp only [bI_0, Bool.not_eq_false]
      refine ⟨fun hf => ⟨bI_nar _, ?_⟩, fun hf => ?_⟩
      · have e : (itA sp il w ro n && itB n w se ro 5) = false := by
          rcases Bool.and_eq_false_iff.mp hf with q | q
          · simp [q]
          · simp [itB_no q 5 (by omega)]
        rw [hf, itF, e]
      · have k3 := up_ind (fun k => K100 a1 (nI t) (cnT ro (nI t) k) (nI k)) n (R100 _ _ _ _ ?_) (fun k hk ih3 => R100 _ _ _ _ ?_)
        · exact k3
        · refine ⟨fun _ => ⟨hv, ?_⟩, fun h => absurd (nI_le (Nat.le_refl _) (by omega)) h⟩
          rw [hw0]
          simp only [bI_0, Bool.not_eq_false, v_X4_isTeam_158, v_X4_isTeam_163, nI_1]
          refine ⟨fun g => ?_, fun g => ⟨fun g2 => ?_, fun g2 => ?_⟩⟩
          · have e : (itA sp il w ro n && itB n w se ro (t + 1)) = true := by
              rw [Bool.and_eq_true] at hf ⊢
              exact ⟨hf.1, by simp [itB, hf.2, g]⟩
            rw [e] at ih; exact ih
          · have e : (itA sp il w ro n && itB n w se ro (t + 1)) = true := by
              rw [Bool.and_eq_true] at hf ⊢
              exact ⟨hf.1, by simp [itB, hf.2, g2]⟩
            rw [e] at ih; exact ih
          · have e : (itA sp il w ro n && itB n w se ro (t + 1)) = false := by simp [itB, g, g2]
            rw [e] at ih; exact ih
        · refine ⟨fun h => absurd h (nI_ge hk (by omega)), fun _ => ⟨vp_in_nI (by omega) (by omega), ?_⟩⟩
          have ec : (nI k).toNatClampNeg = k := nI_clamp (by omega)
          simp only [v_X4_isTeam_127, nI_1, ec]
          refine ⟨fun g => ?_, fun g => ?_⟩
          · simpa only [cnT, sI, if_pos g] using ih3
          · simpa only [cnT, sI, if_neg g] using ih3
  have key := up_ind (fun k => K4 a1 (bI (itA sp il w ro k)) (nI k)) n (R4 _ _ _ ?_) (fun k hk ih => R4 _ _ _ ?_)
  · exact key
  · exact ⟨fun _ => key2, fun h => absurd (nI_le (Nat.le_refl _) (by omega)) h⟩
  · refine ⟨fun h => absurd h (nI_ge hk (by omega)), fun _ => ?_⟩
    have ec : (nI k).toNatClampNeg = k := nI_clamp (by omega)
    have h6 : vp_in (nI k) 6 := vp_in_nI (by omega) (by omega)
    simp only [bI_0, Bool.not_eq_false, v_X4_isTeam_83, v_X4_isTeam_71, v_X4_isTeam_75, v_X4_isTeam_76, nI_1, ec, hw0]
    refine ⟨fun hf => ?_, fun hf => ⟨h6, fun g => ?_, fun g => ⟨hv, h6, fun g2 => ?_, fun g2 => ⟨h6, h6, fun g3 => ?_, fun g3 => ⟨h6, fun g4 => ?_, fun g4 => ?_⟩⟩⟩⟩⟩
    · have e := itA_no hf n (by omega)
      rw [hf]; rw [e] at key2; exact key2
    · have e : itA sp il w ro (k + 1) = true := by simp [itA, hf, g]
      rw [e] at ih; exact ih
    · have e : itA sp il w ro (k + 1) = false := by simp [itA, g, g2]
      rw [e] at ih; exact ih
    · have e : itA sp il w ro (k + 1) = false := by simp [itA, g, g3]
      rw [e] at ih; exact ih
    · have e : itA sp il w ro (k + 1) = true := by simp [itA, hf, g2, g3, g4]
      rw [e] at ih; exact ih
    · have e : itA sp il w ro (k + 1) = false := by simp [itA, g, g4]
      rw [e] at ih; exact ih
theorem h_X4_allKnow (n : Nat) (se : Int32) (li : Int32) (wm : Int32) (ch : Int32) (ne : Int32) (np : Int32) (al : Int32) (wo : Int32) (kn : Nat → Int32) (sp : Nat → Int32) (py : Nat → Int32) (il : Nat → Int32) (fl : Nat → Int32) (wa : Nat → Int32) (bo : Nat → Int32) (so : Nat → Int32) (sd : Nat → Int32) (ro : Nat → Int32) (cp : Nat → Int32) (nr : Nat → Int32) (ti : Nat → Int32) (on : Nat → Int32) (he : Nat → Int32) (la : Nat → Int32) (a1 : Int32) (a2 : Int32) (hn : n ≤ 6) (K5 : Int32 → Int32 → Int32 → Int32 → Prop) (R5 : ∀ x1 x2 x3 x4, v_X4_allKnow_5 n se li wm ch ne np al wo kn sp py il fl wa bo so sd ro cp nr ti on he la (fun r _ => r = bI (akF kn ro a1 a2 n)) K5 x1 x2 x3 x4 → K5 x1 x2 x3 x4) : v_X4_allKnow_0 n se li wm ch ne np al wo kn sp py il fl wa bo so sd ro cp nr ti on he la (fun r _ => r = bI (akF kn ro a1 a2 n)) K5 a1 a2 := by
  unfold v_X4_allKnow_0
  have key := up_ind (fun k => K5 a1 a2 (bI (akF kn ro a1 a2 k)) (nI k)) n (R5 _ _ _ _ ?_) (fun k hk ih => R5 _ _ _ _ ?_)
  · exact key
  · exact ⟨fun _ => ⟨bI_nar _, rfl⟩, fun h => absurd (nI_le (Nat.le_refl _) (by omega)) h⟩
  · refine ⟨fun h => absurd h (nI_ge hk (by omega)), fun _ => ?_⟩
    have ec : (nI k).toNatClampNeg = k := nI_clamp (by omega)
    have h6 : vp_in (nI k) 6 := vp_in_nI (by omega) (by omega)
    simp only [bI_0, Bool.not_eq_false, v_X4_allKnow_47, v_X4_allKnow_43, v_X4_allKnow_48, nI_1, ec]
    refine ⟨fun hf => ?_, fun hf => ⟨h6, fun g => ⟨h6, fun g2 => ?_, fun g2 => ?_⟩, fun g => ?_⟩⟩
    · have e : akF kn ro a1 a2 (k + 1) = false := by simp [akF, hf]
      rw [e] at ih; exact ih
    · have e : akF kn ro a1 a2 (k + 1) = false := by simp [akF, g, g2]
      rw [e] at ih; exact ih
    · have e : akF kn ro a1 a2 (k + 1) = true := by simp [akF, hf, g2]
      rw [e] at ih; exact ih
    · have e : akF kn ro a1 a2 (k + 1) = true := by simp [akF, hf, g]
      rw [e] at ih; exact ih
theorem h_X4_isWhole (n : Nat) (se : Int32) (li : Int32) (wm : Int32) (ch : Int32) (ne : Int32) (np : Int32) (al : Int32) (wo : Int32) (kn : Nat → Int32) (sp : Nat → Int32) (py : Nat → Int32) (il : Nat → Int32) (fl : Nat → Int32) (wa : Nat → Int32) (bo : Nat → Int32) (so : Nat → Int32) (sd : Nat → Int32) (ro : Nat → Int32) (cp : Nat → Int32) (nr : Nat → Int32) (ti : Nat → Int32) (on : Nat → Int32) (he : Nat → Int32) (la : Nat → Int32) (a1 : Int32) (hn : n ≤ 6) (h0 : inB a1 2 = true) (K4 : Int32 → Int32 → Int32 → Prop) (K12 : Int32 → Int32 → Int32 → Int32 → Prop) (K63 : Int32 → Int32 → Int32 → Int32 → Int32 → Int32 → Prop) (R4 : ∀ x1 x2 x3, v_X4_isWhole_4 n se li wm ch ne np al wo kn sp py il fl wa bo so sd ro cp nr ti on he la (fun r _ => r = bI (iwF n kn (fl a1.toNatClampNeg) (wa a1.toNatClampNeg) ro)) K4 K12 K63 x1 x2 x3 → K4 x1 x2 x3) (R12 : ∀ x1 x2 x3 x4, v_X4_isWhole_12 n se li wm ch ne np al wo kn sp py il fl wa bo so sd ro cp nr ti on he la (fun r _ => r = bI (iwF n kn (fl a1.toNatClampNeg) (wa a1.toNatClampNeg) ro)) K4 K12 K63 x1 x2 x3 x4 → K12 x1 x2 x3 x4) (R63 : ∀ x1 x2 x3 x4 x5 x6, v_X4_isWhole_63 n se li wm ch ne np al wo kn sp py il fl wa bo so sd ro cp nr ti on he la (fun r _ => r = bI (iwF n kn (fl a1.toNatClampNeg) (wa a1.toNatClampNeg) ro)) K4 K12 K63 x1 x2 x3 x4 x5 x6 → K63 x1 x2 x3 x4 x5 x6) : v_X4_isWhole_0 n se li wm ch ne np al wo kn sp py il fl wa bo so sd ro cp nr ti on he la (fun r _ => r = bI (iwF n kn (fl a1.toNatClampNeg) (wa a1.toNatClampNeg) ro)) K4 K12 K63 a1 := by
  unfold v_X4_isWhole_0
  have hv : vp_in a1 2 := inB_in (n := 2) h0 (Nat.le_refl _) (by omega)
  generalize hw0 : wa a1.toNatClampNeg = w at *
  generalize hf0 : fl a1.toNatClampNeg = fw at *
  have key := up_ind (fun f => K4 a1 (bI (iwL n kn fw w ro f)) (nI f)) 5 (R4 _ _ _ ?_) (fun f hf ih => R4 _ _ _ ?_)
  · exact key
  · exact ⟨fun _ => ⟨bI_nar _, rfl⟩, fun h => absurd (nI_le (a := 5) (b := 5) (Nat.le_refl _) (by omega)) h⟩
  · refine ⟨fun h => absurd h (nI_ge (b := 5) hf (by omega)), fun _ => ?_⟩
    have k2 := up_ind (fun t => K12 a1 (bI (iwT n kn fw w ro (nI f) (iwL n kn fw w ro f) t)) (nI f) (nI t)) 5 (R12 _ _ _ _ ?_) (fun t ht ih2 => R12 _ _ _ _ ?_)
    · exact k2
    · refine ⟨fun _ => ?_, fun h => absurd (nI_le (a := 5) (b := 5) (Nat.le_refl _) (by omega)) h⟩
      rw [nI_1]; exact ih
    · refine ⟨fun h => absurd h (nI_ge (b := 5) ht (by omega)), fun _ => ⟨hv, ?_⟩⟩
      rw [hf0, hw0]
      simp only [bI_0, Bool.not_eq_false, v_X4_isWhole_150, nI_1]
      have same : (hs fw (nI f) && (hs w (nI t) && !decide (nI t = nI f))) = false → K12 a1 (bI (iwT n kn fw w ro (nI f) (iwL n kn fw w ro f) t)) (nI f) (nI (t + 1)) := by
        intro hq
        have e : iwT n kn fw w ro (nI f) (iwL n kn fw w ro f) (t + 1) = iwT n kn fw w ro (nI f) (iwL n kn fw w ro f) t := by simp [iwT, hq]
        rw [e] at ih2; exact ih2
      refine ⟨fun g => same (by simp [g]), fun g => ⟨hv, fun g2 => same (by simp [g2]), fun g2 => ⟨fun g3 => same (by simp [g3]), fun g3 => ?_⟩⟩⟩
      have hyes : (hs fw (nI f) && (hs w (nI t) && !decide (nI t = nI f))) = true := by simp [g, g2, g3]
      have e1 : iwT n kn fw w ro (nI f) (iwL n kn fw w ro f) (t + 1) = (iwT n kn fw w ro (nI f) (iwL n kn fw w ro f) t && iwR n kn w ro (nI f) (nI t) 5) := by simp [iwT, hyes]
      have k3 := up_ind (fun r => K63 a1 (bI (iwT n kn fw w ro (nI f) (iwL n kn fw w ro f) t)) (nI f) (nI t) (bI (iwR n kn w ro (nI f) (nI t) r)) (nI r)) 5 (R63 _ _ _ _ _ _ ?_) (fun r hr ih3 => R63 _ _ _ _ _ _ ?_)
      · exact k3
      · refine ⟨fun _ => ?_, fun h => absurd (nI_le (a := 5) (b := 5) (Nat.le_refl _) (by omega)) h⟩
        simp only [bI_0, Bool.not_eq_false, v_X4_isWhole_148, v_X4_isWhole_149, v_X4_isWhole_150, nI_1]
        rw [e1] at ih2
        refine ⟨fun q => ?_, fun q => ⟨fun q2 => ?_, fun q2 => ?_⟩⟩
        · rw [q] at ih2; exact ih2
        · rw [q2, Bool.and_false] at ih2; exact ih2
        · rw [q, q2] at ih2; exact ih2
      · refine ⟨fun h => absurd h (nI_ge (b := 5) hr (by omega)), fun _ => ?_⟩
        rw [hw0]
        simp only [bI_0, Bool.not_eq_false, v_X4_isWhole_126, v_X4_isWhole_122, v_X4_isWhole_127, nI_1]
        refine ⟨fun q => ⟨hv, fun q2 => ?_, fun q2 => ⟨fun q3 => ?_, fun q3 => ⟨fun q4 => ?_, fun q4 => ⟨fun q5 => ?_, fun q5 => ⟨fun q6 => ?_, fun q6 => ?_⟩⟩⟩⟩⟩, fun q => ?_⟩
        · have e : iwR n kn w ro (nI f) (nI t) (r + 1) = false := by simp [iwR, q, iwC, q2]
          rw [e] at ih3; exact ih3
        · have e : iwR n kn w ro (nI f) (nI t) (r + 1) = false := by simp [iwR, q, iwC, q3]
          rw [e] at ih3; exact ih3
        · have e : iwR n kn w ro (nI f) (nI t) (r + 1) = false := by simp [iwR, q, iwC, q4]
          rw [e] at ih3; exact ih3
        · have e : iwR n kn w ro (nI f) (nI t) (r + 1) = false := by simp [iwR, q, iwC, q5]
          rw [e] at ih3; exact ih3
        · have e : iwR n kn w ro (nI f) (nI t) (r + 1) = false := by simp [iwR, q, iwC, q6]
          rw [e] at ih3; exact ih3
        · have e : iwR n kn w ro (nI f) (nI t) (r + 1) = true := by simp [iwR, iwC, q2, q3, q4, q5, q6]
          rw [e] at ih3; exact ih3
        · have e : iwR n kn w ro (nI f) (nI t) (r + 1) = true := by simp [iwR, q]
          rw [e] at ih3; exact ih3
theorem h_X4_seated (n : Nat) (se : Int32) (li : Int32) (wm : Int32) (ch : Int32) (ne : Int32) (np : Int32) (al : Int32) (wo : Int32) (kn : Nat → Int32) (sp : Nat → Int32) (py : Nat → Int32) (il : Nat → Int32) (fl : Nat → Int32) (wa : Nat → Int32) (bo : Nat → Int32) (so : Nat → Int32) (sd : Nat → Int32) (ro : Nat → Int32) (cp : Nat → Int32) (nr : Nat → Int32) (ti : Nat → Int32) (on : Nat → Int32) (he : Nat → Int32) (la : Nat → Int32) (hn : n ≤ 6) (K4 : Int32 → Int32 → Prop) (R4 : ∀ x1 x2, v_X4_seated_4 n se li wm ch ne np al wo kn sp py il fl wa bo so sd ro cp nr ti on he la (fun r _ => r = sI (fun k => if bo k < 5 then 1 else 0) n) K4 x1 x2 → K4 x1 x2) : v_X4_seated_0 n se li wm ch ne np al wo kn sp py il fl wa bo so sd ro cp nr ti on he la (fun r _ => r = sI (fun k => if bo k < 5 then 1 else 0) n) K4 := by
  unfold v_X4_seated_0
  have key := up_ind (fun k => K4 (sI (fun k => if bo k < 5 then 1 else 0) k) (nI k)) n (R4 _ _ ?_) (fun k hk ih => R4 _ _ ?_)
  · exact key
  · exact ⟨fun _ => rfl, fun h => absurd (nI_le (Nat.le_refl _) (by omega)) h⟩
  · refine ⟨fun h => absurd h (nI_ge hk (by omega)), fun _ => ⟨vp_in_nI (by omega) (by omega), ?_⟩⟩
    have ec : (nI k).toNatClampNeg = k := nI_clamp (by omega)
    simp only [v_X4_seated_28, nI_1, ec]
    refine ⟨fun g => ?_, fun g => ?_⟩
    · have g2 : ¬ bo k < 5 := Int32.not_lt.mpr g
      simpa only [sI, if_neg g2] using ih
    · have g2 : bo k < 5 := Int32.not_le.mp g
      simpa only [sI, if_pos g2] using ih
theorem h_X4_leave (n : Nat) (se : Int32) (li : Int32) (wm : Int32) (ch : Int32) (ne : Int32) (np : Int32) (al : Int32) (wo : Int32) (kn : Nat → Int32) (sp : Nat → Int32) (py : Nat → Int32) (il : Nat → Int32) (fl : Nat → Int32) (wa : Nat → Int32) (so : Nat → Int32) (sd : Nat → Int32) (ro : Nat → Int32) (cp : Nat → Int32) (nr : Nat → Int32) (ti : Nat → Int32) (on : Nat → Int32) (he : Nat → Int32) (la : Nat → Int32) (bo : Nat → Int32) (hn : n ≤ 6) (K7 : Int32 → Int32 → (Nat → Int32) → Prop) (R7 : ∀ x1 x2 bo_, v_X4_leave_7 n se li wm ch ne np al wo kn sp py il fl wa so sd ro cp nr ti on he la (fun r u => r = sI (fun k => if bo k < 5 then 1 else 0) n ∧ u = fillA bo 6 5) K7 x1 x2 bo_ → K7 x1 x2 bo_) : v_X4_leave_0 n se li wm ch ne np al wo kn sp py il fl wa so sd ro cp nr ti on he la (fun r u => r = sI (fun k => if bo k < 5 then 1 else 0) n ∧ u = fillA bo 6 5) K7  bo := by
  unfold v_X4_leave_0
  generalize sI (fun k => if bo k < 5 then 1 else 0) n = r at *
  have key := up_ind (fun k => K7 r (nI k) (fillA bo k 5)) 6 (R7 _ _ _ ?_) (fun k hk ih => R7 _ _ _ ?_)
  · have e : fillA bo 0 5 = bo := by funext j; simp [fillA]
    rw [e] at key; exact key
  · exact ⟨fun _ => ⟨rfl, rfl⟩, fun h => absurd (nI_le (a := 6) (b := 6) (Nat.le_refl _) (by omega)) h⟩
  · refine ⟨fun h => absurd h (nI_ge (b := 6) hk (by omega)), fun _ => ⟨vp_in_nI hk (by omega), ?_⟩⟩
    have ec : (nI k).toNatClampNeg = k := nI_clamp (by omega)
    rw [nI_1, ec]
    have e : upd (fillA bo k 5) k 5 = fillA bo (k + 1) 5 := by
      funext j
      simp only [upd, fillA]
      by_cases h1 : j = k
      · subst h1; simp
      · have h2 : (j < k + 1) = (j < k) := by apply propext; omega
        simp [h1, h2]
    rw [e]; exact ih
theorem h_X4_booth (n : Nat) (se : Int32) (li : Int32) (wm : Int32) (ch : Int32) (ne : Int32) (np : Int32) (al : Int32) (wo : Int32) (kn : Nat → Int32) (sp : Nat → Int32) (py : Nat → Int32) (il : Nat → Int32) (fl : Nat → Int32) (wa : Nat → Int32) (bo : Nat → Int32) (so : Nat → Int32) (sd : Nat → Int32) (ro : Nat → Int32) (cp : Nat → Int32) (nr : Nat → Int32) (ti : Nat → Int32) (on : Nat → Int32) (he : Nat → Int32) (la : Nat → Int32) (a1 : Int32) (hn : n ≤ 6) : v_X4_booth_0 n se li wm ch ne np al wo kn sp py il fl wa bo so sd ro cp nr ti on he la (fun r _ => r = (if inR a1 0 (nI n - 1) = true then bo a1.toNatClampNeg else (-2)))  a1 := by
  unfold v_X4_booth_0
  simp only [bI_0, Bool.not_eq_false]
  refine ⟨fun h => ?_, fun h => ⟨inB_in (n := n) (by rw [← inR_p hn]; exact h) hn (by omega), ?_⟩⟩
  · simp [h]
  · simp [h]
theorem h_X4_lacking (n : Nat) (se : Int32) (li : Int32) (wm : Int32) (ch : Int32) (ne : Int32) (np : Int32) (al : Int32) (wo : Int32) (kn : Nat → Int32) (sp : Nat → Int32) (py : Nat → Int32) (il : Nat → Int32) (fl : Nat → Int32) (wa : Nat → Int32) (bo : Nat → Int32) (so : Nat → Int32) (sd : Nat → Int32) (ro : Nat → Int32) (cp : Nat → Int32) (nr : Nat → Int32) (ti : Nat → Int32) (on : Nat → Int32) (he : Nat → Int32) (la : Nat → Int32) (a1 : Int32) (hn : n ≤ 6) (K14 : Int32 → Int32 → Int32 → Prop) (K25 : Int32 → Int32 → Int32 → Int32 → Int32 → Prop) (R14 : ∀ x1 x2 x3, v_X4_lacking_14 n se li wm ch ne np al wo kn sp py il fl wa bo so sd ro cp nr ti on he la (fun r _ => r = (if inR a1 0 1 = true then rlF n il sp (wa a1.toNatClampNeg) se 5 else (-2))) K14 K25 x1 x2 x3 → K14 x1 x2 x3) (R25 : ∀ x1 x2 x3 x4 x5, v_X4_lacking_25 n se li wm ch ne np al wo kn sp py il fl wa bo so sd ro cp nr ti on he la (fun r _ => r = (if inR a1 0 1 = true then rlF n il sp (wa a1.toNatClampNeg) se 5 else (-2))) K14 K25 x1 x2 x3 x4 x5 → K25 x1 x2 x3 x4 x5) : v_X4_lacking_0 n se li wm ch ne np al wo kn sp py il fl wa bo so sd ro cp nr ti on he la (fun r _ => r = (if inR a1 0 1 = true then rlF n il sp (wa a1.toNatClampNeg) se 5 else (-2))) K14 K25 a1 := by
  unfold v_X4_lacking_0
  simp only [bI_0, Bool.not_eq_false]
  refine ⟨fun h => ?_, fun h => ?_⟩
  · simp [h]
  · have hv : vp_in a1 2 := inB_in (n := 2) (by rw [← inR_b (m := 1) (by omega)]; exact h) (Nat.le_refl _) (by omega)
    rw [if_pos h] at R14 R25
    generalize hw0 : wa a1.toNatClampNeg = w at *
    have key := up_ind (fun t => K14 a1 (rlF n il sp w se t) (nI t)) 5 (R14 _ _ _ ?_) (fun t ht ih => R14 _ _ _ ?_)
    · exact key
    · exact ⟨fun _ => rfl, fun h => absurd (nI_le (a := 5) (b := 5) (Nat.le_refl _) (by omega)) h⟩
    · refine ⟨fun h => absurd h (nI_ge (b := 5) ht (by omega)), fun _ => ?_⟩
      have k2 := up_ind (fun k => K25 a1 (rlF n il sp w se t) (nI t) (rlC n il sp (nI t) k) (nI k)) n (R25 _ _ _ _ _ ?_) (fun k hk ih2 => R25 _ _ _ _ _ ?_)
      · exact k2
      · refine ⟨fun _ => ⟨hv, ?_⟩, fun h => absurd (nI_le (Nat.le_refl _) (by omega)) h⟩
        rw [hw0]
        simp only [bI_0, Bool.not_eq_false, v_X4_lacking_103, v_X4_lacking_104, nI_1]
        refine ⟨fun g => ?_, fun g => ⟨fun g2 => ?_, fun g2 => ?_⟩⟩
        · simpa [rlF, g] using ih
        · simpa [rlF, g2] using ih
        · simpa [rlF, g, g2] using ih
      · refine ⟨fun h => absurd h (nI_ge hk (by omega)), fun _ => ⟨vp_in_nI (by omega) (by omega), ?_⟩⟩
        have ec : (nI k).toNatClampNeg = k := nI_clamp (by omega)
        have h6 : vp_in (nI k) 6 := vp_in_nI (by omega) (by omega)
        simp only [bI_0, Bool.not_eq_false, v_X4_lacking_64, v_X4_lacking_65, nI_1, ec]
        refine ⟨fun g => ⟨h6, fun g2 => ?_, fun g2 => ?_⟩, fun g => ?_⟩
        · simpa [rlC, sI, g2] using ih2
        · simpa [rlC, sI, g, g2] using ih2
        · simpa [rlC, sI, g] using ih2
theorem h_X4_speak (n : Nat) (se : Int32) (li : Int32) (wm : Int32) (ch : Int32) (ne : Int32) (np : Int32) (al : Int32) (wo : Int32) (kn : Nat → Int32) (sp : Nat → Int32) (py : Nat → Int32) (il : Nat → Int32) (fl : Nat → Int32) (wa : Nat → Int32) (bo : Nat → Int32) (ro : Nat → Int32) (cp : Nat → Int32) (nr : Nat → Int32) (ti : Nat → Int32) (on : Nat → Int32) (he : Nat → Int32) (la : Nat → Int32) (so : Nat → Int32) (sd : Nat → Int32) (a1 : Int32) (a2 : Int32) (a3 : Int32) (hn : n ≤ 6) : v_X4_speak_0 n se li wm ch ne np al wo kn sp py il fl wa bo ro cp nr ti on he la (fun r u => r = (if (inR a1 0 15 && inR a2 0 4) = true then (if inR a3 1 9 = true then 1 else (-3)) else (-2)) ∧ u = ((if (inR a1 0 15 && (inR a2 0 4 && inR a3 1 9)) = true then upd so a1.toNatClampNeg a2 else so), (if (inR a1 0 15 && (inR a2 0 4 && inR a3 1 9)) = true then upd sd a1.toNatClampNeg a3 else sd)))  a1 a2 a3 so sd := by
  unfold v_X4_speak_0
  simp only [bI_0, Bool.not_eq_false]
  refine ⟨fun h => ?_, fun h => ⟨fun h2 => ?_, fun h2 => ⟨fun h3 => ?_, fun h3 => ?_⟩⟩⟩
  · simp [h]
  · simp [h2]
  · simp [h, h2, h3]
  · have hv : vp_in a1 16 := inB_in (n := 16) (by rw [← inR_b (m := 15) (by omega)]; exact h) (Nat.le_refl _) (by omega)
    refine ⟨hv, hv, ?_⟩
    simp [h, h2, h3]
theorem h_X4_silence (n : Nat) (se : Int32) (li : Int32) (wm : Int32) (ch : Int32) (ne : Int32) (np : Int32) (al : Int32) (wo : Int32) (kn : Nat → Int32) (sp : Nat → Int32) (py : Nat → Int32) (il : Nat → Int32) (fl : Nat → Int32) (wa : Nat → Int32) (bo : Nat → Int32) (sd : Nat → Int32) (ro : Nat → Int32) (cp : Nat → Int32) (nr : Nat → Int32) (ti : Nat → Int32) (on : Nat → Int32) (he : Nat → Int32) (la : Nat → Int32) (so : Nat → Int32) (a1 : Int32) (hn : n ≤ 6) : v_X4_silence_0 n se li wm ch ne np al wo kn sp py il fl wa bo sd ro cp nr ti on he la (fun r u => r = (if inR a1 0 15 = true then bI (!decide (so a1.toNatClampNeg = -1)) else (-2)) ∧ u = (if inR a1 0 15 = true then upd so a1.toNatClampNeg (-1) else so))  a1 so := by
  unfold v_X4_silence_0
  simp only [bI_0, Bool.not_eq_false, v_X4_silence_25]
  refine ⟨fun h => ?_, fun h => ?_⟩
  · simp [h]
  · have hv : vp_in a1 16 := inB_in (n := 16) (by rw [← inR_b (m := 15) (by omega)]; exact h) (Nat.le_refl _) (by omega)
    refine ⟨hv, fun h2 => ⟨hv, ?_⟩, fun h2 => ⟨hv, ?_⟩⟩
    · simp [h, h2, bI]
    · simp [h, h2, bI]
theorem h_X4_limit (n : Nat) (se : Int32) (wm : Int32) (ch : Int32) (ne : Int32) (np : Int32) (al : Int32) (wo : Int32) (kn : Nat → Int32) (sp : Nat → Int32) (py : Nat → Int32) (il : Nat → Int32) (fl : Nat → Int32) (wa : Nat → Int32) (bo : Nat → Int32) (so : Nat → Int32) (sd : Nat → Int32) (ro : Nat → Int32) (cp : Nat → Int32) (nr : Nat → Int32) (ti : Nat → Int32) (on : Nat → Int32) (he : Nat → Int32) (la : Nat → Int32) (li : Int32) (a1 : Int32) (hn : n ≤ 6) : v_X4_limit_0 n se wm ch ne np al wo kn sp py il fl wa bo so sd ro cp nr ti on he la (fun r u => r = (if inR a1 5 60 = true then li else (-3)) ∧ u = (if inR a1 5 60 = true then a1 else li))  a1 li := by
  unfold v_X4_limit_0
  simp only [bI_0, Bool.not_eq_false]
  refine ⟨fun h => ?_, fun h => ?_⟩ <;> simp [h]
theorem h_X4_knowsIt (n : Nat) (se : Int32) (li : Int32) (wm : Int32) (ch : Int32) (ne : Int32) (np : Int32) (al : Int32) (wo : Int32) (kn : Nat → Int32) (sp : Nat → Int32) (py : Nat → Int32) (il : Nat → Int32) (fl : Nat → Int32) (wa : Nat → Int32) (bo : Nat → Int32) (so : Nat → Int32) (sd : Nat → Int32) (ro : Nat → Int32) (cp : Nat → Int32) (nr : Nat → Int32) (ti : Nat → Int32) (on : Nat → Int32) (he : Nat → Int32) (la : Nat → Int32) (a1 : Int32) (a2 : Int32) (hn : n ≤ 6) (h0 : a1 = -1 ∨ inB a1 6 = true) : v_X4_knowsIt_0 n se li wm ch ne np al wo kn sp py il fl wa bo so sd ro cp nr ti on he la (fun r _ => r = bI (!decide (a1 = -1) && hs (kn a1.toNatClampNeg) a2))  a1 a2 := by
  unfold v_X4_knowsIt_0
  simp only [bI_0, Bool.not_eq_false]
  refine ⟨fun h => ?_, fun h => ⟨?_, fun h2 => ?_, fun h2 => ?_⟩⟩
  · simp [h, bI]
  · rcases h0 with q | q
    · exact absurd q h
    · exact inB_in (n := 6) q (Nat.le_refl _) (by omega)
  · simp [h2, bI]
  · simp [h, h2, bI]
theorem h_X4_findTeams (n : Nat) (se : Int32) (li : Int32) (wo : Int32) (kn : Nat → Int32) (sp : Nat → Int32) (py : Nat → Int32) (il : Nat → Int32) (fl : Nat → Int32) (wa : Nat → Int32) (bo : Nat → Int32) (so : Nat → Int32) (sd : Nat → Int32) (ti : Nat → Int32) (on : Nat → Int32) (he : Nat → Int32) (la : Nat → Int32) (wm : Int32) (ch : Int32) (ne : Int32) (np : Int32) (al : Int32) (ro : Nat → Int32) (cp : Nat → Int32) (nr : Nat → Int32) (a1 : Int32) (hn : n ≤ 6) (h0 : inB a1 2 = true) (K25 : Int32 → Int32 → Int32 → Int32 → Int32 → Int32 → Int32 → Int32 → (Nat → Int32) → (Nat → Int32) → (Nat → Int32) → Prop) (K46 : Int32 → Int32 → Int32 → Int32 → Int32 → Int32 → Int32 → Int32 → (Nat → Int32) → (Nat → Int32) → (Nat → Int32) → Prop) (K62 : Int32 → Int32 → Int32 → Int32 → Int32 → Int32 → Int32 → Int32 → Int32 → Int32 → (Nat → Int32) → (Nat → Int32) → (Nat → Int32) → Prop) (K117 : Int32 → Int32 → Int32 → Int32 → Int32 → Int32 → Int32 → Int32 → Int32 → Int32 → Int32 → (Nat → Int32) → (Nat → Int32) → (Nat → Int32) → Prop) (K298 : Int32 → Int32 → Int32 → Int32 → Int32 → Int32 → Int32 → Int32 → Int32 → Int32 → Int32 → Int32 → Int32 → (Nat → Int32) → (Nat → Int32) → (Nat → Int32) → Prop) (R25 : ∀ x1 x2 x3 wm_ ch_ ne_ np_ al_ ro_ cp_ nr_, v_X4_findTeams_25 n se li wo kn sp py il fl wa bo so sd ti on he la (fun u => u = ftF n kn sp py il fl wa bo se a1 (wm, ch, ne, np, al, ro, cp, nr)) K25 K46 K62 K117 K298 x1 x2 x3 wm_ ch_ ne_ np_ al_ ro_ cp_ nr_ → K25 x1 x2 x3 wm_ ch_ ne_ np_ al_ ro_ cp_ nr_) (R46 : ∀ x1 x2 x3 wm_ ch_ ne_ np_ al_ ro_ cp_ nr_, v_X4_findTeams_46 n se li wo kn sp py il fl wa bo so sd ti on he la (fun u => u = ftF n kn sp py il fl wa bo se a1 (wm, ch, ne, np, al, ro, cp, nr)) K25 K46 K62 K117 K298 x1 x2 x3 wm_ ch_ ne_ np_ al_ ro_ cp_ nr_ → K46 x1 x2 x3 wm_ ch_ ne_ np_ al_ ro_ cp_ nr_) (R62 : ∀ x1 x2 x3 x4 x5 wm_ ch_ ne_ np_ al_ ro_ cp_ nr_, v_X4_findTeams_62 n se li wo kn sp py il fl wa bo so sd ti on he la (fun u => u = ftF n kn sp py il fl wa bo se a1 (wm, ch, ne, np, al, ro, cp, nr)) K25 K46 K62 K117 K298 x1 x2 x3 x4 x5 wm_ ch_ ne_ np_ al_ ro_ cp_ nr_ → K62 x1 x2 x3 x4 x5 wm_ ch_ ne_ np_ al_ ro_ cp_ nr_) (R117 : ∀ x1 x2 x3 x5 x6 x7 wm_ ch_ ne_ np_ al_ ro_ cp_ nr_, v_X4_findTeams_117 n se li wo kn sp py il fl wa bo so sd ti on he la (fun u => u = ftF n kn sp py il fl wa bo se a1 (wm, ch, ne, np, al, ro, cp, nr)) K25 K46 K62 K117 K298 x1 x2 x3 x5 x6 x7 wm_ ch_ ne_ np_ al_ ro_ cp_ nr_ → K117 x1 x2 x3 x5 x6 x7 wm_ ch_ ne_ np_ al_ ro_ cp_ nr_) (R298 : ∀ x1 x2 x3 x5 x6 x7 x8 x9 wm_ ch_ ne_ np_ al_ ro_ cp_ nr_, v_X4_findTeams_298 n se li wo kn sp py il fl wa bo so sd ti on he la (fun u => u = ftF n kn sp py il fl wa bo se a1 (wm, ch, ne, np, al, ro, cp, nr)) K25 K46 K62 K117 K298 x1 x2 x3 x5 x6 x7 x8 x9 wm_ ch_ ne_ np_ al_ ro_ cp_ nr_ → K298 x1 x2 x3 x5 x6 x7 x8 x9 wm_ ch_ ne_ np_ al_ ro_ cp_ nr_) : v_X4_findTeams_0 n se li wo kn sp py il fl wa bo so sd ti on he la (fun u => u = ftF n kn sp py il fl wa bo se a1 (wm, ch, ne, np, al, ro, cp, nr)) K25 K46 K62 K117 K298 a1 wm ch ne np al ro cp nr := by
  unfold v_X4_findTeams_0
  have hv : vp_in a1 2 := inB_in (n := 2) h0 (Nat.le_refl _) (by omega)
  have h6n : 6 ^ n < 2 ^ 30 := pow6_lt hn
  have e6 : (6 : Int32) = nI 6 := rfl
  have ef : ftF n kn sp py il fl wa bo se a1 (wm, ch, ne, np, al, ro, cp, nr) = ftO (ftL n kn sp py il bo (fl a1.toNatClampNeg) (wa a1.toNatClampNeg) se ((0, -1, -1, np, 63, cp, nr), ro) (6 ^ n)) := rfl
  rw [ef] at R25 R46 R62 R117 R298
  generalize hw0 : wa a1.toNatClampNeg = w at *
  generalize hf0 : fl a1.toNatClampNeg = fw at *
  have key2 := up_ind (fun m => m ≤ 6 ^ n → K46 a1 (nI (6 ^ n)) (nI m) (ftL n kn sp py il bo fw w se ((0, -1, -1, np, 63, cp, nr), ro) m).1.1 (ftL n kn sp py il bo fw w se ((0, -1, -1, np, 63, cp, nr), ro) m).1.2.1 (ftL n kn sp py il bo fw w se ((0, -1, -1, np, 63, cp, nr), ro) m).1.2.2.1 (ftL n kn sp py il bo fw w se ((0, -1, -1, np, 63, cp, nr), ro) m).1.2.2.2.1 (ftL n kn sp py il bo fw w se ((0, -1, -1, np, 63, cp, nr), ro) m).1.2.2.2.2.1 (ftL n kn sp py il bo fw w se ((0, -1, -1, np, 63, cp, nr), ro) m).2 (ftL n kn sp py il bo fw w se ((0, -1, -1, np, 63, cp, nr), ro) m).1.2.2.2.2.2.1 (ftL n kn sp py il bo fw w se ((0, -1, -1, np, 63, cp, nr), ro) m).1.2.2.2.2.2.2) (6 ^ n) (fun _ => R46 _ _ _ _ _ _ _ _ _ _ _ ?_) (fun m hm ih => fun _ => R46 _ _ _ _ _ _ _ _ _ _ _ ?_)
  · have key1 := up_ind (fun k => K25 a1 (nI (6 ^ k)) (nI k) 0 (-1) (-1) np 63 ro cp nr) n (R25 _ _ _ _ _ _ _ _ _ _ _ ?_) (fun k hk ih => R25 _ _ _ _ _ _ _ _ _ _ _ ?_)
    · exact key1
    · exact ⟨fun _ => key2 (Nat.zero_le _), fun h => absurd (nI_le (Nat.le_refl _) (by omega)) h⟩
    · refine ⟨fun h => absurd h (nI_ge hk (by omega)), fun _ => ?_⟩
      rw [e6, pk_mul, nI_1, ← Nat.pow_succ]
      exact ih
  · exact ⟨fun _ => rfl, fun h => absurd (nI_le (Nat.le_refl _) (by omega)) h⟩
  · replace ih := ih (by omega)
    refine ⟨fun h => absurd h (nI_ge hm (by omega)), fun _ => ?_⟩
    have es : ftL n kn sp py il bo fw w se ((0, -1, -1, np, 63, cp, nr), ro) (m + 1) = ((if (itF n sp il w se (rowD n m (ftL n kn sp py il bo fw w se ((0, -1, -1, np, 63, cp, nr), ro) m).2) && iwF n kn fw w (rowD n m (ftL n kn sp py il bo fw w se ((0, -1, -1, np, 63, cp, nr), ro) m).2)) = true then rA n py bo (rowD n m (ftL n kn sp py il bo fw w se ((0, -1, -1, np, 63, cp, nr), ro) m).2) (ftL n kn sp py il bo fw w se ((0, -1, -1, np, 63, cp, nr), ro) m).1 else (ftL n kn sp py il bo fw w se ((0, -1, -1, np, 63, cp, nr), ro) m).1), rowD n m (ftL n kn sp py il bo fw w se ((0, -1, -1, np, 63, cp, nr), ro) m).2) := rfl
    rw [es] at ih
    clear es
    generalize ftL n kn sp py il bo fw w se ((0, -1, -1, np, 63, cp, nr), ro) m = y at ih ⊢
    obtain ⟨⟨wm0, ch0, ne0, np0, al0, cp0, nr0⟩, ro0⟩ := y
    dsimp only at ih ⊢
    generalize hrow : rowD n m ro0 = row at ih
    have hM : m < 2 ^ 30 := by omega
    have key3 : ∀ j l r, j ≤ n → l < 2 ^ 30 → rowD j l r = row → K62 a1 (nI (6 ^ n)) (nI m) (nI l) (nI j - 1) wm0 ch0 ne0 np0 al0 r cp0 nr0 := by
      intro j
      induction j with
      | zero =>
        intro l r hj hl hr
        have hr2 : r = row := hr
        subst hr2
        refine R62 _ _ _ _ _ _ _ _ _ _ _ _ _ ⟨fun _ => ⟨h0, ?_⟩, fun h => absurd (by decide) h⟩
        rw [hw0, hf0]
        simp only [bI_0, Bool.not_eq_false, v_X4_findTeams_425, nI_1]
        refine ⟨fun g => ?_, fun g => ⟨h0, fun g2 => ?_, fun g2 => ?_⟩⟩
        · rw [g, Bool.false_and, if_neg (by decide)] at ih; exact ih
        · rw [g2, Bool.and_false, if_neg (by decide)] at ih; exact ih
        · rw [g, g2, Bool.and_self, if_pos rfl] at ih
          have k5 := up_ind (fun k => K298 a1 (nI (6 ^ n)) (nI m) (rpS py r n) (rmS bo r n) (bI (rcB ch0 (rpS py r n))) (bI (rnB ne0 np0 (rmS bo r n) (rpS py r n))) (nI k) (wm0 + 1) ch0 ne0 np0 (raL r al0 n) r (if rcB ch0 (rpS py r n) = true then fillN cp0 k r else cp0) (if rnB ne0 np0 (rmS bo r n) (rpS py r n) = true then fillN nr0 k r else nr0)) n (R298 _ _ _ _ _ _ _ _ _ _ _ _ _ _ _ _ ?_) (fun k hk ih5 => R298 _ _ _ _ _ _ _ _ _ _ _ _ _ _ _ _ ?_)
          · have k4 := up_ind (fun k => K117 a1 (nI (6 ^ n)) (nI m) (rpS py r k) (rmS bo r k) (nI k) wm0 ch0 ne0 np0 (raL r al0 k) r cp0 nr0) n (R117 _ _ _ _ _ _ _ _ _ _ _ _ _ _ ?_) (fun k hk ih4 => R117 _ _ _ _ _ _ _ _ _ _ _ _ _ _ ?_)
            · exact k4
            · refine ⟨fun _ => ?_, fun h => absurd (nI_le (Nat.le_refl _) (by omega)) h⟩
              simp only [fillN_0, ite_self] at k5
              have near : ∀ b : Bool, K298 a1 (nI (6 ^ n)) (nI m) (rpS py r n) (rmS bo r n) (bI b) (bI (rnB ne0 np0 (rmS bo r n) (rpS py r n))) (nI 0) (wm0 + 1) ch0 ne0 np0 (raL r al0 n) r cp0 nr0 → v_X4_findTeams_251 n se li wo kn sp py il fl wa bo so sd ti on he la (fun u => u = ftO (ftL n kn sp py il bo fw w se ((0, -1, -1, np, 63, cp, nr), ro) (6 ^ n))) K25 K46 K62 K117 K298 a1 (nI (6 ^ n)) (nI m) (rpS py r n) (rmS bo r n) (bI b) (wm0 + 1) ch0 ne0 np0 (raL r al0 n) r cp0 nr0 := by
                intro b hb
                unfold v_X4_findTeams_251
                simp only [v_X4_findTeams_288, v_X4_findTeams_292, v_X4_findTeams_293]
                refine ⟨fun q => ?_, fun q => ⟨fun q2 => ?_, fun q2 => ⟨fun q3 => ⟨fun q4 => ?_, fun q4 => ?_⟩, fun q3 => ?_⟩⟩⟩
                · have e : rnB ne0 np0 (rmS bo r n) (rpS py r n) = true := by simp [rnB, q]
                  rw [e] at hb; exact hb
                · have e : rnB ne0 np0 (rmS bo r n) (rpS py r n) = true := by simp [rnB, q2]
                  rw [e] at hb; exact hb
                · have e : rnB ne0 np0 (rmS bo r n) (rpS py r n) = false := by simp [rnB, q, q2, q4]
                  rw [e] at hb; exact hb
                · have e : rnB ne0 np0 (rmS bo r n) (rpS py r n) = true := by simp [rnB, q3, q4]
                  rw [e] at hb; exact hb
                · have e : rnB ne0 np0 (rmS bo r n) (rpS py r n) = false := by simp [rnB, q, q2, q3]
                  rw [e] at hb; exact hb
              simp only [v_X4_findTeams_246]
              refine ⟨fun q => ?_, fun q => ⟨fun q2 => ?_, fun q2 => ?_⟩⟩
              · have e : rcB ch0 (rpS py r n) = true := by simp [rcB, q]
                rw [e] at k5; exact near true k5
              · have e : rcB ch0 (rpS py r n) = false := by simp [rcB, q, q2]
                rw [e] at k5; exact near false k5
              · have e : rcB ch0 (rpS py r n) = true := by simp [rcB, q2]
                rw [e] at k5; exact near true k5
            · refine ⟨fun h => absurd h (nI_ge hk (by omega)), fun _ => ⟨vp_in_nI (by omega) (by omega), ?_⟩⟩
              have ec : (nI k).toNatClampNeg = k := nI_clamp (by omega)
              have h6 : vp_in (nI k) 6 := vp_in_nI (by omega) (by omega)
              simp only [v_X4_findTeams_150, v_X4_findTeams_177, v_X4_findTeams_210, nI_1, ec]
              refine ⟨fun q => ⟨h6, h6, fun q2 => ⟨h6, fun q3 => ?_, fun q3 => absurd q q3⟩, fun q2 => ⟨h6, fun q3 => ?_, fun q3 => absurd q q3⟩⟩, fun q => ⟨h6, h6, h6, fun q2 => ⟨h6, fun q3 => absurd q3 q, fun q3 => ?_⟩, fun q2 => ⟨h6, fun q3 => absurd q3 q, fun q3 => ?_⟩⟩⟩
              · simpa only [rpS, rmS, sI, raL, if_pos q, if_pos q2] using ih4
              · simpa only [rpS, rmS, sI, raL, if_pos q, if_neg q2] using ih4
              · simpa only [rpS, rmS, sI, raL, if_neg q, if_pos q2] using ih4
              · simpa only [rpS, rmS, sI, raL, if_neg q, if_neg q2] using ih4
          · refine ⟨fun _ => ?_, fun h => absurd (nI_le (Nat.le_refl _) (by omega)) h⟩
            simp only [bI_0, Bool.not_eq_false, v_X4_findTeams_386, v_X4_findTeams_404, v_X4_findTeams_422, v_X4_findTeams_425, nI_1]
            simp only [rA] at ih
            refine ⟨fun q => ⟨fun q2 => ⟨fun q3 => ?_, fun q3 => ?_⟩, fun q2 => ⟨fun q3 => ?_, fun q3 => ?_⟩⟩, fun q => ⟨fun q2 => ⟨fun q3 => ?_, fun q3 => ?_⟩, fun q2 => ⟨fun q3 => ?_, fun q3 => ?_⟩⟩⟩
            · simpa only [q, q2, Bool.false_eq_true, if_false] using ih
            · exact absurd (q2.symm.trans q3) (by decide)
            · exact absurd (q2.symm.trans q3) (by decide)
            · simpa only [q, q2, Bool.false_eq_true, if_false, if_true] using ih
            · simpa only [q, q2, Bool.false_eq_true, if_false, if_true] using ih
            · exact absurd (q2.symm.trans q3) (by decide)
            · exact absurd (q2.symm.trans q3) (by decide)
            · simpa only [q, q2, if_true] using ih
          · refine ⟨fun h => absurd h (nI_ge hk (by omega)), fun _ => ?_⟩
            have ec : (nI k).toNatClampNeg = k := nI_clamp (by omega)
            have h6 : vp_in (nI k) 6 := vp_in_nI (by omega) (by omega)
            simp only [bI_0, Bool.not_eq_false, v_X4_findTeams_335, v_X4_findTeams_364, nI_1, ec]
            refine ⟨fun q => ⟨h6, h6, fun q2 => ⟨h6, h6, ?_⟩, fun q2 => ⟨h6, h6, ?_⟩⟩, fun q => ⟨h6, h6, fun q2 => ⟨h6, h6, ?_⟩, fun q2 => ⟨h6, h6, ?_⟩⟩⟩
            · simpa only [q, q2, Bool.false_eq_true, if_false, if_true, upd_same, fillN_succ] using ih5
            · simpa only [q, q2, Bool.false_eq_true, if_false, if_true, upd_same, fillN_succ] using ih5
            · simpa only [q, q2, Bool.false_eq_true, if_false, if_true, upd_same, fillN_succ] using ih5
            · simpa only [q, q2, Bool.false_eq_true, if_false, if_true, upd_same, fillN_succ] using ih5
      | succ j ihj =>
        intro l r hj hl hr
        rw [nI_pred]
        refine R62 _ _ _ _ _ _ _ _ _ _ _ _ _ ⟨fun h => absurd h (nI_pos (by omega)), fun _ => ⟨vp_in_nI (by omega) (by omega), ?_⟩⟩
        have ec : (nI j).toNatClampNeg = j := nI_clamp (by omega)
        have em : nI j + (-1) = nI j - 1 := (Int32.sub_eq_add_neg _ _).symm
        rw [e6, pk_rem (by omega) (by omega) (by omega), pk_div (by omega) (by omega) (by omega), ec, em]
        exact ihj (l / 6) _ (by omega) (by omega) hr
    exact key3 n m ro0 (Nat.le_refl _) hM hrow
theorem h_X4_whole (n : Nat) (se : Int32) (li : Int32) (wo : Int32) (kn : Nat → Int32) (sp : Nat → Int32) (py : Nat → Int32) (il : Nat → Int32) (fl : Nat → Int32) (wa : Nat → Int32) (bo : Nat → Int32) (so : Nat → Int32) (sd : Nat → Int32) (ti : Nat → Int32) (on : Nat → Int32) (he : Nat → Int32) (la : Nat → Int32) (wm : Int32) (ch : Int32) (ne : Int32) (np : Int32) (al : Int32) (ro : Nat → Int32) (cp : Nat → Int32) (nr : Nat → Int32) (a1 : Int32) (hn : n ≤ 6) : v_X4_whole_0 n se li wo kn sp py il fl wa bo so sd ti on he la (fun r u => r = (if inR a1 0 1 = true then (ftF n kn sp py il fl wa bo se a1 (wm, ch, ne, np, al, ro, cp, nr)).1 else (-2)) ∧ u = (if inR a1 0 1 = true then ftF n kn sp py il fl wa bo se a1 (wm, ch, ne, np, al, ro, cp, nr) else (wm, ch, ne, np, al, ro, cp, nr)))  a1 wm ch ne np al ro cp nr := by
  unfold v_X4_whole_0
  simp only [bI_0, Bool.not_eq_false]
  refine ⟨fun h => ?_, fun h => ⟨by rw [← inR_2]; exact h, fun u hu => ?_⟩⟩
  · simp [h]
  · rw [if_pos h, if_pos h, hu]
    exact ⟨rfl, rfl⟩
theorem h_X4_cheapest (n : Nat) (se : Int32) (li : Int32) (wo : Int32) (kn : Nat → Int32) (sp : Nat → Int32) (py : Nat → Int32) (il : Nat → Int32) (fl : Nat → Int32) (wa : Nat → Int32) (bo : Nat → Int32) (so : Nat → Int32) (sd : Nat → Int32) (ti : Nat → Int32) (on : Nat → Int32) (he : Nat → Int32) (la : Nat → Int32) (wm : Int32) (ch : Int32) (ne : Int32) (np : Int32) (al : Int32) (ro : Nat → Int32) (cp : Nat → Int32) (nr : Nat → Int32) (a1 : Int32) (hn : n ≤ 6) : v_X4_cheapest_0 n se li wo kn sp py il fl wa bo so sd ti on he la (fun r u => r = (if inR a1 0 1 = true then (ftF n kn sp py il fl wa bo se a1 (wm, ch, ne, np, al, ro, cp, nr)).2.1 else (-2)) ∧ u = (if inR a1 0 1 = true then ftF n kn sp py il fl wa bo se a1 (wm, ch, ne, np, al, ro, cp, nr) else (wm, ch, ne, np, al, ro, cp, nr)))  a1 wm ch ne np al ro cp nr := by
  unfold v_X4_cheapest_0
  simp only [bI_0, Bool.not_eq_false]
  refine ⟨fun h => ?_, fun h => ⟨by rw [← inR_2]; exact h, fun u hu => ?_⟩⟩
  · simp [h]
  · rw [if_pos h, if_pos h, hu]
    exact ⟨rfl, rfl⟩
theorem h_X4_nearest (n : Nat) (se : Int32) (li : Int32) (wo : Int32) (kn : Nat → Int32) (sp : Nat → Int32) (py : Nat → Int32) (il : Nat → Int32) (fl : Nat → Int32) (wa : Nat → Int32) (bo : Nat → Int32) (so : Nat → Int32) (sd : Nat → Int32) (ti : Nat → Int32) (on : Nat → Int32) (he : Nat → Int32) (la : Nat → Int32) (wm : Int32) (ch : Int32) (ne : Int32) (np : Int32) (al : Int32) (ro : Nat → Int32) (cp : Nat → Int32) (nr : Nat → Int32) (a1 : Int32) (hn : n ≤ 6) : v_X4_nearest_0 n se li wo kn sp py il fl wa bo so sd ti on he la (fun r u => r = (if inR a1 0 1 = true then (ftF n kn sp py il fl wa bo se a1 (wm, ch, ne, np, al, ro, cp, nr)).2.2.1 else (-2)) ∧ u = (if inR a1 0 1 = true then ftF n kn sp py il fl wa bo se a1 (wm, ch, ne, np, al, ro, cp, nr) else (wm, ch, ne, np, al, ro, cp, nr)))  a1 wm ch ne np al ro cp nr := by
  unfold v_X4_nearest_0
  simp only [bI_0, Bool.not_eq_false]
  refine ⟨fun h => ?_, fun h => ⟨by rw [← inR_2]; exact h, fun u hu => ?_⟩⟩
  · simp [h]
  · rw [if_pos h, if_pos h, hu]
    exact ⟨rfl, rfl⟩
theorem h_X4_needed (n : Nat) (se : Int32) (li : Int32) (wo : Int32) (kn : Nat → Int32) (sp : Nat → Int32) (py : Nat → Int32) (il : Nat → Int32) (fl : Nat → Int32) (wa : Nat → Int32) (bo : Nat → Int32) (so : Nat → Int32) (sd : Nat → Int32) (ti : Nat → Int32) (on : Nat → Int32) (he : Nat → Int32) (la : Nat → Int32) (wm : Int32) (ch : Int32) (ne : Int32) (np : Int32) (al : Int32) (ro : Nat → Int32) (cp : Nat → Int32) (nr : Nat → Int32) (a1 : Int32) (a2 : Int32) (hn : n ≤ 6) : v_X4_needed_0 n se li wo kn sp py il fl wa bo so sd ti on he la (fun r u => r = (if (inR a1 0 (nI n - 1) && inR a2 0 1) = true then bI (!decide ((ftF n kn sp py il fl wa bo se a2 (wm, ch, ne, np, al, ro, cp, nr)).1 ≤ 0) && hs ((ftF n kn sp py il fl wa bo se a2 (wm, ch, ne, np, al, ro, cp, nr)).2.2.2.2.1) a1) else (-2)) ∧ u = (if (inR a1 0 (nI n - 1) && inR a2 0 1) = true then ftF n kn sp py il fl wa bo se a2 (wm, ch, ne, np, al, ro, cp, nr) else (wm, ch, ne, np, al, ro, cp, nr)))  a1 a2 wm ch ne np al ro cp nr := by
  unfold v_X4_needed_0
  simp only [bI_0, Bool.not_eq_false]
  refine ⟨fun h => ?_, fun h => ⟨fun h2 => ?_, fun h2 => ⟨by rw [← inR_2]; exact h2, fun u hu => ⟨fun h3 => ?_, fun h3 => ⟨fun h4 => ?_, fun h4 => ?_⟩⟩⟩⟩⟩
  · simp [h]
  · simp [h2]
  · have hc : (inR a1 0 (nI n - 1) && inR a2 0 1) = true := by simp [h, h2]
    rw [if_pos hc, if_pos hc, ← hu]
    exact ⟨by simp [h3, bI], rfl⟩
  · have hc : (inR a1 0 (nI n - 1) && inR a2 0 1) = true := by simp [h, h2]
    rw [if_pos hc, if_pos hc, ← hu]
    exact ⟨by simp [h4, bI], rfl⟩
  · have hc : (inR a1 0 (nI n - 1) && inR a2 0 1) = true := by simp [h, h2]
    rw [if_pos hc, if_pos hc, ← hu]
    exact ⟨by simp [h3, h4, bI], rfl⟩
theorem h_X4_take (n : Nat) (se : Int32) (li : Int32) (wo : Int32) (kn : Nat → Int32) (sp : Nat → Int32) (py : Nat → Int32) (il : Nat → Int32) (fl : Nat → Int32) (wa : Nat → Int32) (so : Nat → Int32) (sd : Nat → Int32) (ti : Nat → Int32) (on : Nat → Int32) (he : Nat → Int32) (la : Nat → Int32) (wm : Int32) (ch : Int32) (ne : Int32) (np : Int32) (al : Int32) (bo : Nat → Int32) (ro : Nat → Int32) (cp : Nat → Int32) (nr : Nat → Int32) (a1 : Int32) (a2 : Int32) (hn : n ≤ 6) (K39 : Int32 → Int32 → Int32 → Int32 → Int32 → Int32 → Int32 → (Nat → Int32) → (Nat → Int32) → (Nat → Int32) → (Nat → Int32) → Prop) (R39 : ∀ x2 x3 wm_ ch_ ne_ np_ al_ bo_ ro_ cp_ nr_, v_X4_take_39 n se li wo kn sp py il fl wa so sd ti on he la (fun r u => r = rtR a1 a2 (ftF n kn sp py il fl wa bo se a1 (wm, ch, ne, np, al, ro, cp, nr)) ∧ u = rtF n a1 a2 (ftF n kn sp py il fl wa bo se a1 (wm, ch, ne, np, al, ro, cp, nr)) (wm, ch, ne, np, al, ro, cp, nr) bo) K39 x2 x3 wm_ ch_ ne_ np_ al_ bo_ ro_ cp_ nr_ → K39 x2 x3 wm_ ch_ ne_ np_ al_ bo_ ro_ cp_ nr_) : v_X4_take_0 n se li wo kn sp py il fl wa so sd ti on he la (fun r u => r = rtR a1 a2 (ftF n kn sp py il fl wa bo se a1 (wm, ch, ne, np, al, ro, cp, nr)) ∧ u = rtF n a1 a2 (ftF n kn sp py il fl wa bo se a1 (wm, ch, ne, np, al, ro, cp, nr)) (wm, ch, ne, np, al, ro, cp, nr) bo) K39 a1 a2 wm ch ne np al bo ro cp nr := by
  unfold v_X4_take_0
  simp only [bI_0, Bool.not_eq_false]
  refine ⟨fun h => ?_, fun h => ⟨fun h2 => ?_, fun h2 => ⟨by rw [← inR_2]; exact h, fun u hu => ⟨fun h3 => ?_, fun h3 => ?_⟩⟩⟩⟩
  · rw [rtR, rtF, if_neg (by simp [h]), if_neg (by simp [h])]
    exact ⟨rfl, rfl⟩
  · rw [rtR, rtF, if_pos h, if_neg (by simp [h2]), if_neg (by simp [h2])]
    exact ⟨rfl, rfl⟩
  · rw [← hu, rtR, rtF, if_pos h, if_pos h2, if_pos h3, if_pos ⟨h, h2⟩, if_pos h3]
    exact ⟨rfl, rfl⟩
  · have e1 : rtR a1 a2 u = (if a2 = 0 then u.2.1 else u.2.2.2.1) := by rw [rtR, if_pos h, if_pos h2, if_neg h3]
    have e2 : rtF n a1 a2 u (wm, ch, ne, np, al, ro, cp, nr) bo = (u.1, u.2.1, u.2.2.1, u.2.2.2.1, u.2.2.2.2.1, (if a2 = 0 then fillN bo n u.2.2.2.2.2.2.1 else fillN bo n u.2.2.2.2.2.2.2), u.2.2.2.2.2.1, u.2.2.2.2.2.2.1, u.2.2.2.2.2.2.2) := by rw [rtF, if_pos ⟨h, h2⟩, if_neg h3]
    rw [← hu, e1, e2] at R39
    have key := up_ind (fun k => K39 a2 (nI k) u.1 u.2.1 u.2.2.1 u.2.2.2.1 u.2.2.2.2.1 (if a2 = 0 then fillN bo k u.2.2.2.2.2.2.1 else fillN bo k u.2.2.2.2.2.2.2) u.2.2.2.2.2.1 u.2.2.2.2.2.2.1 u.2.2.2.2.2.2.2) n (R39 _ _ _ _ _ _ _ _ _ _ _ ?_) (fun k hk ih => R39 _ _ _ _ _ _ _ _ _ _ _ ?_)
    · simp only [fillN_0, ite_self] at key
      exact key
    · refine ⟨fun _ => ⟨fun q => ?_, fun q => ?_⟩, fun h => absurd (nI_le (Nat.le_refl _) (by omega)) h⟩
      · rw [if_pos q, if_pos q]; exact ⟨rfl, rfl⟩
      · rw [if_neg q, if_neg q]; exact ⟨rfl, rfl⟩
    · refine ⟨fun h => absurd h (nI_ge hk (by omega)), fun _ => ?_⟩
      have ec : (nI k).toNatClampNeg = k := nI_clamp (by omega)
      have h6 : vp_in (nI k) 6 := vp_in_nI (by omega) (by omega)
      simp only [v_X4_take_71, nI_1, ec]
      refine ⟨fun q => ⟨h6, h6, ?_⟩, fun q => ⟨h6, h6, ?_⟩⟩
      · simpa only [if_pos q, fillN_succ] using ih
      · simpa only [if_neg q, fillN_succ] using ih
end
