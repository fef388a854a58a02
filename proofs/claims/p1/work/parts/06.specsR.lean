/-! the pure words of the contracts: the reference -/
def inR (v l m : Int32) : Bool := !decide (v < l) && !decide (m < v)
def rOk (k s v : Int32) : Bool := inR k 0 31 && (inR s 0 31 && (decide (s &&& (k ^^^ (-1)) = 0) && inR v 1 99))
def fillN (f : Nat → Int32) (N : Nat) (g : Nat → Int32) : Nat → Int32 := fun j => if j < N then g j else f j
def akF (kn ro : Nat → Int32) (t f : Int32) : Nat → Bool
  | 0 => true
  | k + 1 => akF kn ro t f k && (!decide (ro k = t) || hs (kn k) f)
def itA (sp il : Nat → Int32) (w : Int32) (ro : Nat → Int32) : Nat → Bool
  | 0 => true
  | k + 1 => itA sp il w ro k && (decide (ro k = 5) || (hs w (ro k) && (hs (sp k) (ro k) && decide (il k = 0))))
def cnT (ro : Nat → Int32) (t : Int32) : Nat → Int32 := sI (fun k => if ro k = t then 1 else 0)
def itB (n : Nat) (w se : Int32) (ro : Nat → Int32) : Nat → Bool
  | 0 => true
  | t + 1 => itB n w se ro t && (!hs w (nI t) || decide (cnT ro (nI t) n = se))
def itF (n : Nat) (sp il : Nat → Int32) (w se : Int32) (ro : Nat → Int32) : Bool := itA sp il w ro n && itB n w se ro 5
def iwC (n : Nat) (kn : Nat → Int32) (w : Int32) (ro : Nat → Int32) (f t : Int32) (r : Nat) : Bool := hs w (nI r) && (!decide (nI r = f) && (!decide (nI r = t) && (akF kn ro t (nI r) n && akF kn ro (nI r) f n)))
def iwR (n : Nat) (kn : Nat → Int32) (w : Int32) (ro : Nat → Int32) (f t : Int32) : Nat → Bool
  | 0 => akF kn ro t f n
  | r + 1 => iwR n kn w ro f t r || iwC n kn w ro f t r
def iwT (n : Nat) (kn : Nat → Int32) (fl w : Int32) (ro : Nat → Int32) (f : Int32) (b : Bool) : Nat → Bool
  | 0 => b
  | t + 1 => iwT n kn fl w ro f b t && (!(hs fl f && (hs w (nI t) && !decide (nI t = f))) || iwR n kn w ro f (nI t) 5)
def iwL (n : Nat) (kn : Nat → Int32) (fl w : Int32) (ro : Nat → Int32) : Nat → Bool
  | 0 => true
  | f + 1 => iwT n kn fl w ro (nI f) (iwL n kn fl w ro f) 5
def iwF (n : Nat) (kn : Nat → Int32) (fl w : Int32) (ro : Nat → Int32) : Bool := iwL n kn fl w ro 5
theorem itA_no {sp il : Nat → Int32} {w : Int32} {ro : Nat → Int32} {k : Nat} (h : itA sp il w ro k = false) : ∀ j, k ≤ j → itA sp il w ro j = false := by
  intro j hj
  induction j with
  | zero => have : k = 0 := by omega
            subst this; exact h
  | succ j ih =>
    by_cases e : k = j + 1
    · subst e; exact h
    · simp [itA, ih (by omega)]
theorem itB_no {n : Nat} {w se : Int32} {ro : Nat → Int32} {k : Nat} (h : itB n w se ro k = false) : ∀ j, k ≤ j → itB n w se ro j = false := by
  intro j hj
  induction j with
  | zero => have : k = 0 := by omega
            subst this; exact h
  | succ j ih =>
    by_cases e : k = j + 1
    · subst e; exact h
    · simp [itB, ih (by omega)]
theorem inR_p {v : Int32} {n : Nat} (hn : n ≤ 6) : inR v 0 (nI n - 1) = inB v (nI n) := by
  have key : ∀ v : Int32, ¬ v < 0 → (decide (nI n - 1 < v) = decide (nI n ≤ v)) := by
    intro v hv
    obtain ⟨j, hj, rfl⟩ := nI_of hv
    have h0 : nI n - 1 < nI j ↔ nI n ≤ nI j := by
      cases n with
      | zero =>
        constructor
        · intro _; exact nI_le (Nat.zero_le _) hj
        · intro _
          have e : nI 0 - 1 = (-1 : Int32) := by decide
          rw [e]
          have h1 : ¬ nI j < 0 := nI_pos hj
          rw [Int32.lt_iff_toInt_lt, nI_toInt hj]
          have : (-1 : Int32).toInt = -1 := by decide
          omega
      | succ m =>
        rw [nI_pred, nI_ltI (by omega) hj, nI_leI (by omega) hj]
        omega
    by_cases h : nI n ≤ nI j
    · rw [decide_eq_true h, decide_eq_true (h0.mpr h)]
    · rw [decide_eq_false h, decide_eq_false (fun q => h (h0.mp q))]
  unfold inR inB
  by_cases hv : v < 0
  · simp [hv]
  · rw [key v hv]
theorem inR_b {v : Int32} {m : Nat} (hm : m < 100) : inR v 0 (nI m) = inB v (nI (m + 1)) := by
  have key : ∀ v : Int32, ¬ v < 0 → (decide (nI m < v) = decide (nI (m + 1) ≤ v)) := by
    intro v hv
    obtain ⟨j, hj, rfl⟩ := nI_of hv
    have h0 : nI m < nI j ↔ nI (m + 1) ≤ nI j := by
      rw [nI_ltI (by omega) hj, nI_leI (by omega) hj]; omega
    by_cases h : nI (m + 1) ≤ nI j
    · rw [decide_eq_true h, decide_eq_true (h0.mpr h)]
    · rw [decide_eq_false h, decide_eq_false (fun q => h (h0.mp q))]
  unfold inR inB
  by_cases hv : v < 0
  · simp [hv]
  · rw [key v hv]
def rlC (n : Nat) (il sp : Nat → Int32) (t : Int32) : Nat → Int32 := sI (fun k => if (decide (il k = 0) && hs (sp k) t) = true then 1 else 0)
def rlF (n : Nat) (il sp : Nat → Int32) (w se : Int32) : Nat → Int32
  | 0 => 0
  | k + 1 => rlF n il sp w se k ||| (if (hs w (nI k) && !decide (se ≤ rlC n il sp (nI k) n)) = true then ((1 : Int32) <<< (nI k &&& 31)) else 0)
/-- wm ch ne np al cp nr -/
abbrev RA : Type := Int32 × Int32 × Int32 × Int32 × Int32 × (Nat → Int32) × (Nat → Int32)
def rpS (py ro : Nat → Int32) : Nat → Int32 := sI (fun k => if 5 ≤ ro k then 0 else py k)
def rmS (bo ro : Nat → Int32) : Nat → Int32 := sI (fun k => if ro k = bo k then 0 else 1)
def raL (ro : Nat → Int32) (al : Int32) : Nat → Int32
  | 0 => al
  | k + 1 => if 5 ≤ ro k then raL ro al k &&& (((1 : Int32) <<< (nI k &&& 31)) ^^^ (-1)) else raL ro al k
def rcB (ch v : Int32) : Bool := decide (ch = -1) || !decide (ch ≤ v)
def rnB (ne np mv v : Int32) : Bool := decide (ne = -1) || (decide (mv < ne) || (decide (mv = ne) && !decide (np ≤ v)))
def rA (n : Nat) (py bo ro : Nat → Int32) (a : RA) : RA := (a.1 + 1, (if rcB a.2.1 (rpS py ro n) = true then rpS py ro n else a.2.1), (if rnB a.2.2.1 a.2.2.2.1 (rmS bo ro n) (rpS py ro n) = true then rmS bo ro n else a.2.2.1), (if rnB a.2.2.1 a.2.2.2.1 (rmS bo ro n) (rpS py ro n) = true then rpS py ro n else a.2.2.2.1), raL ro a.2.2.2.2.1 n, (if rcB a.2.1 (rpS py ro n) = true then fillN a.2.2.2.2.2.1 n ro else a.2.2.2.2.2.1), (if rnB a.2.2.1 a.2.2.2.1 (rmS bo ro n) (rpS py ro n) = true then fillN a.2.2.2.2.2.2 n ro else a.2.2.2.2.2.2))
def rowD : Nat → Nat → (Nat → Int32) → Nat → Int32
  | 0, _, ro => ro
  | j + 1, l, ro => rowD j (l / 6) (upd ro j (nI (l % 6)))
/-- the rows of numbers 0 .. m-1, one behind another: what was found, and the row -/
def ftL (n : Nat) (kn sp py il bo : Nat → Int32) (f w se : Int32) (x : RA × (Nat → Int32)) : Nat → RA × (Nat → Int32)
  | 0 => x
  | m + 1 => (fun y : RA × (Nat → Int32) => ((if (itF n sp il w se (rowD n m y.2) && iwF n kn f w (rowD n m y.2)) = true then rA n py bo (rowD n m y.2) y.1 else y.1), rowD n m y.2)) (ftL n kn sp py il bo f w se x m)
abbrev FS : Type := Int32 × Int32 × Int32 × Int32 × Int32 × (Nat → Int32) × (Nat → Int32) × (Nat → Int32)
def ftO (y : RA × (Nat → Int32)) : FS := (y.1.1, y.1.2.1, y.1.2.2.1, y.1.2.2.2.1, y.1.2.2.2.2.1, y.2, y.1.2.2.2.2.2.1, y.1.2.2.2.2.2.2)
def ftF (n : Nat) (kn sp py il fl wa bo : Nat → Int32) (se a : Int32) (x : FS) : FS := ftO (ftL n kn sp py il bo (fl a.toNatClampNeg) (wa a.toNatClampNeg) se ((0, -1, -1, x.2.2.2.1, 63, x.2.2.2.2.2.2.1, x.2.2.2.2.2.2.2), x.2.2.2.2.2.1) (6 ^ n))
def rtR (a1 a2 : Int32) (y : FS) : Int32 := if inR a1 0 1 = true then (if inR a2 0 1 = true then (if y.1 = 0 then -4 else if a2 = 0 then y.2.1 else y.2.2.2.1) else -3) else -2
def rtF (n : Nat) (a1 a2 : Int32) (y x : FS) (bo : Nat → Int32) : Int32 × Int32 × Int32 × Int32 × Int32 × (Nat → Int32) × (Nat → Int32) × (Nat → Int32) × (Nat → Int32) :=
  if (inR a1 0 1 = true ∧ inR a2 0 1 = true) then (y.1, y.2.1, y.2.2.1, y.2.2.2.1, y.2.2.2.2.1, (if y.1 = 0 then bo else if a2 = 0 then fillN bo n y.2.2.2.2.2.2.1 else fillN bo n y.2.2.2.2.2.2.2), y.2.2.2.2.2.1, y.2.2.2.2.2.2.1, y.2.2.2.2.2.2.2)
  else (x.1, x.2.1, x.2.2.1, x.2.2.2.1, x.2.2.2.2.1, bo, x.2.2.2.2.2.1, x.2.2.2.2.2.2.1, x.2.2.2.2.2.2.2)
theorem upd_same (f : Nat → Int32) (k : Nat) : upd f k (f k) = f := by
  funext j
  by_cases h : j = k
  · subst h; simp [upd]
  · simp [upd, h]
theorem fillN_succ (f g : Nat → Int32) (k : Nat) : upd (fillN f k g) k (g k) = fillN f (k + 1) g := by
  funext j
  simp only [upd, fillN]
  by_cases h1 : j = k
  · subst h1; simp
  · have h2 : (j < k + 1) = (j < k) := by apply propext; omega
    simp [h1, h2]
theorem fillN_0 (f g : Nat → Int32) : fillN f 0 g = f := by funext j; simp [fillN]
theorem pow6_lt {n : Nat} (h : n ≤ 6) : 6 ^ n < 2 ^ 30 := by
  have : n = 0 ∨ n = 1 ∨ n = 2 ∨ n = 3 ∨ n = 4 ∨ n = 5 ∨ n = 6 := by omega
  rcases this with rfl | rfl | rfl | rfl | rfl | rfl | rfl <;> decide
theorem inR_2 (v : Int32) : inR v 0 1 = inB v 2 := inR_b (m := 1) (by omega)
theorem inR_5 (v : Int32) : inR v 0 4 = inB v 5 := inR_b (m := 4) (by omega)
theorem inR_16 (v : Int32) : inR v 0 15 = inB v 16 := inR_b (m := 15) (by omega)
