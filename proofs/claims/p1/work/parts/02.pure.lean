/-! pure words -/
def bI (b : Bool) : Int32 := if b = true then 1 else 0
def hs (x k : Int32) : Bool := decide ((x >>> (k &&& 31)) &&& 1 = 1)
def inN (v : Int32) (n : Nat) : Bool := decide (0 ≤ v) && decide (v < nI n)
def sI (f : Nat → Int32) : Nat → Int32
  | 0 => 0
  | k + 1 => sI f k + f k
theorem bI_nar (b : Bool) : narrow .boolean (.int (bI b)) = .int (bI b) := by cases b <;> rfl
theorem bI_t : bI true = 1 := rfl
theorem bI_f : bI false = 0 := rfl
theorem bI_0 (b : Bool) : bI b = 0 ↔ b = false := by cases b <;> decide
theorem bI_1 (b : Bool) : bI b = 1 ↔ b = true := by cases b <;> decide
/-! the pure words of the contracts: people -/
def inB (v m : Int32) : Bool := !decide (v < 0) && !decide (m ≤ v)
def fillA (f : Nat → Int32) (N : Nat) (v : Int32) : Nat → Int32 := fun j => if j < N then v else f j
def atP (n : Nat) (f : Nat → Int32) (z v : Int32) : Int32 := if inB v (nI n) = true then f v.toNatClampNeg else z
def canT (n : Nat) (il : Int32) (sp : Nat → Int32) (v t : Int32) : Bool := inB v (nI n) && (!hs il v && hs (sp v.toNatClampNeg) t)
theorem up_ind (P : Nat → Prop) (n : Nat) (h0 : P n) (hs : ∀ k, k < n → P (k + 1) → P k) : P 0 := by
  have key : ∀ d k, k + d = n → P k := by
    intro d
    induction d with
    | zero => intro k hk; have : k = n := by omega
              subst this; exact h0
    | succ d ih => intro k hk; exact hs k (by omega) (ih (k + 1) (by omega))
  exact key n 0 (by omega)
theorem inB_iff {v : Int32} {n : Nat} (hn : n < 2 ^ 31) : inB v (nI n) = true ↔ ∃ k, k < n ∧ v = nI k := by
  constructor
  · intro h
    simp only [inB, Bool.and_eq_true, Bool.not_eq_true', decide_eq_false_iff_not] at h
    obtain ⟨j, hj, rfl⟩ := nI_of h.1
    exact ⟨j, by
      rcases Nat.lt_or_ge j n with q | q
      · exact q
      · exact absurd (nI_le q hj) h.2, rfl⟩
  · rintro ⟨k, hk, rfl⟩
    simp only [inB, Bool.and_eq_true, Bool.not_eq_true', decide_eq_false_iff_not]
    exact ⟨nI_pos (by omega), nI_ge hk hn⟩
theorem inB_nI {k n : Nat} (h : k < n) (hn : n < 2 ^ 31) : inB (nI k) (nI n) = true := (inB_iff hn).mpr ⟨k, h, rfl⟩
theorem atP_nI {k n : Nat} {f : Nat → Int32} {z : Int32} (h : k < n) (hn : n < 2 ^ 31) : atP n f z (nI k) = f k := by
  rw [atP, inB_nI h hn, if_pos rfl, nI_clamp (by omega)]
theorem inB_in {v : Int32} {n N : Nat} (h : inB v (nI n) = true) (hn : n ≤ N) (hN : N < 2 ^ 31) : vp_in v N := by
  obtain ⟨k, hk, rfl⟩ := (inB_iff (by omega)).mp h
  exact vp_in_nI (by omega) hN
theorem bI_n0 (b : Bool) : ¬ bI b = 0 ↔ b = true := by cases b <;> decide
