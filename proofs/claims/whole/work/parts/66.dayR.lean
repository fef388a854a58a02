/-! the reference's day, in the words of the class's -/
theorem upd_upd (f : Nat → Int32) (k : Nat) (a b : Int32) : upd (upd f k a) k b = upd f k b := by
  funext j
  by_cases h : j = k <;> simp [upd, h]
theorem upd_at (f : Nat → Int32) (k : Nat) (a : Int32) : upd f k a k = a := by simp [upd]
theorem upd_ne (f : Nat → Int32) {k j : Nat} (a : Int32) (h : j ≠ k) : upd f k a j = f j := by simp [upd, h]
theorem hs_0 (f : Int32) : hs 0 f = false := by
  have e : (0 : Int32) >>> (f &&& 31) = 0 := Int32.zero_shiftRight
  unfold hs
  rw [e]
  decide
theorem nI_m1 {j : Nat} (hj : j < 2 ^ 31) : ¬ nI j = -1 := by
  intro h
  have h1 := nI_toInt hj
  rw [h] at h1
  have h2 : (-1 : Int32).toInt = -1 := by decide
  omega
theorem inB_m1 (m : Int32) : inB (-1) m = false := by
  unfold inB
  have : (-1 : Int32) < 0 := by decide
  simp [this]
theorem chO_val (n : Nat) (bo ti on : Nat → Int32) (hn : n ≤ 6) : ∀ k, k ≤ n → ∀ t, t < 5 → chO n bo ti on k t = -1 ∨ ∃ j, j < k ∧ chO n bo ti on k t = nI j ∧ bo j = nI t := by
  intro k
  induction k with
  | zero => intro _ t ht; left; simp [chO, fillA, ht]
  | succ k ih =>
    intro hk t ht
    rw [chO]
    split
    · next h =>
      rw [Bool.and_eq_true] at h
      obtain ⟨r, hr, hbr⟩ := (inB_iff (n := 5) (by omega)).mp h.1
      have ec : (bo k).toNatClampNeg = r := by rw [hbr, nI_clamp (by omega)]
      by_cases e : t = r
      · right
        refine ⟨k, by omega, ?_, ?_⟩
        · rw [ec, ← e, upd_at]
        · rw [hbr, e]
      · rw [ec, upd_ne _ _ e]
        rcases ih (by omega) t ht with q | ⟨j, h1, h2, h3⟩
        · exact Or.inl q
        · exact Or.inr ⟨j, by omega, h2, h3⟩
    · rcases ih (by omega) t ht with q | ⟨j, h1, h2, h3⟩
      · exact Or.inl q
      · exact Or.inr ⟨j, by omega, h2, h3⟩
theorem chO_step (n : Nat) (bo ti on : Nat → Int32) (hn : n ≤ 6) {k t : Nat} (hk : k < n) (ht : t < 5) : chO n bo ti on (k + 1) t = if bo k = nI t then (if (chO n bo ti on k t = -1 ∨ ¬ ti (chO n bo ti on k t).toNatClampNeg ≤ ti k) then nI k else chO n bo ti on k t) else chO n bo ti on k t := by
  rw [chO]
  by_cases hb : bo k = nI t
  · have hi : inB (bo k) 5 = true := by rw [hb]; exact inB_nI (n := 5) ht (by omega)
    have ec : (bo k).toNatClampNeg = t := by rw [hb, nI_clamp (by omega)]
    rw [hi, ec, if_pos hb, Bool.true_and]
    have ek : (nI k).toNatClampNeg = k := nI_clamp (by omega)
    rcases chO_val n bo ti on hn k (by omega) t ht with q | ⟨j, h1, h2, h3⟩
    · have e : frF n ti (nI k) (chO n bo ti on k t) = true := by rw [q, frF, inB_m1]; rfl
      rw [e, if_pos rfl, upd_at, if_pos (Or.inl q)]
    · have hj : inB (chO n bo ti on k t) (nI n) = true := by rw [h2]; exact inB_nI (by omega) (by omega)
      have hne : ¬ chO n bo ti on k t = -1 := by rw [h2]; exact nI_m1 (by omega)
      by_cases hle : ti (chO n bo ti on k t).toNatClampNeg ≤ ti k
      · have e : frF n ti (nI k) (chO n bo ti on k t) = false := by simp [frF, hj, ek, hle]
        rw [e, if_neg (by decide), if_neg (fun q => q.elim hne (fun q2 => q2 hle))]
      · have e : frF n ti (nI k) (chO n bo ti on k t) = true := by simp [frF, ek, hle]
        rw [e, if_pos rfl, upd_at, if_pos (Or.inr hle)]
  · rw [if_neg hb]
    split
    · next h =>
      rw [Bool.and_eq_true] at h
      obtain ⟨r, hr, hbr⟩ := (inB_iff (n := 5) (by omega)).mp h.1
      have ec : (bo k).toNatClampNeg = r := by rw [hbr, nI_clamp (by omega)]
      have hrt : t ≠ r := fun e => hb (by rw [hbr, e])
      rw [ec, upd_ne _ _ hrt]
    · rfl
/-- beyond the booths nothing is written -/
theorem chO_out (n : Nat) (bo ti on : Nat → Int32) : ∀ k j, ¬ j < 5 → chO n bo ti on k j = on j := by
  intro k
  induction k with
  | zero => intro j hj; simp [chO, fillA, hj]
  | succ k ih =>
    intro j hj
    rw [chO]
    split
    · next h =>
      rw [Bool.and_eq_true] at h
      obtain ⟨r, hr, hbr⟩ := (inB_iff (n := 5) (by omega)).mp h.1
      have ec : (bo k).toNatClampNeg = r := by rw [hbr, nI_clamp (by omega)]
      rw [ec, upd_ne _ _ (by omega)]
      exact ih j hj
    · exact ih j hj
theorem chO_fill (n : Nat) (bo ti on : Nat → Int32) : fillN on 5 (chO n bo ti on n) = chO n bo ti on n := by
  funext j
  by_cases h : j < 5
  · simp [fillN, h]
  · simp [fillN, h, chO_out n bo ti on n j h]
theorem kn_at (n : Nat) (kn bo ti on : Nat → Int32) (hn : n ≤ 6) (f : Int32) {t : Nat} (ht : t < 5) : hs (atP n kn 0 (chO n bo ti on n t)) f = (!decide (chO n bo ti on n t = -1) && hs (kn (chO n bo ti on n t).toNatClampNeg) f) := by
  rcases chO_val n bo ti on hn n (Nat.le_refl _) t ht with q | ⟨j, h1, h2, h3⟩
  · rw [q, atP, inB_m1, if_neg (by decide), hs_0]; simp
  · rw [h2, atP_nI h1 (by omega), nI_clamp (by omega), decide_eq_false (nI_m1 (by omega))]; simp
theorem on_in (n : Nat) (bo ti on : Nat → Int32) (hn : n ≤ 6) {t : Nat} (ht : t < 5) (h : ¬ chO n bo ti on n t = -1) : inB (chO n bo ti on n t) 6 = true ∧ ∃ j, j < n ∧ chO n bo ti on n t = nI j := by
  rcases chO_val n bo ti on hn n (Nat.le_refl _) t ht with q | ⟨j, h1, h2, h3⟩
  · exact absurd q h
  · exact ⟨by rw [h2]; exact inB_nI (n := 6) (by omega) (by omega), j, h1, h2⟩
def tiV (n : Nat) (bo on he : Nat → Int32) (w : Int32) (ti : Nat → Int32) (k : Nat) : Int32 := if tuF n bo on he (nI k) = true then ti k + w else (if (0 : Int32) < ti k - 2 then ti k - 2 else 0)
theorem tiF_eq (n : Nat) (bo on he : Nat → Int32) (w : Int32) (ti : Nat → Int32) : ∀ m, tiF n bo on he w ti m = fillN ti m (tiV n bo on he w ti) := by
  intro m
  induction m with
  | zero => rw [tiF, fillN_0]
  | succ m ih =>
    have e : fillN ti m (tiV n bo on he w ti) m = ti m := by simp [fillN]
    rw [tiF, ih, e, ← fillN_succ]
    rfl
def wkF (on he : Nat → Int32) (k : Nat) : Nat → Bool
  | 0 => false
  | t + 1 => wkF on he k t || (decide (on t = nI k) && !decide (he t = -1))
theorem wk_tu (n : Nat) (bo ti on he : Nat → Int32) (hn : n ≤ 6) {k : Nat} (hk : k < n) : wkF (chO n bo ti on n) he k 5 = tuF n bo (chO n bo ti on n) he (nI k) := by
  have eb : atP n bo 5 (nI k) = bo k := atP_nI hk (by omega)
  have only : ∀ t, t < 5 → chO n bo ti on n t = nI k → bo k = nI t := by
    intro t ht h
    rcases chO_val n bo ti on hn n (Nat.le_refl _) t ht with q | ⟨j, h1, h2, h3⟩
    · rw [q] at h; exact absurd h.symm (nI_m1 (by omega))
    · have : j = k := (nI_eq (by omega) (by omega)).mp (h2.symm.trans h)
      subst this; exact h3
  have pre : ∀ t, t ≤ 5 → (wkF (chO n bo ti on n) he k t = true ↔ ∃ r, r < t ∧ chO n bo ti on n r = nI k ∧ ¬ he r = -1) := by
    intro t
    induction t with
    | zero => intro _; simp [wkF]
    | succ t ih =>
      intro ht
      rw [wkF, Bool.or_eq_true, ih (by omega)]
      constructor
      · rintro (⟨r, h1, h2⟩ | h)
        · exact ⟨r, by omega, h2⟩
        · rw [Bool.and_eq_true] at h
          exact ⟨t, by omega, by simpa using h.1, by simpa using h.2⟩
      · rintro ⟨r, h1, h2, h3⟩
        by_cases e : r = t
        · subst e; right; simp [h2, h3]
        · left; exact ⟨r, by omega, h2, h3⟩
  have key : wkF (chO n bo ti on n) he k 5 = true ↔ tuF n bo (chO n bo ti on n) he (nI k) = true := by
    rw [pre 5 (Nat.le_refl _), tuF, eb, Bool.and_eq_true, Bool.and_eq_true]
    constructor
    · rintro ⟨r, h1, h2, h3⟩
      have hb := only r h1 h2
      have ec : (bo k).toNatClampNeg = r := by rw [hb, nI_clamp (by omega)]
      rw [ec]
      exact ⟨by rw [hb]; exact inB_nI (n := 5) h1 (by omega), by simp [h2], by simp [h3]⟩
    · rintro ⟨h1, h2, h3⟩
      obtain ⟨r, hr, hbr⟩ := (inB_iff (n := 5) (by omega)).mp h1
      have ec : (bo k).toNatClampNeg = r := by rw [hbr, nI_clamp (by omega)]
      rw [ec] at h2 h3
      exact ⟨r, hr, by simpa using h2, by simpa using h3⟩
  cases ha : wkF (chO n bo ti on n) he k 5 <;> cases hb : tuF n bo (chO n bo ti on n) he (nI k)
  · rfl
  · rw [key.mpr hb] at ha; exact ha.symm
  · rw [key.mp ha] at hb; exact hb
  · rfl
theorem ti_low {a : Nat} (ha : a < 2 ^ 20) : (if (0 : Int32) < nI a - 2 then nI a - 2 else 0) = (if nI a ≤ 2 then 0 else nI a - 2) := by
  have e2 : (2 : Int32) = nI 2 := rfl
  by_cases h : a ≤ 2
  · have h1 : nI a ≤ 2 := by rw [e2]; exact nI_le h (by omega)
    have h2 : a = 0 ∨ a = 1 ∨ a = 2 := by omega
    rw [if_pos h1]
    rcases h2 with rfl | rfl | rfl <;> decide
  · have h1 : ¬ nI a ≤ 2 := by rw [e2, nI_leI (by omega) (by omega)]; exact h
    have e3 : nI a - 2 = nI (a - 2) := by rw [e2, pk_sub (by omega)]
    rw [if_neg h1, e3, if_pos]
    exact nI_lt (a := 0) (by omega) (by omega)
theorem inR_9 {v : Int32} (h : inR v 0 9 = true) : ∃ b, b ≤ 9 ∧ v = nI b := by
  have : inR v 0 (nI 9) = inB v (nI (9 + 1)) := inR_b (by omega)
  have h2 : inB v (nI 10) = true := by rw [← this]; exact h
  obtain ⟨b, hb, e⟩ := (inB_iff (by omega)).mp h2
  exact ⟨b, by omega, e⟩
theorem plT_bd (n : Nat) (kn bo so sd : Nat → Int32) (x : DS) (hn : n ≤ 6) (hsd : ∀ h, h < 16 → inR (sd h) 0 9 = true) : ∀ h, h ≤ 16 → ∀ k, k < 6 → ∃ a, a ≤ 9 * h ∧ (plT n kn bo so sd x h).1 k = nI a := by
  intro h
  induction h with
  | zero => intro _ k hk; exact ⟨0, by omega, by simp [plT, fillA, hk]; rfl⟩
  | succ h ih =>
    intro hh k hk
    obtain ⟨a, ha, e⟩ := ih (by omega) k hk
    have eh : inB (nI h) 16 = true := inB_nI (n := 16) (by omega) (by omega)
    rw [plT, plH, if_pos eh, plG, nI_clamp (by omega)]
    show ∃ b, b ≤ 9 * (h + 1) ∧ tiF n bo _ _ (sd h) (plT n kn bo so sd x h).1 n k = nI b
    rw [tiF_eq]
    by_cases hkn : k < n
    · simp only [fillN, if_pos hkn, tiV, e]
      obtain ⟨b, hb, eb⟩ := inR_9 (hsd h (by omega))
      split
      · exact ⟨a + b, by omega, by rw [eb, nI_add]⟩
      · rw [ti_low (by omega)]
        split
        · exact ⟨0, by omega, rfl⟩
        · next hq =>
          have e2 : (2 : Int32) = nI 2 := rfl
          rw [e2, nI_leI (by omega) (by omega)] at hq
          exact ⟨a - 2, by omega, by rw [e2, pk_sub (by omega)]⟩
    · simp only [fillN, if_neg hkn, e]
      exact ⟨a, by omega, rfl⟩
def gtF (n : Nat) (kn bo so sd : Nat → Int32) (li : Int32) (x : DS) (la : Nat → Int32) (h : Nat) : Int32 × (Nat → Int32) × (Nat → Int32) × (Nat → Int32) × (Nat → Int32) := (woO n kn bo so sd x li h, (plT n kn bo so sd x h).1, (plT n kn bo so sd x h).2.1, (plT n kn bo so sd x h).2.2, fillN la 5 (fun t => laO n kn bo so sd x (nI t) h))
def rcO (n : Nat) (il bo so : Nat → Int32) (se a : Int32) : Int32 := if a = 0 then nI n else if a = 1 then sI (fun k => if il k = 0 then 0 else 1) n else if a = 2 then sI (fun k => if bo k < 5 then 1 else 0) n else if a = 3 then sI (fun k => bI (!decide (so k = -1))) 16 else if a = 4 then se else -3
theorem fillA_succ (f : Nat → Int32) (k : Nat) (v : Int32) : upd (fillA f k v) k v = fillA f (k + 1) v := by
  funext j
  simp only [upd, fillA]
  by_cases h1 : j = k
  · subst h1; simp
  · have h2 : (j < k + 1) = (j < k) := by apply propext; omega
    simp [h1, h2]
