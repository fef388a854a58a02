/-! ===== whether a row is a team; counts ===== -/
def cntR (ro : Nat → Int32) (t : Nat) : Nat → Nat
  | 0 => 0
  | k + 1 => cntR ro t k + (if ro k = nI t then 1 else 0)
def s5 (c : Nat → Nat) : Nat := c 0 + c 1 + c 2 + c 3 + c 4
theorem cntR_le (ro : Nat → Int32) (t : Nat) : ∀ k, cntR ro t k ≤ k := by
  intro k
  induction k with
  | zero => exact Nat.le_refl _
  | succ k ih => rw [cntR]; split <;> omega
theorem cntR_mono (ro : Nat → Int32) (t : Nat) {k : Nat} : ∀ m, k ≤ m → cntR ro t k ≤ cntR ro t m := by
  intro m
  induction m with
  | zero => intro h; have : k = 0 := by omega
            subst this; exact Nat.le_refl _
  | succ m ih =>
    intro h
    by_cases e : k = m + 1
    · subst e; exact Nat.le_refl _
    · have := ih (by omega)
      rw [cntR]; omega
theorem cntR_congr {ro ro' : Nat → Int32} {t : Nat} : ∀ {k : Nat}, (∀ j, j < k → ro j = ro' j) → cntR ro t k = cntR ro' t k := by
  intro k
  induction k with
  | zero => intro _; rfl
  | succ k ih => intro h; rw [cntR, cntR, ih (fun j hj => h j (by omega)), h k (by omega)]
theorem cnT_cnt (ro : Nat → Int32) (t : Nat) : ∀ k, cnT ro (nI t) k = nI (cntR ro t k) := by
  intro k
  induction k with
  | zero => rfl
  | succ k ih =>
    have e : cnT ro (nI t) (k + 1) = cnT ro (nI t) k + (if ro k = nI t then 1 else 0) := rfl
    rw [e, ih, cntR]
    split
    · exact nI_1 _
    · exact Int32.add_zero _
theorem inc5 (v : Int32) : s5 (fun t => if v = nI t then 1 else 0) ≤ 1 := by
  unfold s5
  by_cases h0 : v = nI 0
  · subst h0; decide
  · by_cases h1 : v = nI 1
    · subst h1; decide
    · by_cases h2 : v = nI 2
      · subst h2; decide
      · by_cases h3 : v = nI 3
        · subst h3; decide
        · by_cases h4 : v = nI 4
          · subst h4; decide
          · simp [h0, h1, h2, h3, h4]
theorem cnt_sum (ro : Nat → Int32) {k : Nat} : ∀ m, k ≤ m → s5 (fun t => cntR ro t m) ≤ s5 (fun t => cntR ro t k) + (m - k) := by
  intro m
  induction m with
  | zero => intro h; have : k = 0 := by omega
            subst this; exact Nat.le_refl _
  | succ m ih =>
    intro h
    by_cases e : k = m + 1
    · subst e; omega
    · have h1 := ih (by omega)
      have h2 := inc5 (ro m)
      simp only [s5, cntR] at h1 h2 ⊢
      omega
theorem itA_iff (sp il : Nat → Int32) (w : Int32) (ro : Nat → Int32) : ∀ n, (itA sp il w ro n = true ↔ ∀ k, k < n → ro k = 5 ∨ (hs w (ro k) = true ∧ hs (sp k) (ro k) = true ∧ il k = 0)) := by
  intro n
  induction n with
  | zero => simp [itA]
  | succ n ih =>
    rw [itA, Bool.and_eq_true, ih]
    simp only [Bool.or_eq_true, Bool.and_eq_true, decide_eq_true_eq]
    constructor
    · rintro ⟨h1, h2⟩ k hk
      by_cases e : k = n
      · subst e; exact h2
      · exact h1 k (by omega)
    · intro h
      exact ⟨fun k hk => h k (by omega), h n (by omega)⟩
theorem itB_iff (n : Nat) (w se : Int32) (ro : Nat → Int32) : ∀ k, (itB n w se ro k = true ↔ ∀ t, t < k → hs w (nI t) = true → cnT ro (nI t) n = se) := by
  intro k
  induction k with
  | zero => simp [itB]
  | succ k ih =>
    rw [itB, Bool.and_eq_true, ih, Bool.or_eq_true, Bool.not_eq_true', decide_eq_true_eq]
    constructor
    · rintro ⟨h1, h2⟩ t ht hw
      by_cases e : t = k
      · subst e
        rcases h2 with q | q
        · rw [hw] at q; exact absurd q (by decide)
        · exact q
      · exact h1 t (by omega) hw
    · intro h
      refine ⟨fun t ht hw => h t (by omega) hw, ?_⟩
      cases hw : hs w (nI k)
      · exact Or.inl rfl
      · exact Or.inr (h k (by omega) hw)
theorem itF_iff (n : Nat) (sp il : Nat → Int32) (w se : Int32) (ro : Nat → Int32) : itF n sp il w se ro = true ↔ (∀ k, k < n → ro k = 5 ∨ (hs w (ro k) = true ∧ hs (sp k) (ro k) = true ∧ il k = 0)) ∧ (∀ t, t < 5 → hs w (nI t) = true → cnT ro (nI t) n = se) := by
  rw [itF, Bool.and_eq_true, itA_iff, itB_iff]
theorem sI_congr {f g : Nat → Int32} : ∀ {n : Nat}, (∀ k, k < n → f k = g k) → sI f n = sI g n := by
  intro n
  induction n with
  | zero => intro _; rfl
  | succ n ih => intro h; rw [sI, sI, ih (fun k hk => h k (by omega)), h n (by omega)]
theorem itF_congr {n : Nat} {sp il : Nat → Int32} {w se : Int32} {ro ro' : Nat → Int32} (h : ∀ k, k < n → ro k = ro' k) : itF n sp il w se ro = itF n sp il w se ro' := by
  have e : ∀ t, cnT ro t n = cnT ro' t n := fun t => sI_congr (fun k hk => by rw [h k hk])
  have key : itF n sp il w se ro = true ↔ itF n sp il w se ro' = true := by
    rw [itF_iff, itF_iff]
    simp only [e]
    constructor
    · rintro ⟨h1, h2⟩; exact ⟨fun k hk => by rw [← h k hk]; exact h1 k hk, h2⟩
    · rintro ⟨h1, h2⟩; exact ⟨fun k hk => by rw [h k hk]; exact h1 k hk, h2⟩
  cases h1 : itF n sp il w se ro <;> cases h2 : itF n sp il w se ro'
  · rfl
  · rw [key.mpr h2] at h1; exact h1.symm
  · rw [key.mp h1] at h2; exact h2
  · rfl
/-! ===== the reference's rows as numbers ===== -/
def rowOf (n m k : Nat) : Int32 := nI (m / 6 ^ (n - 1 - k) % 6)
theorem rowD_out : ∀ (j l : Nat) (ro : Nat → Int32) (k : Nat), j ≤ k → rowD j l ro k = ro k := by
  intro j
  induction j with
  | zero => intro l ro k _; rfl
  | succ j ih => intro l ro k hk; rw [rowD, ih _ _ _ (by omega), upd_ne _ _ (by omega)]
theorem rowD_at : ∀ (j l : Nat) (ro : Nat → Int32) (k : Nat), k < j → rowD j l ro k = nI (l / 6 ^ (j - 1 - k) % 6) := by
  intro j
  induction j with
  | zero => intro l ro k hk; omega
  | succ j ih =>
    intro l ro k hk
    rw [rowD]
    by_cases e : k = j
    · subst e
      rw [rowD_out _ _ _ _ (Nat.le_refl _), upd_at]
      have : k + 1 - 1 - k = 0 := by omega
      rw [this, Nat.pow_zero, Nat.div_one]
    · rw [ih _ _ _ (by omega), Nat.div_div_eq_div_mul]
      have : j + 1 - 1 - k = (j - 1 - k) + 1 := by omega
      rw [this, Nat.pow_succ, Nat.mul_comm]
theorem rowD_row (n m : Nat) (ro : Nat → Int32) {k : Nat} (hk : k < n) : rowD n m ro k = rowOf n m k := rowD_at n m ro k hk
theorem rowOf_in (n m k : Nat) : inB (rowOf n m k) 6 = true := inB_nI (n := 6) (Nat.mod_lt _ (by omega)) (by omega)
def gR (n : Nat) (kn sp py il bo : Nat → Int32) (f w se : Int32) (a : RA) (m : Nat) : RA := if (itF n sp il w se (rowOf n m) && iwF n kn f w (rowOf n m)) = true then rA n py bo (rowOf n m) a else a
def foR (g : RA → Nat → RA) (a : RA) (b : Nat) : Nat → RA
  | 0 => a
  | l + 1 => g (foR g a b l) (b + l)
theorem foR_add (g : RA → Nat → RA) (a : RA) (b l1 : Nat) : ∀ l2, foR g a b (l1 + l2) = foR g (foR g a b l1) (b + l1) l2 := by
  intro l2
  induction l2 with
  | zero => rfl
  | succ l2 ih =>
    rw [← Nat.add_assoc, foR, ih, foR, Nat.add_assoc]
theorem foR_id (g : RA → Nat → RA) (b : Nat) (a : RA) : ∀ l, (∀ m, b ≤ m → m < b + l → ∀ a, g a m = a) → foR g a b l = a := by
  intro l
  induction l with
  | zero => intro _; rfl
  | succ l ih => intro h; rw [foR, ih (fun m h1 h2 => h m h1 (by omega)), h (b + l) (by omega) (by omega)]
theorem raL_congr {ro ro' : Nat → Int32} {al : Int32} : ∀ {n : Nat}, (∀ k, k < n → ro k = ro' k) → raL ro al n = raL ro' al n := by
  intro n
  induction n with
  | zero => intro _; rfl
  | succ n ih => intro h; rw [raL, raL, ih (fun k hk => h k (by omega)), h n (by omega)]
theorem fillN_congr {f g g' : Nat → Int32} {n : Nat} (h : ∀ k, k < n → g k = g' k) : fillN f n g = fillN f n g' := by
  funext j
  by_cases hj : j < n
  · simp [fillN, hj, h j hj]
  · simp [fillN, hj]
theorem rA_congr {n : Nat} {py bo ro ro' : Nat → Int32} (h : ∀ k, k < n → ro k = ro' k) (a : RA) : rA n py bo ro a = rA n py bo ro' a := by
  have e1 : rpS py ro n = rpS py ro' n := sI_congr (fun k hk => by rw [h k hk])
  have e2 : rmS bo ro n = rmS bo ro' n := sI_congr (fun k hk => by rw [h k hk])
  have e3 : raL ro a.2.2.2.2.1 n = raL ro' a.2.2.2.2.1 n := raL_congr h
  have e4 : ∀ f, fillN f n ro = fillN f n ro' := fun f => fillN_congr h
  simp only [rA, e1, e2, e3, e4]
theorem iwF_congr {n : Nat} {kn ro ro' : Nat → Int32} {f w : Int32} (h : ∀ k, k < n → ro k = ro' k) : iwF n kn f w ro = iwF n kn f w ro' := by
  have ak : ∀ t a, akF kn ro t a n = akF kn ro' t a n := fun t a => akF_congr h
  have key : iwF n kn f w ro = true ↔ iwF n kn f w ro' = true := by
    simp only [iwF, iwL_iff, iwR_iff, iwC, ak]
  cases h1 : iwF n kn f w ro <;> cases h2 : iwF n kn f w ro'
  · rfl
  · rw [key.mpr h2] at h1; exact h1.symm
  · rw [key.mp h1] at h2; exact h2
  · rfl
theorem ftL_foR (n : Nat) (kn sp py il bo : Nat → Int32) (f w se : Int32) (x : RA × (Nat → Int32)) : ∀ m, (ftL n kn sp py il bo f w se x m).1 = foR (gR n kn sp py il bo f w se) x.1 0 m := by
  intro m
  induction m with
  | zero => rfl
  | succ m ih =>
    rw [ftL, foR, Nat.zero_add]
    generalize hy : ftL n kn sp py il bo f w se x m = y at ih ⊢
    have hr : ∀ k, k < n → rowD n m y.2 k = rowOf n m k := fun k hk => rowD_row n m y.2 hk
    show (if (itF n sp il w se (rowD n m y.2) && iwF n kn f w (rowD n m y.2)) = true then rA n py bo (rowD n m y.2) y.1 else y.1) = _
    rw [← ih, gR, itF_congr hr, iwF_congr hr, rA_congr hr]
/-! ===== what was found, on both sides ===== -/
def RelA (n B : Nat) (a : Acc) (r : RA) : Prop := ∃ c, c ≤ B ∧ a.1 = nI c ∧ r.1 = nI c ∧ a.2.2.1 = r.2.1 ∧ a.2.2.2.1 = r.2.2.1 ∧ (c = 0 → r.2.1 = -1 ∧ r.2.2.1 = -1) ∧
  (0 < c → r.2.1 ≠ -1 ∧ r.2.2.1 ≠ -1 ∧ a.2.2.2.2.1 = r.2.2.2.1 ∧ (∀ j, j < n → a.2.2.2.2.2.1 j = r.2.2.2.2.2.1 j ∧ a.2.2.2.2.2.2 j = r.2.2.2.2.2.2 j ∧ inB (a.2.2.2.2.2.1 j) 6 = true ∧ inB (a.2.2.2.2.2.2 j) 6 = true)) ∧
  (∀ k, k < n → hs r.2.2.2.2.1 (nI k) = !hs a.2.1 (nI k))
theorem sI_bd {f : Nat → Int32} {M : Nat} : ∀ {n : Nat}, (∀ k, k < n → ∃ b, b ≤ M ∧ f k = nI b) → ∃ s, s ≤ M * n ∧ sI f n = nI s := by
  intro n
  induction n with
  | zero => intro _; exact ⟨0, by omega, rfl⟩
  | succ n ih =>
    intro h
    obtain ⟨s, hs1, hs2⟩ := ih (fun k hk => h k (by omega))
    obtain ⟨b, hb, e⟩ := h n (by omega)
    exact ⟨s + b, by rw [Nat.mul_succ]; omega, by rw [sI, hs2, e, nI_add]⟩
theorem sbS_hs (tr : Nat → Int32) (sb : Int32) {k : Nat} : ∀ n, n ≤ 6 → k < 6 → hs (sbS tr sb n) (nI k) = (hs sb (nI k) || (decide (k < n) && decide (tr k = 5))) := by
  intro n
  induction n with
  | zero => intro _ _; simp [sbS]
  | succ n ih =>
    intro hn hk
    rw [sbS]
    by_cases e : k = n
    · subst e
      have e1 := ih (by omega) hk
      by_cases h5 : tr k = 5
      · rw [if_pos h5, hs_set _ (by omega) (by omega)]; simp [h5]
      · rw [if_neg h5, e1]; simp [h5]
    · have e2 : decide (k < n + 1) = decide (k < n) := by
        have : (k < n + 1) ↔ (k < n) := by omega
        simp [this]
      rw [e2, ← ih (by omega) hk]
      split
      · rw [hs_set _ (by omega) (by omega)]; simp [e]
      · rfl
theorem raL_hs (ro : Nat → Int32) (al : Int32) {k : Nat} : ∀ n, n ≤ 6 → k < 6 → hs (raL ro al n) (nI k) = (hs al (nI k) && !(decide (k < n) && decide (5 ≤ ro k))) := by
  intro n
  induction n with
  | zero => intro _ _; simp [raL]
  | succ n ih =>
    intro hn hk
    rw [raL]
    by_cases e : k = n
    · subst e
      have e1 := ih (by omega) hk
      by_cases h5 : 5 ≤ ro k
      · rw [if_pos h5, hs_clr _ (by omega) (by omega)]; simp [h5]
      · rw [if_neg h5, e1]; simp [h5]
    · have e2 : decide (k < n + 1) = decide (k < n) := by
        have : (k < n + 1) ↔ (k < n) := by omega
        simp [this]
      rw [e2, ← ih (by omega) hk]
      split
      · rw [hs_clr _ (by omega) (by omega)]; simp [e]
      · rfl
theorem row5 {v : Int32} (h : inB v 6 = true) : (5 ≤ v) ↔ v = 5 := by
  obtain ⟨b, hb, e⟩ := (inB_iff (n := 6) (by omega)).mp h
  have e5 : (5 : Int32) = nI 5 := rfl
  rw [e, e5, nI_leI (by omega) (by omega), nI_eq (by omega) (by omega)]
  omega
theorem cpy6 (f g : Nat → Int32) {j : Nat} (h : j < 6) : va_cpy f g 0 0 6 j = f j := by simp [va_cpy, h]
theorem Rel_pay {n : Nat} {py tr ro : Nat → Int32} (hro : ∀ k, k < n → tr k = ro k) (hin : ∀ k, k < n → inB (ro k) 6 = true) : paS py tr n = rpS py ro n := sI_congr (fun k hk => by
    have := row5 (hin k hk)
    rw [hro k hk]
    by_cases q : ro k = 5
    · rw [if_pos q, if_pos (this.mpr q)]
    · rw [if_neg q, if_neg (fun z => q (this.mp z))])
theorem Rel_mov {n : Nat} {bo bo' tr ro : Nat → Int32} (hbo : ∀ k, k < n → bo k = bo' k) (hro : ∀ k, k < n → tr k = ro k) : mvS bo tr n = rmS bo' ro n := sI_congr (fun k hk => by rw [hro k hk, hbo k hk])
theorem Rel_payn {n : Nat} (hn : n ≤ 6) {py ro : Nat → Int32} (hpy : ∀ k, k < n → ∃ b, b ≤ 99 ∧ py k = nI b) : ¬ rpS py ro n = -1 := by
  obtain ⟨s, hsb, es⟩ : ∃ s, s ≤ 99 * n ∧ sI (fun k => if 5 ≤ ro k then 0 else py k) n = nI s := sI_bd (fun k hk => by
    obtain ⟨b, hb, e⟩ := hpy k hk
    by_cases q : 5 ≤ ro k
    · exact ⟨0, by omega, by rw [if_pos q]; rfl⟩
    · exact ⟨b, hb, by rw [if_neg q, e]⟩)
  rw [rpS, es]
  exact nI_m1 (by omega)
theorem Rel_movn {n : Nat} (hn : n ≤ 6) {bo ro : Nat → Int32} : ¬ rmS bo ro n = -1 := by
  obtain ⟨s, hsb, es⟩ : ∃ s, s ≤ 1 * n ∧ sI (fun k => if ro k = bo k then (0 : Int32) else 1) n = nI s := sI_bd (fun k hk => by
    by_cases q : ro k = bo k
    · exact ⟨0, by omega, by rw [if_pos q]; rfl⟩
    · exact ⟨1, by omega, by rw [if_neg q]; rfl⟩)
  rw [rmS, es]
  exact nI_m1 (by omega)
theorem Rel_bits {n : Nat} (hn : n ≤ 6) {tr ro : Nat → Int32} {al sb : Int32} (hro : ∀ k, k < n → tr k = ro k) (hin : ∀ k, k < n → inB (ro k) 6 = true) (h7 : ∀ k, k < n → hs al (nI k) = !hs sb (nI k)) : ∀ k, k < n → hs (raL ro al n) (nI k) = !hs (sbS tr sb n) (nI k) := by
  intro k hk
  rw [raL_hs _ _ n hn (by omega), sbS_hs _ _ n hn (by omega), h7 k hk, hro k hk]
  have := row5 (hin k hk)
  by_cases q : ro k = 5
  · simp [hk, q]
  · have q2 : ¬ 5 ≤ ro k := fun z => q (this.mp z)
    simp [q, q2]
theorem Rel_core {n B c : Nat} (hn : n ≤ 6) {tr ro ct nt cp nr : Nat → Int32} {fo sb' lp fm pn wm ch ne np al' S M : Int32} {cb nb : Bool} (hro : ∀ k, k < n → tr k = ro k) (hin : ∀ k, k < n → inB (ro k) 6 = true) (hS1 : ¬ S = -1) (hM1 : ¬ M = -1) (hc : c ≤ B) (h1 : fo = nI c) (h2 : wm = nI c) (h3 : lp = ch) (h4 : fm = ne) (h5 : c = 0 → cb = true ∧ nb = true)
    (h6 : 0 < c → ch ≠ -1 ∧ ne ≠ -1 ∧ pn = np ∧ (∀ j, j < n → ct j = cp j ∧ nt j = nr j ∧ inB (ct j) 6 = true ∧ inB (nt j) 6 = true)) (hb : ∀ k, k < n → hs al' (nI k) = !hs sb' (nI k)) :
    RelA n (B + 1) (fo + 1, sb', (if cb = true then S else lp), (if nb = true then M else fm), (if nb = true then S else pn), (if cb = true then va_cpy tr ct 0 0 6 else ct), (if nb = true then va_cpy tr nt 0 0 6 else nt)) (wm + 1, (if cb = true then S else ch), (if nb = true then M else ne), (if nb = true then S else np), al', (if cb = true then fillN cp n ro else cp), (if nb = true then fillN nr n ro else nr)) := by
  have fN : ∀ (g : Nat → Int32) (j : Nat), j < n → fillN g n ro j = ro j := fun g j hj => by simp [fillN, hj]
  have cy : ∀ (g : Nat → Int32) (j : Nat), j < n → va_cpy tr g 0 0 6 j = ro j := fun g j hj => by rw [cpy6 _ _ (by omega), hro j hj]
  refine ⟨c + 1, by omega, ?_, ?_, ?_, ?_, fun q => by omega, fun _ => ⟨?_, ?_, ?_, fun j hj => ⟨?_, ?_, ?_, ?_⟩⟩, hb⟩
  · show fo + 1 = _
    rw [h1, nI_1]
  · show wm + 1 = _
    rw [h2, nI_1]
  · show (if cb = true then S else lp) = (if cb = true then S else ch)
    rw [h3]
  · show (if nb = true then M else fm) = (if nb = true then M else ne)
    rw [h4]
  · show (if cb = true then S else ch) ≠ -1
    cases hcb : cb
    · rcases Nat.eq_zero_or_pos c with q | q
      · rw [(h5 q).1] at hcb; exact absurd hcb (by decide)
      · exact (h6 q).1
    · exact hS1
  · show (if nb = true then M else ne) ≠ -1
    cases hcb : nb
    · rcases Nat.eq_zero_or_pos c with q | q
      · rw [(h5 q).2] at hcb; exact absurd hcb (by decide)
      · exact (h6 q).2.1
    · exact hM1
  · show (if nb = true then S else pn) = (if nb = true then S else np)
    cases hcb : nb
    · rcases Nat.eq_zero_or_pos c with q | q
      · rw [(h5 q).2] at hcb; exact absurd hcb (by decide)
      · exact (h6 q).2.2.1
    · rfl
  · show (if cb = true then va_cpy tr ct 0 0 6 else ct) j = (if cb = true then fillN cp n ro else cp) j
    cases hcb : cb
    · rcases Nat.eq_zero_or_pos c with q | q
      · rw [(h5 q).1] at hcb; exact absurd hcb (by decide)
      · exact ((h6 q).2.2.2 j hj).1
    · rw [if_pos rfl, if_pos rfl, cy _ j hj, fN _ j hj]
  · show (if nb = true then va_cpy tr nt 0 0 6 else nt) j = (if nb = true then fillN nr n ro else nr) j
    cases hcb : nb
    · rcases Nat.eq_zero_or_pos c with q | q
      · rw [(h5 q).2] at hcb; exact absurd hcb (by decide)
      · exact ((h6 q).2.2.2 j hj).2.1
    · rw [if_pos rfl, if_pos rfl, cy _ j hj, fN _ j hj]
  · show inB ((if cb = true then va_cpy tr ct 0 0 6 else ct) j) 6 = true
    cases hcb : cb
    · rcases Nat.eq_zero_or_pos c with q | q
      · rw [(h5 q).1] at hcb; exact absurd hcb (by decide)
      · exact ((h6 q).2.2.2 j hj).2.2.1
    · rw [if_pos rfl, cy _ j hj]; exact hin j hj
  · show inB ((if nb = true then va_cpy tr nt 0 0 6 else nt) j) 6 = true
    cases hcb : nb
    · rcases Nat.eq_zero_or_pos c with q | q
      · rw [(h5 q).2] at hcb; exact absurd hcb (by decide)
      · exact ((h6 q).2.2.2 j hj).2.2.2
    · rw [if_pos rfl, cy _ j hj]; exact hin j hj
theorem kc_eq {fo lp ch v : Int32} {c : Nat} (hc : c < 2 ^ 31) (h1 : fo = nI c) (h3 : lp = ch) (h5 : c = 0 → ch = -1) (h6 : 0 < c → ch ≠ -1) : kcC fo lp v = rcB ch v ∧ (c = 0 → rcB ch v = true) := by
  have z : (0 : Int32) = nI 0 := rfl
  have hz : (fo = 0) ↔ c = 0 := by rw [h1, z, nI_eq hc (by omega)]
  rw [kcC, rcB, h3]
  rcases Nat.eq_zero_or_pos c with q | q
  · rw [decide_eq_true (hz.mpr q), decide_eq_true (h5 q)]
    simp only [Bool.true_or]
    exact ⟨trivial, fun _ => trivial⟩
  · rw [decide_eq_false (fun w => by have := hz.mp w; omega), decide_eq_false (h6 q)]
    exact ⟨rfl, fun w => by omega⟩
theorem kn_eq {fo fm ne pn np mv v : Int32} {c : Nat} (hc : c < 2 ^ 31) (h1 : fo = nI c) (h4 : fm = ne) (h5 : c = 0 → ne = -1) (h6 : 0 < c → ne ≠ -1 ∧ pn = np) : knC fo fm pn mv v = rnB ne np mv v ∧ (c = 0 → rnB ne np mv v = true) := by
  have z : (0 : Int32) = nI 0 := rfl
  have hz : (fo = 0) ↔ c = 0 := by rw [h1, z, nI_eq hc (by omega)]
  rw [knC, rnB, h4]
  rcases Nat.eq_zero_or_pos c with q | q
  · rw [decide_eq_true (hz.mpr q), decide_eq_true (h5 q)]
    simp only [Bool.true_or]
    exact ⟨trivial, fun _ => trivial⟩
  · rw [decide_eq_false (fun w => by have := hz.mp w; omega), decide_eq_false (h6 q).1, (h6 q).2]
    exact ⟨rfl, fun w => by omega⟩
theorem RelA_step {n B : Nat} (hn : n ≤ 6) (hB : B < 2 ^ 30) {py bo bo' tr ro : Nat → Int32} {a : Acc} {r : RA} (hpy : ∀ k, k < n → ∃ b, b ≤ 99 ∧ py k = nI b) (hbo : ∀ k, k < n → bo k = bo' k) (hro : ∀ k, k < n → tr k = ro k) (hin : ∀ k, k < n → inB (ro k) 6 = true) (h : RelA n B a r) : RelA n (B + 1) (wgA n py bo tr a) (rA n py bo' ro r) := by
  obtain ⟨fo, sb, lp, fm, pn, ct, nt⟩ := a
  obtain ⟨wm, ch, ne, np, al, cp, nr⟩ := r
  obtain ⟨c, hc, h1, h2, h3, h4, h5, h6, h7⟩ := h
  dsimp only at h1 h2 h3 h4 h5 h6 h7
  have eS := Rel_pay (py := py) hro hin
  have eM := Rel_mov hbo hro
  have hS1 := Rel_payn (ro := ro) hn hpy
  have hM1 : ¬ rmS bo' ro n = -1 := Rel_movn hn
  have hbit := Rel_bits hn hro hin h7
  obtain ⟨ec, ec0⟩ := kc_eq (v := rpS py ro n) (by omega) h1 h3 (fun q => (h5 q).1) (fun q => (h6 q).1)
  obtain ⟨en, en0⟩ := kn_eq (mv := rmS bo' ro n) (v := rpS py ro n) (by omega) h1 h4 (fun q => (h5 q).2) (fun q => ⟨(h6 q).2.1, (h6 q).2.2.1⟩)
  have ew : wgA n py bo tr (fo, sb, lp, fm, pn, ct, nt) = (fo + 1, sbS tr sb n, (if rcB ch (rpS py ro n) = true then rpS py ro n else lp), (if rnB ne np (rmS bo' ro n) (rpS py ro n) = true then rmS bo' ro n else fm), (if rnB ne np (rmS bo' ro n) (rpS py ro n) = true then rpS py ro n else pn), (if rcB ch (rpS py ro n) = true then va_cpy tr ct 0 0 6 else ct), (if rnB ne np (rmS bo' ro n) (rpS py ro n) = true then va_cpy tr nt 0 0 6 else nt)) := by
    simp only [wgA, eS, eM, ec, en]
  have er : rA n py bo' ro (wm, ch, ne, np, al, cp, nr) = (wm + 1, (if rcB ch (rpS py ro n) = true then rpS py ro n else ch), (if rnB ne np (rmS bo' ro n) (rpS py ro n) = true then rmS bo' ro n else ne), (if rnB ne np (rmS bo' ro n) (rpS py ro n) = true then rpS py ro n else np), raL ro al n, (if rcB ch (rpS py ro n) = true then fillN cp n ro else cp), (if rnB ne np (rmS bo' ro n) (rpS py ro n) = true then fillN nr n ro else nr)) := by
    simp only [rA]
  rw [ew, er]
  generalize rpS py ro n = S at *
  generalize rmS bo' ro n = M at *
  exact Rel_core hn hro hin hS1 hM1 hc h1 h2 h3 h4 (fun q => ⟨ec0 q, en0 q⟩) h6 hbit
theorem RelA_mono {n B B' : Nat} {a : Acc} {r : RA} (h : RelA n B a r) (hb : B ≤ B') : RelA n B' a r := by
  obtain ⟨c, hc, h⟩ := h
  exact ⟨c, by omega, h⟩
