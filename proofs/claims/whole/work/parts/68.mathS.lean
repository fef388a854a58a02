/-! ===== Int32 by its bits: bt x i (a family of the kit's, pasted) ===== -/
def bt (x : Int32) (i : Nat) : Bool := x.toBitVec.getLsbD i
theorem b_ext {x y : Int32} (h : ∀ i, i < 32 → bt x i = bt y i) : x = y := Int32.toBitVec_inj.mp (BitVec.eq_of_getLsbD_eq (fun i hi => h i hi))
theorem b_or (x y : Int32) (i : Nat) : bt (x ||| y) i = (bt x i || bt y i) := by unfold bt; rw [Int32.toBitVec_or, BitVec.getLsbD_or]
theorem b_and (x y : Int32) (i : Nat) : bt (x &&& y) i = (bt x i && bt y i) := by unfold bt; rw [Int32.toBitVec_and, BitVec.getLsbD_and]
theorem b_xor (x y : Int32) (i : Nat) : bt (x ^^^ y) i = (bt x i ^^ bt y i) := by unfold bt; rw [Int32.toBitVec_xor, BitVec.getLsbD_xor]
theorem b_m1 : ∀ i, i < 32 → bt (-1) i = true := by decide +kernel
theorem b_0 (i : Nat) : bt 0 i = false := BitVec.getLsbD_zero
theorem s_l : ∀ n, n < 32 → ((nI n &&& 31).toBitVec.smod 32).toNat = n := by decide +kernel
theorem b_shl (n : Nat) (hn : n < 32) (x : Int32) {i : Nat} (hi : i < 32) : bt (x <<< (nI n &&& 31)) i = (decide (n ≤ i) && bt x (i - n)) := by
  unfold bt
  rw [Int32.toBitVec_shiftLeft]
  show (x.toBitVec <<< ((nI n &&& 31).toBitVec.smod 32).toNat).getLsbD i = _
  rw [s_l n hn, BitVec.getLsbD_shiftLeft]
  rcases Nat.lt_or_ge i n with h | h
  · simp [h, Nat.not_le.mpr h]
  · simp [hi, h, Nat.not_lt.mpr h]
theorem b_sshr (n : Nat) (hn : n < 32) (x : Int32) {i : Nat} (hi : i < 32) : bt (x >>> (nI n &&& 31)) i = if n + i < 32 then bt x (n + i) else bt x 31 := by
  unfold bt
  rw [Int32.toBitVec_shiftRight]
  show (x.toBitVec.sshiftRight ((nI n &&& 31).toBitVec.smod 32).toNat).getLsbD i = _
  rw [s_l n hn, BitVec.getLsbD_sshiftRight, BitVec.msb_eq_getLsbD_last]
  simp [hi]
theorem b_1 : ∀ i, i < 32 → bt 1 i = decide (i = 0) := by decide +kernel
theorem and1 (y : Int32) : (y &&& 1 = 1) ↔ bt y 0 = true := by
  constructor
  · intro h
    have h2 := congrArg (fun z => bt z 0) h
    simp only [b_and] at h2
    have h1 : bt 1 0 = true := by decide
    rw [h1, Bool.and_true] at h2
    exact h2
  · intro h
    apply b_ext
    intro i hi
    rw [b_and, b_1 i hi]
    by_cases e : i = 0
    · subst e; simp [h]
    · simp [e]
theorem hs_bt (x : Int32) {k : Nat} (hk : k < 32) : hs x (nI k) = bt x k := by
  have e := b_sshr k hk x (i := 0) (by omega)
  rw [if_pos (by omega), Nat.add_zero] at e
  unfold hs
  rw [← e]
  cases h : bt (x >>> (nI k &&& 31)) 0
  · exact decide_eq_false (fun q => by rw [and1, h] at q; exact absurd q (by decide))
  · exact decide_eq_true ((and1 _).mpr h)
theorem hs_and (x y : Int32) {k : Nat} (hk : k < 32) : hs (x &&& y) (nI k) = (hs x (nI k) && hs y (nI k)) := by rw [hs_bt _ hk, hs_bt _ hk, hs_bt _ hk, b_and]
theorem hs_or (x y : Int32) {k : Nat} (hk : k < 32) : hs (x ||| y) (nI k) = (hs x (nI k) || hs y (nI k)) := by rw [hs_bt _ hk, hs_bt _ hk, hs_bt _ hk, b_or]
theorem bt_one {j i : Nat} (hj : j < 32) (hi : i < 32) : bt ((1 : Int32) <<< (nI j &&& 31)) i = decide (i = j) := by
  rw [b_shl j hj _ hi, b_1 _ (by omega)]
  by_cases h : i = j
  · subst h; simp
  · by_cases h2 : j ≤ i
    · have : ¬ i - j = 0 := by omega
      simp [h, h2, this]
    · simp [h, h2]
theorem hs_one {j k : Nat} (hj : j < 32) (hk : k < 32) : hs ((1 : Int32) <<< (nI j &&& 31)) (nI k) = decide (k = j) := by rw [hs_bt _ hk, bt_one hj hk]
theorem hs_set (x : Int32) {j k : Nat} (hj : j < 32) (hk : k < 32) : hs (x ||| ((1 : Int32) <<< (nI j &&& 31))) (nI k) = (hs x (nI k) || decide (k = j)) := by rw [hs_or _ _ hk, hs_one hj hk]
theorem hs_clr (x : Int32) {j k : Nat} (hj : j < 32) (hk : k < 32) : hs (x &&& (((1 : Int32) <<< (nI j &&& 31)) ^^^ (-1))) (nI k) = (hs x (nI k) && !decide (k = j)) := by
  rw [hs_and _ _ hk]
  congr 1
  rw [hs_bt _ hk, b_xor, bt_one hj hk, b_m1 k hk]
  simp
theorem bt_small : ∀ b, b < 32 → ∀ i, i < 32 → 5 ≤ i → bt (nI b) i = false := by decide +kernel
theorem inR_31 {f : Int32} (h : inR f 0 31 = true) : ∃ b, b < 32 ∧ f = nI b := by
  have e : inR f 0 (nI 31) = inB f (nI (31 + 1)) := inR_b (by omega)
  have h2 : inB f (nI 32) = true := by rw [← e]; exact h
  obtain ⟨b, hb, e⟩ := (inB_iff (by omega)).mp h2
  exact ⟨b, hb, e⟩
theorem mask_iff {f r : Int32} (hf : inR f 0 31 = true) : f &&& (r ^^^ (-1)) = 0 ↔ ∀ a, a < 5 → hs f (nI a) = true → hs r (nI a) = true := by
  obtain ⟨b, hb, ef⟩ := inR_31 hf
  have bit : ∀ i, i < 32 → bt (f &&& (r ^^^ (-1))) i = (bt f i && !bt r i) := fun i hi => by
    rw [b_and, b_xor, b_m1 i hi]; cases bt r i <;> simp
  constructor
  · intro h a ha h1
    have h2 := bit a (by omega)
    rw [h, b_0, ← hs_bt f (by omega), h1, Bool.true_and] at h2
    rw [hs_bt r (by omega)]
    cases hr : bt r a
    · rw [hr] at h2; exact absurd h2 (by decide)
    · rfl
  · intro h
    apply b_ext
    intro i hi
    rw [bit i hi, b_0]
    by_cases h5 : i < 5
    · cases hfi : bt f i
      · rfl
      · have := h i h5 (by rw [hs_bt _ hi, hfi])
        rw [hs_bt _ hi] at this
        rw [this]; rfl
    · rw [ef, bt_small b hb i hi (by omega)]; rfl
/-! ===== whether a team is whole ===== -/
theorem akF_congr {kn ro ro' : Nat → Int32} {t f : Int32} : ∀ {n : Nat}, (∀ k, k < n → ro k = ro' k) → akF kn ro t f n = akF kn ro' t f n := by
  intro n
  induction n with
  | zero => intro _; rfl
  | succ n ih => intro h; rw [akF, akF, ih (fun k hk => h k (by omega)), h n (by omega)]
theorem hs_31 : ∀ a, a < 5 → hs 31 (nI a) = true := by decide +kernel
theorem shK_hs (kn tr sk : Nat → Int32) {t a : Nat} (ht : t < 5) (ha : a < 5) : ∀ n, hs (shK kn tr sk n t) (nI a) = akF kn tr (nI t) (nI a) n := by
  intro n
  induction n with
  | zero => simp [shK, fillA, ht, akF, hs_31 a ha]
  | succ n ih =>
    rw [shK, akF, ← ih]
    by_cases hi : inB (tr n) 5 = true
    · rw [if_pos hi]
      obtain ⟨r, hr, e⟩ := (inB_iff (n := 5) (by omega)).mp hi
      have ec : (tr n).toNatClampNeg = r := by rw [e, nI_clamp (by omega)]
      rw [ec]
      by_cases hrt : t = r
      · subst hrt
        rw [upd_at, hs_and _ _ (by omega), e]; simp
      · rw [upd_ne _ _ hrt]
        have hne : ¬ tr n = nI t := fun q => hrt ((nI_eq (by omega) (by omega)).mp (q.symm.trans e))
        simp [hne]
    · rw [if_neg hi]
      have hne : ¬ tr n = nI t := fun q => hi (by rw [q]; exact inB_nI (n := 5) ht (by omega))
      simp [hne]
theorem rch_hs (w : Int32) (sk : Nat → Int32) {t a : Nat} (ht : t < 5) (ha : a < 5) : ∀ k, k ≤ 5 → (hs (rch w sk (nI t) k) (nI a) = true ↔ hs (sk t) (nI a) = true ∨ a = t ∨ ∃ r, r < k ∧ r ≠ t ∧ hs w (nI r) = true ∧ hs (sk t) (nI r) = true ∧ hs (sk r) (nI a) = true) := by
  intro k
  have ec : (nI t).toNatClampNeg = t := nI_clamp (by omega)
  induction k with
  | zero =>
    intro _
    rw [rch, ec, hs_set _ (by omega) (by omega), Bool.or_eq_true, decide_eq_true_eq]
    constructor
    · rintro (h | h)
      · exact Or.inl h
      · exact Or.inr (Or.inl h)
    · rintro (h | h | ⟨r, h, _⟩)
      · exact Or.inl h
      · exact Or.inr h
      · omega
  | succ k ih =>
    intro hk
    have ih2 := ih (by omega)
    rw [rch]
    by_cases hc : rcC w sk (nI t) k = true
    · rw [if_pos hc, hs_or _ _ (by omega), Bool.or_eq_true, ih2]
      simp only [rcC, ec, Bool.and_eq_true, Bool.not_eq_true', decide_eq_false_iff_not] at hc
      have hkt : k ≠ t := fun q => hc.1 (by rw [q])
      constructor
      · rintro ((h | h | ⟨r, h1, h2⟩) | h)
        · exact Or.inl h
        · exact Or.inr (Or.inl h)
        · exact Or.inr (Or.inr ⟨r, by omega, h2⟩)
        · exact Or.inr (Or.inr ⟨k, by omega, hkt, hc.2.1, hc.2.2, h⟩)
      · rintro (h | h | ⟨r, h1, h2⟩)
        · exact Or.inl (Or.inl h)
        · exact Or.inl (Or.inr (Or.inl h))
        · by_cases e : r = k
          · subst e; exact Or.inr h2.2.2.2
          · exact Or.inl (Or.inr (Or.inr ⟨r, by omega, h2⟩))
    · rw [if_neg hc, ih2]
      constructor
      · rintro (h | h | ⟨r, h1, h2⟩)
        · exact Or.inl h
        · exact Or.inr (Or.inl h)
        · exact Or.inr (Or.inr ⟨r, by omega, h2⟩)
      · rintro (h | h | ⟨r, h1, h2, h3, h4, h5⟩)
        · exact Or.inl h
        · exact Or.inr (Or.inl h)
        · by_cases e : r = k
          · subst e
            have hne : ¬ nI r = nI t := fun q => h2 ((nI_eq (by omega) (by omega)).mp q)
            exact absurd (by simp [rcC, ec, hne, h3, h4]) hc
          · exact Or.inr (Or.inr ⟨r, by omega, h2, h3, h4, h5⟩)
theorem alR_iff (f w : Int32) (sk : Nat → Int32) : ∀ k, (alR f w sk k = true ↔ ∀ t, t < k → hs w (nI t) = true → rcF f w sk (nI t) = true) := by
  intro k
  induction k with
  | zero => simp [alR]
  | succ k ih =>
    rw [alR, Bool.and_eq_true, ih, Bool.or_eq_true, Bool.not_eq_true']
    constructor
    · rintro ⟨h1, h2⟩ t ht hw
      by_cases e : t = k
      · subst e
        rcases h2 with q | q
        · rw [hw] at q; exact absurd q (by decide)
        · exact q
      · exact h1 t (by omega) hw
    · intro h
      refine ⟨fun t ht hw => h t (by omega) hw, ?_⟩
      cases hw : hs w (nI k)
      · exact Or.inl rfl
      · exact Or.inr (h k (by omega) hw)
theorem iwR_iff (n : Nat) (kn : Nat → Int32) (w : Int32) (ro : Nat → Int32) (a t : Int32) : ∀ k, (iwR n kn w ro a t k = true ↔ akF kn ro t a n = true ∨ ∃ r, r < k ∧ iwC n kn w ro a t r = true) := by
  intro k
  induction k with
  | zero => simp [iwR]
  | succ k ih =>
    rw [iwR, Bool.or_eq_true, ih]
    constructor
    · rintro ((h | ⟨r, h1, h2⟩) | h)
      · exact Or.inl h
      · exact Or.inr ⟨r, by omega, h2⟩
      · exact Or.inr ⟨k, by omega, h⟩
    · rintro (h | ⟨r, h1, h2⟩)
      · exact Or.inl (Or.inl h)
      · by_cases e : r = k
        · subst e; exact Or.inr h2
        · exact Or.inl (Or.inr ⟨r, by omega, h2⟩)
theorem iwT_iff (n : Nat) (kn : Nat → Int32) (fl w : Int32) (ro : Nat → Int32) (f : Int32) (b : Bool) : ∀ k, (iwT n kn fl w ro f b k = true ↔ b = true ∧ ∀ t, t < k → (hs fl f && (hs w (nI t) && !decide (nI t = f))) = true → iwR n kn w ro f (nI t) 5 = true) := by
  intro k
  induction k with
  | zero => simp [iwT]
  | succ k ih =>
    rw [iwT, Bool.and_eq_true, ih, Bool.or_eq_true, Bool.not_eq_true']
    constructor
    · rintro ⟨⟨hb, h1⟩, h2⟩
      refine ⟨hb, fun t ht hc => ?_⟩
      by_cases e : t = k
      · subst e
        rcases h2 with q | q
        · rw [hc] at q; exact absurd q (by decide)
        · exact q
      · exact h1 t (by omega) hc
    · rintro ⟨hb, h⟩
      refine ⟨⟨hb, fun t ht hc => h t (by omega) hc⟩, ?_⟩
      cases hc : (hs fl f && (hs w (nI k) && !decide (nI k = f)))
      · exact Or.inl rfl
      · exact Or.inr (h k (by omega) hc)
theorem iwL_iff (n : Nat) (kn : Nat → Int32) (fl w : Int32) (ro : Nat → Int32) : ∀ k, (iwL n kn fl w ro k = true ↔ ∀ a, a < k → ∀ t, t < 5 → (hs fl (nI a) && (hs w (nI t) && !decide (nI t = nI a))) = true → iwR n kn w ro (nI a) (nI t) 5 = true) := by
  intro k
  induction k with
  | zero => simp [iwL]
  | succ k ih =>
    rw [iwL, iwT_iff, ih]
    constructor
    · rintro ⟨h1, h2⟩ a ha t ht hc
      by_cases e : a = k
      · subst e; exact h2 t ht hc
      · exact h1 a (by omega) t ht hc
    · intro h
      exact ⟨fun a ha t ht hc => h a (by omega) t ht hc, fun t ht hc => h k (by omega) t ht hc⟩
theorem whole_eq {n : Nat} {kn tr ro sk : Nat → Int32} {f w : Int32} (hf : inR f 0 31 = true) (hro : ∀ k, k < n → tr k = ro k) : alR f w (shK kn tr sk n) 5 = iwF n kn f w ro := by
  have ak : ∀ t a, t < 5 → a < 5 → hs (shK kn tr sk n t) (nI a) = akF kn ro (nI t) (nI a) n := fun t a ht ha => by
    rw [shK_hs kn tr sk ht ha, akF_congr hro]
  have ne : ∀ {a b : Nat}, a < 5 → b < 5 → (nI a = nI b ↔ a = b) := fun ha hb => nI_eq (by omega) (by omega)
  have key : alR f w (shK kn tr sk n) 5 = true ↔ iwF n kn f w ro = true := by
    rw [alR_iff, iwF, iwL_iff]
    constructor
    · intro h a ha t ht hc
      rw [Bool.and_eq_true, Bool.and_eq_true, Bool.not_eq_true', decide_eq_false_iff_not, ne ht ha] at hc
      have h1 := h t ht hc.2.1
      rw [rcF, decide_eq_true_eq, mask_iff hf] at h1
      have h2 := (rch_hs w (shK kn tr sk n) ht ha 5 (Nat.le_refl _)).mp (h1 a ha hc.1)
      rw [iwR_iff]
      rcases h2 with q | q | ⟨r, hr, q1, q2, q3, q4⟩
      · exact Or.inl (by rw [← ak t a ht ha]; exact q)
      · exact absurd q.symm hc.2.2
      · by_cases e : r = a
        · subst e; exact Or.inl (by rw [← ak t r ht hr]; exact q3)
        · refine Or.inr ⟨r, hr, ?_⟩
          have e1 : ¬ nI r = nI a := fun q => e ((ne hr ha).mp q)
          have e2 : ¬ nI r = nI t := fun q => q1 ((ne hr ht).mp q)
          rw [iwC, q2, decide_eq_false e1, decide_eq_false e2, ← ak t r ht hr, q3, ← ak r a hr ha, q4]; rfl
    · intro h t ht hw
      rw [rcF, decide_eq_true_eq, mask_iff hf]
      intro a ha hfa
      rw [rch_hs w (shK kn tr sk n) ht ha 5 (Nat.le_refl _)]
      by_cases e : a = t
      · exact Or.inr (Or.inl e)
      · have e1 : ¬ nI t = nI a := fun q => e ((ne ht ha).mp q).symm
        have h1 := h a ha t ht (by rw [hfa, hw, decide_eq_false e1]; rfl)
        rw [iwR_iff] at h1
        rcases h1 with q | ⟨r, hr, q⟩
        · exact Or.inl (by rw [ak t a ht ha]; exact q)
        · simp only [iwC, Bool.and_eq_true, Bool.not_eq_true', decide_eq_false_iff_not] at q
          obtain ⟨q1, q2, q3, q4, q5⟩ := q
          exact Or.inr (Or.inr ⟨r, hr, fun z => q3 (by rw [z]), q1, by rw [ak t r ht hr]; exact q4, by rw [ak r a hr ha]; exact q5⟩)
  cases h1 : alR f w (shK kn tr sk n) 5 <;> cases h2 : iwF n kn f w ro
  · rfl
  · rw [key.mpr h2] at h1; exact h1.symm
  · rw [key.mp h1] at h2; exact h2
  · rfl
