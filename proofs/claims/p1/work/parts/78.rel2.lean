theorem fo_0 {c : Nat} (hc : c < 2 ^ 31) : (nI c ≤ 0) ↔ c = 0 := by
  have z : (0 : Int32) = nI 0 := rfl
  rw [z, nI_leI hc (by omega)]; omega
theorem fo_z {c : Nat} (hc : c < 2 ^ 31) : (nI c = 0) ↔ c = 0 := by
  have z : (0 : Int32) = nI 0 := rfl
  rw [z, nI_eq hc (by omega)]
theorem o_needed {n : Nat} {il se : Int32} {kn sp py bo fO wI so sd ilz bo' sd' : Nat → Int32} (h : Rel n il se py bo fO so sd ilz bo' sd') (a1 a2 : Int32) (x : SS) (x' : FS) : (if (inB a1 (nI n) && inB a2 2) = true then bI (!decide ((stF n il kn sp py bo fO wI se a2 x).2.2.2.1 ≤ 0) && !hs ((stF n il kn sp py bo fO wI se a2 x).2.2.2.2.1) a1) else (-2)) = (if (inB a1 (nI n) && inB a2 2) = true then bI (!decide ((ftF n kn sp py ilz fO wI bo' se a2 x').1 ≤ 0) && hs ((ftF n kn sp py ilz fO wI bo' se a2 x').2.2.2.2.1) a1) else (-2)) := by
  by_cases hc : (inB a1 (nI n) && inB a2 2) = true
  · rw [if_pos hc, if_pos hc]
    rw [Bool.and_eq_true] at hc
    obtain ⟨k, hk, e, ec⟩ := inB_ex (by have := h.1; omega) hc.1
    obtain ⟨c, c1, c2, c3, c4, c5, c6, c7⟩ := o_find (kn := kn) (sp := sp) (wI := wI) h hc.2 x x'
    rw [e, c2, c3, c7 k hk]
  · rw [if_neg hc, if_neg hc]
theorem inR_01 (a : Int32) : (inR a 0 1 = true) ↔ (a = 0 ∨ a = 1) := by
  rw [inR_2]
  constructor
  · intro h
    obtain ⟨k, hk, e, _⟩ := inB_ex (n := 2) (by omega) h
    have : k = 0 ∨ k = 1 := by omega
    rcases this with rfl | rfl
    · exact Or.inl e
    · exact Or.inr e
  · rintro (rfl | rfl) <;> decide
theorem o_take {n : Nat} {il se : Int32} {kn sp py bo fO wI so sd ilz bo' sd' : Nat → Int32} (h : Rel n il se py bo fO so sd ilz bo' sd') (a1 a2 : Int32) (x : SS) (x' : FS) : tkR a1 a2 (stF n il kn sp py bo fO wI se a1 x) = rtR a1 a2 (ftF n kn sp py ilz fO wI bo' se a1 x') ∧ Rel n il se py (tkF a1 a2 (stF n il kn sp py bo fO wI se a1 x) x bo).2.2.2.2.2.2.2.2.2.2.2.2.2 fO so sd ilz (rtF n a1 a2 (ftF n kn sp py ilz fO wI bo' se a1 x') x' bo').2.2.2.2.2.1 sd' := by
  by_cases ha : inB a1 2 = true
  · by_cases hb : (a2 = 0 ∨ a2 = 1)
    · obtain ⟨c, c1, c2, c3, c4, c5, c6, c7⟩ := o_find (kn := kn) (sp := sp) (wI := wI) h ha x x'
      have hR1 : inR a1 0 1 = true := by rw [inR_2]; exact ha
      have hR2 : inR a2 0 1 = true := (inR_01 a2).mpr hb
      have hcb : c < 2 ^ 31 := by have := pow6_lt h.1; omega
      rw [tkR, rtR, tkF, rtF, if_pos ha, if_pos hb, if_pos hR1, if_pos hR2, if_pos (And.intro ha hb), if_pos (And.intro hR1 hR2), c2, c3]
      have hz := fo_z hcb
      rcases Nat.eq_zero_or_pos c with q | q
      · rw [if_pos (hz.mpr q), if_pos (hz.mpr q), if_pos (hz.mpr q), if_pos (hz.mpr q)]
        exact ⟨rfl, h⟩
      · have hnz : ¬ nI c = 0 := fun w => by have := hz.mp w; omega
        obtain ⟨d1, d2⟩ := c6 q
        obtain ⟨h1, h2, h3, h4, h5, h6, h7, h8, h9, h10, h11⟩ := h
        rw [if_neg hnz, if_neg hnz, if_neg hnz, if_neg hnz]
        by_cases q0 : a2 = 0
        · rw [if_pos q0, if_pos q0, if_pos q0, if_pos q0]
          refine ⟨c4, h1, h2, h3, h4, h5, h6, h7, fun k hk => ?_, fun k q1 q2 => ?_, h10, h11⟩
          · show va_cpy _ bo 0 0 6 k = fillN bo' n _ k ∧ inB (va_cpy _ bo 0 0 6 k) 6 = true
            rw [cpy6 _ _ (by omega), fillN, if_pos hk]
            exact ⟨(d2 k hk).1, (d2 k hk).2.2.1⟩
          · show fillN bo' n _ k = 5
            rw [fillN, if_neg (by omega)]; exact h9 k q1 q2
        · rw [if_neg q0, if_neg q0, if_neg q0, if_neg q0]
          refine ⟨d1, h1, h2, h3, h4, h5, h6, h7, fun k hk => ?_, fun k q1 q2 => ?_, h10, h11⟩
          · show va_cpy _ bo 0 0 6 k = fillN bo' n _ k ∧ inB (va_cpy _ bo 0 0 6 k) 6 = true
            rw [cpy6 _ _ (by omega), fillN, if_pos hk]
            exact ⟨(d2 k hk).2.1, (d2 k hk).2.2.2⟩
          · show fillN bo' n _ k = 5
            rw [fillN, if_neg (by omega)]; exact h9 k q1 q2
    · have hR1 : inR a1 0 1 = true := by rw [inR_2]; exact ha
      have hR2 : ¬ inR a2 0 1 = true := fun w => hb ((inR_01 a2).mp w)
      rw [tkR, rtR, tkF, rtF, if_pos ha, if_neg hb, if_pos hR1, if_neg hR2, if_neg (fun w : inB a1 2 = true ∧ (a2 = 0 ∨ a2 = 1) => hb w.2), if_neg (fun w : inR a1 0 1 = true ∧ inR a2 0 1 = true => hR2 w.2)]
      exact ⟨rfl, h⟩
  · have hR1 : ¬ inR a1 0 1 = true := fun w => ha (by rw [← inR_2]; exact w)
    rw [tkR, rtR, tkF, rtF, if_neg ha, if_neg hR1, if_neg (fun w : inB a1 2 = true ∧ (a2 = 0 ∨ a2 = 1) => ha w.1), if_neg (fun w : inR a1 0 1 = true ∧ inR a2 0 1 = true => hR1 w.1)]
    exact ⟨rfl, h⟩
theorem bo_5 {v : Int32} (h : inB v 6 = true) : bI (!decide (v = 5)) = (if v < 5 then 1 else 0) := by
  have := row5 h
  by_cases q : v = 5
  · have q2 : ¬ v < 5 := Int32.not_lt.mpr (this.mpr q)
    rw [if_neg q2, decide_eq_true q]; rfl
  · have q2 : v < 5 := Int32.not_le.mp (fun z => q (this.mp z))
    rw [if_pos q2, decide_eq_false q]; rfl
theorem o_seated {n : Nat} {il se : Int32} {py bo fO so sd ilz bo' sd' : Nat → Int32} (h : Rel n il se py bo fO so sd ilz bo' sd') : sI (fun k => bI (!decide (bo k = 5))) n = sI (fun k => if bo' k < 5 then 1 else 0) n := by
  obtain ⟨h1, h2, h3, h4, h5, h6, h7, h8, h9, h10, h11⟩ := h
  exact sI_congr (fun k hk => by rw [bo_5 (h8 k hk).2, (h8 k hk).1])
theorem o_leave {n : Nat} {il se : Int32} {py bo fO so sd ilz bo' sd' : Nat → Int32} (h : Rel n il se py bo fO so sd ilz bo' sd') : Rel n il se py (fillA bo 6 5) fO so sd ilz (fillA bo' 6 5) sd' := by
  obtain ⟨h1, h2, h3, h4, h5, h6, h7, h8, h9, h10, h11⟩ := h
  refine ⟨h1, h2, h3, h4, h5, h6, h7, fun k hk => ?_, fun k q1 q2 => ?_, h10, h11⟩
  · have : k < 6 := by omega
    simp only [fillA, if_pos this]
    exact ⟨trivial, by decide⟩
  · simp only [fillA, if_pos q2]
theorem o_booth {n : Nat} {il se : Int32} {py bo fO so sd ilz bo' sd' : Nat → Int32} (h : Rel n il se py bo fO so sd ilz bo' sd') (a1 : Int32) : (if inB a1 (nI n) = true then bo a1.toNatClampNeg else (-2)) = (if inB a1 (nI n) = true then bo' a1.toNatClampNeg else (-2)) := by
  by_cases hc : inB a1 (nI n) = true
  · rw [if_pos hc, if_pos hc]
    obtain ⟨k, hk, e, ec⟩ := inB_ex (by have := h.1; omega) hc
    obtain ⟨h1, h2, h3, h4, h5, h6, h7, h8, h9, h10, h11⟩ := h
    rw [ec, (h8 k hk).1]
  · rw [if_neg hc, if_neg hc]
theorem o_lacking {n : Nat} {il se : Int32} {sp py bo fO so sd ilz bo' sd' : Nat → Int32} (h : Rel n il se py bo fO so sd ilz bo' sd') (w : Int32) : ∀ m, lcF n il sp w se m = rlF n ilz sp w se m := by
  obtain ⟨h1, h2, h3, h4, h5, h6, h7, h8, h9, h10, h11⟩ := h
  have e : ∀ t, sI (fun j => bI (canT n il sp (nI j) t)) n = rlC n ilz sp t n := fun t => sI_congr (fun j hj => by
    have ej : (nI j).toNatClampNeg = j := nI_clamp (by omega)
    rw [canT, inB_nI hj (by omega), ej, Bool.true_and]
    by_cases q : ilz j = 0
    · rw [(h6 j (by omega)).mp q, decide_eq_true q]; rfl
    · have q2 : hs il (nI j) = true := by
        cases q3 : hs il (nI j)
        · exact absurd ((h6 j (by omega)).mpr q3) q
        · rfl
      rw [q2, decide_eq_false q]; rfl)
  intro m
  induction m with
  | zero => rfl
  | succ m ih =>
    rw [lcF, rlF, ih, e]
    by_cases q : (hs w (nI m) && !decide (se ≤ rlC n ilz sp (nI m) n)) = true
    · rw [if_pos q, if_pos q]
    · rw [if_neg q, if_neg q, Int32.or_zero]
theorem btC_64 : ∀ b, b < 64 → btC (nI b) = sI (fun k => bI (hs (nI b) (nI k))) 6 := by decide +kernel
theorem sI_ext (f : Nat → Int32) {n : Nat} : ∀ m, n ≤ m → (∀ k, n ≤ k → k < m → f k = 0) → sI f m = sI f n := by
  intro m
  induction m with
  | zero => intro h _; have : n = 0 := by omega
            subst this; rfl
  | succ m ih =>
    intro h hz
    by_cases e : n = m + 1
    · subst e; rfl
    · rw [sI, ih (by omega) (fun k q1 q2 => hz k q1 (by omega)), hz m (by omega) (by omega), Int32.add_zero]
theorem o_count {n : Nat} {il se : Int32} {py bo fO so sd ilz bo' sd' : Nat → Int32} (h : Rel n il se py bo fO so sd ilz bo' sd') (a1 : Int32) : coR n il bo so se a1 = rcO n ilz bo' so se a1 := by
  have e2 := o_seated h
  obtain ⟨h1, h2, h3, h4, ⟨b, hb, eb⟩, h6, h7, h8, h9, h10, h11⟩ := h
  have e1 : btC il = sI (fun k => if ilz k = 0 then 0 else 1) n := by
    rw [eb, btC_64 b hb]
    have e3 : sI (fun k => bI (hs (nI b) (nI k))) 6 = sI (fun k => bI (hs (nI b) (nI k))) n := sI_ext _ 6 h1 (fun k q1 q2 => by
      have := h7 k q1 q2
      rw [eb] at this
      show bI (hs (nI b) (nI k)) = 0
      rw [this]; rfl)
    rw [e3]
    exact sI_congr (fun k hk => by
      by_cases q : ilz k = 0
      · have := (h6 k (by omega)).mp q
        rw [eb] at this
        rw [this, if_pos q]; rfl
      · rw [if_neg q]
        cases q3 : hs (nI b) (nI k)
        · exact absurd ((h6 k (by omega)).mpr (by rw [eb]; exact q3)) q
        · rfl)
  rw [coR, rcO, e1, e2]
theorem o_speak {n : Nat} {il se : Int32} {py bo fO so sd ilz bo' sd' : Nat → Int32} (h : Rel n il se py bo fO so sd ilz bo' sd') (a1 a2 a3 : Int32) : Rel n il se py bo fO (if (inB a1 16 && (inB a2 5 && (!decide (a3 < 1) && !decide (9 < a3)))) = true then upd so a1.toNatClampNeg a2 else so) (if (inB a1 16 && (inB a2 5 && (!decide (a3 < 1) && !decide (9 < a3)))) = true then upd sd a1.toNatClampNeg a3 else sd) ilz bo' (if (inB a1 16 && (inB a2 5 && (!decide (a3 < 1) && !decide (9 < a3)))) = true then upd sd' a1.toNatClampNeg a3 else sd') := by
  by_cases hc : (inB a1 16 && (inB a2 5 && (!decide (a3 < 1) && !decide (9 < a3)))) = true
  · rw [if_pos hc, if_pos hc, if_pos hc]
    simp only [Bool.and_eq_true, Bool.not_eq_true', decide_eq_false_iff_not] at hc
    obtain ⟨h1, h2, h3, h4, h5, h6, h7, h8, h9, h10, h11⟩ := h
    refine ⟨h1, h2, h3, h4, h5, h6, h7, h8, h9, fun k hk => ?_, fun k hk => ?_⟩
    · by_cases e : k = a1.toNatClampNeg
      · subst e; right; rw [upd_at, upd_at]
      · rw [upd_ne _ _ e, upd_ne _ _ e, upd_ne _ _ e]; exact h10 k hk
    · by_cases e : k = a1.toNatClampNeg
      · subst e
        rw [upd_at, inR]
        have q1 : ¬ a3 < 0 := by
          intro q
          apply hc.2.2.1
          rw [Int32.lt_iff_toInt_lt] at q ⊢
          have e0 : (0 : Int32).toInt = 0 := by decide
          have e1 : (1 : Int32).toInt = 1 := by decide
          omega
        simp [q1, hc.2.2.2]
      · rw [upd_ne _ _ e]; exact h11 k hk
  · rw [if_neg hc, if_neg hc, if_neg hc]; exact h
theorem o_silence {n : Nat} {il se : Int32} {py bo fO so sd ilz bo' sd' : Nat → Int32} (h : Rel n il se py bo fO so sd ilz bo' sd') (a1 : Int32) : Rel n il se py bo fO (if inB a1 16 = true then upd so a1.toNatClampNeg (-1) else so) (if inB a1 16 = true then upd sd a1.toNatClampNeg 0 else sd) ilz bo' sd' := by
  by_cases hc : inB a1 16 = true
  · rw [if_pos hc, if_pos hc]
    obtain ⟨h1, h2, h3, h4, h5, h6, h7, h8, h9, h10, h11⟩ := h
    refine ⟨h1, h2, h3, h4, h5, h6, h7, h8, h9, fun k hk => ?_, h11⟩
    by_cases e : k = a1.toNatClampNeg
    · subst e; left; rw [upd_at]
    · rw [upd_ne _ _ e, upd_ne _ _ e]; exact h10 k hk
  · rw [if_neg hc, if_neg hc]; exact h
/-! ===== the day ===== -/
theorem heF_at (n : Nat) (kn on : Nat → Int32) (f : Int32) (he : Nat → Int32) : ∀ m t, t < m → heF n kn on f he m t = wyF n kn on f (nI t) := by
  intro m
  induction m with
  | zero => intro t ht; omega
  | succ m ih =>
    intro t ht
    rw [heF]
    by_cases e : t = m
    · subst e; rw [upd_at]
    · rw [upd_ne _ _ e, ih t (by omega)]
theorem wyL_congr {c c' : Nat → Bool} : ∀ d r, (∀ i, i < r + d → c i = c' i) → wyL c d r = wyL c' d r := by
  intro d
  induction d with
  | zero => intro r _; rfl
  | succ d ih => intro r h; rw [wyL, wyL, h r (by omega), ih (r + 1) (fun i hi => h i (by omega))]
theorem wyF_congr {n : Nat} {kn on on' : Nat → Int32} {f : Int32} (h : ∀ t, t < 5 → on t = on' t) {t : Nat} (ht : t < 5) : wyF n kn on f (nI t) = wyF n kn on' f (nI t) := by
  have ec : (nI t).toNatClampNeg = t := nI_clamp (by omega)
  have hc : ∀ K, wyL (wyC n kn on f (nI t) K) 5 0 = wyL (wyC n kn on' f (nI t) K) 5 0 := fun K => wyL_congr 5 0 (fun i hi => by unfold wyC; rw [h i (by omega)])
  rw [wyF, wyF, ec, h t ht, hc]
theorem chO_congr {n : Nat} {bo bo' ti ti' on on' : Nat → Int32} (hn : n ≤ 6) (hb : ∀ k, k < n → bo k = bo' k) (hti : ∀ k, k < n → ti k = ti' k) : ∀ k, k ≤ n → ∀ t, t < 5 → chO n bo ti on k t = chO n bo' ti' on' k t := by
  intro k
  induction k with
  | zero => intro _ t ht; simp [chO, fillA, ht]
  | succ k ih =>
    intro hk t ht
    rw [chO_step n bo ti on hn (by omega) ht, chO_step n bo' ti' on' hn (by omega) ht, ← ih (by omega) t ht, hb k (by omega), hti k (by omega)]
    rcases chO_val n bo ti on hn k (by omega) t ht with q | ⟨j, h1, h2, h3⟩
    · rw [q]; simp
    · rw [h2, nI_clamp (by omega), hti j (by omega)]
theorem tuF_congr {n : Nat} {bo bo' on on' he he' : Nat → Int32} (hb : ∀ k, k < n → bo k = bo' k) (hn : n ≤ 6) (ho : ∀ t, t < 5 → on t = on' t) (hh : ∀ t, t < 5 → he t = he' t) {k : Nat} (hk : k < n) : tuF n bo on he (nI k) = tuF n bo' on' he' (nI k) := by
  rw [tuF, tuF, atP_nI hk (by omega), atP_nI hk (by omega), hb k hk]
  cases hi : inB (bo' k) 5
  · rfl
  · obtain ⟨t, ht, e, ec⟩ := inB_ex (n := 5) (by omega) hi
    rw [ec, ho t ht, hh t ht]
theorem tuF_heard {n : Nat} {bo on he : Nat → Int32} {k : Nat} (h : tuF n bo on he (nI k) = true) : ∃ t, t < 5 ∧ ¬ he t = -1 := by
  rw [tuF, Bool.and_eq_true, Bool.and_eq_true] at h
  obtain ⟨t, ht, e, ec⟩ := inB_ex (n := 5) (by omega) h.1
  rw [ec] at h
  exact ⟨t, ht, by simpa using h.2.2⟩
/-- the two days agree -/
def Ag (h : Nat) (x x' : DS) : Prop := (∀ k, k < 6 → x.1 k = x'.1 k) ∧ (0 < h → ∀ t, t < 5 → x.2.1 t = x'.2.1 t ∧ x.2.2 t = x'.2.2 t)
theorem plG_ag {n : Nat} {kn bo bo' : Nat → Int32} {f w w' : Int32} {x x' : DS} {h : Nat} (hn : n ≤ 6) (hb : ∀ k, k < n → bo k = bo' k) (hw : f = -1 ∨ w = w') (ha : Ag h x x') : Ag (h + 1) (plG n kn bo f w x) (plG n kn bo' f w' x') := by
  have e1 : ∀ t, t < 5 → chO n bo x.1 x.2.1 n t = chO n bo' x'.1 x'.2.1 n t := chO_congr hn hb (fun k hk => ha.1 k (by omega)) n (Nat.le_refl _)
  have e2 : ∀ t, t < 5 → heF n kn (chO n bo x.1 x.2.1 n) f x.2.2 5 t = heF n kn (chO n bo' x'.1 x'.2.1 n) f x'.2.2 5 t := fun t ht => by
    rw [heF_at _ _ _ _ _ 5 t ht, heF_at _ _ _ _ _ 5 t ht, wyF_congr e1 ht]
  refine ⟨fun k hk => ?_, fun _ t ht => ⟨e1 t ht, e2 t ht⟩⟩
  show tiF n bo _ _ w x.1 n k = tiF n bo' _ _ w' x'.1 n k
  rw [tiF_eq, tiF_eq]
  by_cases q : k < n
  · simp only [fillN, if_pos q, tiV]
    rw [tuF_congr hb hn e1 e2 q, ha.1 k hk]
    by_cases q2 : tuF n bo' (chO n bo' x'.1 x'.2.1 n) (heF n kn (chO n bo' x'.1 x'.2.1 n) f x'.2.2 5) (nI k) = true
    · rw [if_pos q2, if_pos q2]
      rcases hw with q3 | q3
      · obtain ⟨t, ht, hne⟩ := tuF_heard q2
        rw [heF_at _ _ _ _ _ 5 t ht, wyF, if_pos q3] at hne
        exact absurd rfl hne
      · rw [q3]
    · rw [if_neg q2, if_neg q2]
  · simp only [fillN, if_neg q]
    exact ha.1 k hk
theorem plT_ag {n : Nat} {il se : Int32} {kn py bo fO so sd ilz bo' sd' : Nat → Int32} (hR : Rel n il se py bo fO so sd ilz bo' sd') (x x' : DS) : ∀ h, h ≤ 16 → Ag h (plT n kn bo so sd x h) (plT n kn bo' so sd' x' h) := by
  obtain ⟨h1, h2, h3, h4, h5, h6, h7, h8, h9, h10, h11⟩ := hR
  intro h
  induction h with
  | zero => intro _; exact ⟨fun k hk => by simp [plT, fillA, hk], fun q => absurd q (by omega)⟩
  | succ h ih =>
    intro hh
    have i16 : inB (nI h) 16 = true := inB_nI (n := 16) (by omega) (by omega)
    have ec : (nI h).toNatClampNeg = h := nI_clamp (by omega)
    rw [plT, plT, plH, plH, if_pos i16, if_pos i16, ec]
    exact plG_ag h1 (fun k hk => (h8 k hk).1) (h10 h (by omega)) (ih (by omega))
theorem he_silent (n : Nat) (kn bo so sd : Nat → Int32) (x : DS) {h t : Nat} (hh : h < 16) (ht : t < 5) (hs : so h = -1) : (plT n kn bo so sd x (h + 1)).2.2 t = -1 := by
  have i16 : inB (nI h) 16 = true := inB_nI (n := 16) hh (by omega)
  have ec : (nI h).toNatClampNeg = h := nI_clamp (by omega)
  rw [plT, plH, if_pos i16, ec]
  show heF n kn _ (so h) _ 5 t = -1
  rw [heF_at _ _ _ _ _ 5 t ht, wyF, if_pos hs]
theorem laO_ag {n : Nat} {il se : Int32} {kn py bo fO so sd ilz bo' sd' : Nat → Int32} (hR : Rel n il se py bo fO so sd ilz bo' sd') (x x' : DS) {t : Nat} (ht : t < 5) : ∀ h, h ≤ 16 → laO n kn bo so sd x (nI t) h = laO n kn bo' so sd' x' (nI t) h := by
  have et : (nI t).toNatClampNeg = t := nI_clamp (by omega)
  intro h
  induction h with
  | zero => intro _; rfl
  | succ h ih =>
    intro hh
    have ag := plT_ag (kn := kn) hR x x' (h + 1) hh
    have eh : (nI h).toNatClampNeg = h := nI_clamp (by omega)
    rw [laO, laO, ih (by omega)]
    congr 1
    rw [laF, laF, et, eh, (ag.2 (by omega) t ht).2]
    obtain ⟨h1, h2, h3, h4, h5, h6, h7, h8, h9, h10, h11⟩ := hR
    rcases h10 h (by omega) with q | q
    · rw [he_silent n kn bo' so sd' x' (by omega) ht q, if_pos rfl, if_pos rfl]
    · rw [q]
theorem taF_congr {ti ti' : Nat → Int32} {a : Int32} : ∀ {n : Nat}, (∀ k, k < n → ti k = ti' k) → taF ti a n = taF ti' a n := by
  intro n
  induction n with
  | zero => intro _; rfl
  | succ n ih => intro h; rw [taF, taF, ih (fun k hk => h k (by omega)), h n (by omega)]
theorem woO_ag {n : Nat} {il se : Int32} {kn py bo fO so sd ilz bo' sd' : Nat → Int32} (hR : Rel n il se py bo fO so sd ilz bo' sd') (x x' : DS) (a : Int32) : ∀ h, h ≤ 16 → woO n kn bo so sd x a h = woO n kn bo' so sd' x' a h := by
  intro h
  induction h with
  | zero => intro _; rfl
  | succ h ih =>
    intro hh
    have ag := plT_ag (kn := kn) hR x x' (h + 1) hh
    have h1 := hR.1
    rw [woO, woO, ih (by omega), taF_congr (fun k hk => ag.1 k (by omega))]
theorem o_on {n : Nat} {il se li : Int32} {kn py bo fO so sd ilz bo' sd' la : Nat → Int32} (hR : Rel n il se py bo fO so sd ilz bo' sd') (x x' : DS) (a1 a2 : Int32) : (if (inB a1 5 && inB a2 16) = true then (plT n kn bo so sd x (a2.toNatClampNeg + 1)).2.1 a1.toNatClampNeg else (-2)) = (if (inB a1 5 && inB a2 16) = true then (gtF n kn bo' so sd' li x' la (a2.toNatClampNeg + 1)).2.2.1 a1.toNatClampNeg else (-2)) := by
  by_cases hc : (inB a1 5 && inB a2 16) = true
  · rw [if_pos hc, if_pos hc]
    rw [Bool.and_eq_true] at hc
    obtain ⟨t, ht, e, ec⟩ := inB_ex (n := 5) (by omega) hc.1
    obtain ⟨h, hh, e2, ec2⟩ := inB_ex (n := 16) (by omega) hc.2
    rw [ec, ec2]
    exact ((plT_ag (kn := kn) hR x x' (h + 1) (by omega)).2 (by omega) t ht).1
  · rw [if_neg hc, if_neg hc]
theorem o_heard {n : Nat} {il se li : Int32} {kn py bo fO so sd ilz bo' sd' la : Nat → Int32} (hR : Rel n il se py bo fO so sd ilz bo' sd') (x x' : DS) (a1 a2 : Int32) : (if (inB a1 5 && inB a2 16) = true then (plT n kn bo so sd x (a2.toNatClampNeg + 1)).2.2 a1.toNatClampNeg else (-2)) = (if (inB a1 5 && inB a2 16) = true then (gtF n kn bo' so sd' li x' la (a2.toNatClampNeg + 1)).2.2.2.1 a1.toNatClampNeg else (-2)) := by
  by_cases hc : (inB a1 5 && inB a2 16) = true
  · rw [if_pos hc, if_pos hc]
    rw [Bool.and_eq_true] at hc
    obtain ⟨t, ht, e, ec⟩ := inB_ex (n := 5) (by omega) hc.1
    obtain ⟨h, hh, e2, ec2⟩ := inB_ex (n := 16) (by omega) hc.2
    rw [ec, ec2]
    exact ((plT_ag (kn := kn) hR x x' (h + 1) (by omega)).2 (by omega) t ht).2
  · rw [if_neg hc, if_neg hc]
theorem o_tired {n : Nat} {il se li : Int32} {kn py bo fO so sd ilz bo' sd' la : Nat → Int32} (hR : Rel n il se py bo fO so sd ilz bo' sd') (x x' : DS) (a1 a2 : Int32) : (if (inB a1 (nI n) && inB a2 16) = true then (plT n kn bo so sd x (a2.toNatClampNeg + 1)).1 a1.toNatClampNeg else (-2)) = (if (inB a1 (nI n) && inB a2 16) = true then (gtF n kn bo' so sd' li x' la (a2.toNatClampNeg + 1)).2.1 a1.toNatClampNeg else (-2)) := by
  have hn := hR.1
  by_cases hc : (inB a1 (nI n) && inB a2 16) = true
  · rw [if_pos hc, if_pos hc]
    rw [Bool.and_eq_true] at hc
    obtain ⟨t, ht, e, ec⟩ := inB_ex (by omega) hc.1
    obtain ⟨h, hh, e2, ec2⟩ := inB_ex (n := 16) (by omega) hc.2
    rw [ec, ec2]
    exact (plT_ag (kn := kn) hR x x' (h + 1) (by omega)).1 t (by omega)
  · rw [if_neg hc, if_neg hc]
theorem o_late {n : Nat} {il se li : Int32} {kn py bo fO so sd ilz bo' sd' la : Nat → Int32} (hR : Rel n il se py bo fO so sd ilz bo' sd') (x x' : DS) (a1 : Int32) : (if inB a1 5 = true then laO n kn bo so sd x a1 16 else (-2)) = (if inB a1 5 = true then (gtF n kn bo' so sd' li x' la 16).2.2.2.2 a1.toNatClampNeg else (-2)) := by
  by_cases hc : inB a1 5 = true
  · rw [if_pos hc, if_pos hc]
    obtain ⟨t, ht, e, ec⟩ := inB_ex (n := 5) (by omega) hc
    rw [ec, e]
    show _ = fillN la 5 (fun t => laO n kn bo' so sd' x' (nI t) 16) t
    rw [fillN, if_pos ht]
    exact laO_ag hR x x' ht 16 (Nat.le_refl _)
  · rw [if_neg hc, if_neg hc]
theorem o_worn {n : Nat} {il se li : Int32} {kn py bo fO so sd ilz bo' sd' la : Nat → Int32} (hR : Rel n il se py bo fO so sd ilz bo' sd') (x x' : DS) : woO n kn bo so sd x li 16 = (gtF n kn bo' so sd' li x' la 16).1 := woO_ag hR x x' li 16 (Nat.le_refl _)
theorem z16 : ∀ h, h < 16 → inR ((fun _ => (0 : Int32)) h) 0 9 = true := fun _ _ => (by decide : inR 0 0 9 = true)
theorem Rel_0 : Rel 0 0 1 (fun _ => 0) (fun _ => 0) (fun _ => 0) (fillA (fun _ => 0) 16 (-1)) (fun _ => 0) (fun _ => 0) (fillA (fun _ => 0) 6 5) (fun _ => 0) := by
  refine ⟨by omega, ⟨1, by omega, by omega, rfl⟩, fun k hk => by omega, fun j _ => (by decide : inR 0 0 31 = true), ⟨0, by omega, rfl⟩, fun k _ => ⟨fun _ => hs_0 _, fun _ => rfl⟩, fun k _ _ => hs_0 _, fun k hk => by omega, fun k _ hk => by simp [fillA, hk], fun h hh => Or.inr rfl, z16⟩
