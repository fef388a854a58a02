/-! ===== the class and the reference side by side ===== -/
def Rel (n : Nat) (il se : Int32) (py bo fO so sd ilz bo' sd' : Nat → Int32) : Prop :=
  n ≤ 6 ∧ (∃ S, 1 ≤ S ∧ S ≤ 2 ∧ se = nI S) ∧ (∀ k, k < n → ∃ b, b ≤ 99 ∧ py k = nI b) ∧ (∀ j, j < 2 → inR (fO j) 0 31 = true) ∧
  (∃ b, b < 64 ∧ il = nI b) ∧ (∀ k, k < 6 → (ilz k = 0 ↔ hs il (nI k) = false)) ∧ (∀ k, n ≤ k → k < 6 → hs il (nI k) = false) ∧
  (∀ k, k < n → bo k = bo' k ∧ inB (bo k) 6 = true) ∧ (∀ k, n ≤ k → k < 6 → bo' k = 5) ∧
  (∀ h, h < 16 → so h = -1 ∨ sd h = sd' h) ∧ (∀ h, h < 16 → inR (sd' h) 0 9 = true)
theorem b_m32 : ∀ i, i < 32 → bt (-32) i = decide (5 ≤ i) := by decide +kernel
theorem b_31 : ∀ i, i < 32 → bt 31 i = decide (i < 5) := by decide +kernel
theorem m32_small : ∀ b, b < 32 → nI b &&& (-32) = 0 := by decide +kernel
theorem inR_32 (v : Int32) : inR v 0 31 = decide (v &&& (-32) = 0) := by
  by_cases h : v &&& (-32) = 0
  · have e : v = v &&& 31 := by
      apply b_ext
      intro i hi
      have h1 : bt (v &&& (-32)) i = false := by rw [h, b_0]
      rw [b_and, b_m32 i hi] at h1
      rw [b_and, b_31 i hi]
      by_cases h5 : i < 5
      · simp [h5]
      · have : 5 ≤ i := by omega
        simp [this] at h1
        simp [h1]
    obtain ⟨j, hj, ej⟩ := pk_andE v (m := 31) 5 (by decide)
    have ev : v = nI j := e.trans ej
    rw [decide_eq_true h]
    have h2 : inB v (nI (31 + 1)) = true := by rw [ev]; exact inB_nI (by omega) (by omega)
    have h3 : inR v 0 (nI 31) = true := by rw [inR_b (by omega)]; exact h2
    exact h3
  · rw [decide_eq_false h]
    cases hr : inR v 0 31
    · rfl
    · obtain ⟨b, hb, e⟩ := inR_31 hr
      exact absurd (by rw [e]; exact m32_small b hb) h
theorem le_not (a b : Int32) : decide (a ≤ b) = !decide (b < a) := by
  by_cases h : a ≤ b
  · rw [decide_eq_true h, decide_eq_false (Int32.not_lt.mpr h)]; rfl
  · rw [decide_eq_false h, decide_eq_true (Int32.not_le.mp h)]; rfl
theorem rOk_eq (a b v : Int32) : rOk a b v = pOk a b v := by
  rw [rOk, pOk, inR_32, inR_32, le_not]
  rfl
theorem inR_or (v l m a b : Int32) : (if inR v l m = true then a else b) = (if (v < l ∨ m < v) then b else a) := by
  unfold inR
  by_cases h1 : v < l
  · simp [h1]
  · by_cases h2 : m < v
    · simp [h2]
    · simp [h1, h2]
theorem inB_ex {v : Int32} {n : Nat} (hn : n < 2 ^ 31) (h : inB v (nI n) = true) : ∃ k, k < n ∧ v = nI k ∧ v.toNatClampNeg = k := by
  obtain ⟨k, hk, e⟩ := (inB_iff hn).mp h
  exact ⟨k, hk, e, by rw [e, nI_clamp (by omega)]⟩
theorem pOk_pay {a b v : Int32} (h : pOk a b v = true) : ∃ c, c ≤ 99 ∧ v = nI c := by
  simp only [pOk, Bool.and_eq_true, Bool.not_eq_true', decide_eq_true_eq, decide_eq_false_iff_not] at h
  have h0 : ¬ v < 0 := by
    intro q
    apply h.2.2.2.1
    rw [Int32.lt_iff_toInt_lt] at q ⊢
    have e0 : (0 : Int32).toInt = 0 := by decide
    have e1 : (1 : Int32).toInt = 1 := by decide
    omega
  have e9 : (99 : Int32) = nI 99 := rfl
  obtain ⟨j, hj, e⟩ := nI_of h0
  rw [e, e9, nI_leI hj (by omega)] at h
  exact ⟨j, h.2.2.2.2, e⟩
theorem o_person {n : Nat} {il se : Int32} {py bo fO so sd ilz bo' sd' : Nat → Int32} (a1 a2 a3 : Int32) (h : Rel n il se py bo fO so sd ilz bo' sd') : Rel (if (pOk a1 a2 a3 && decide (n < 6)) = true then n + 1 else n) il se (if (pOk a1 a2 a3 && decide (n < 6)) = true then upd py n a3 else py) (if (pOk a1 a2 a3 && decide (n < 6)) = true then upd bo n 5 else bo) fO so sd ilz bo' sd' := by
  by_cases hc : (pOk a1 a2 a3 && decide (n < 6)) = true
  · rw [if_pos hc, if_pos hc, if_pos hc]
    rw [Bool.and_eq_true, decide_eq_true_eq] at hc
    obtain ⟨h1, h2, h3, h4, h5, h6, h7, h8, h9, h10, h11⟩ := h
    refine ⟨by omega, h2, fun k hk => ?_, h4, h5, h6, fun k h1 h2 => h7 k (by omega) h2, fun k hk => ?_, fun k q1 q2 => h9 k (by omega) q2, h10, h11⟩
    · by_cases e : k = n
      · subst e; rw [upd_at]; exact pOk_pay hc.1
      · rw [upd_ne _ _ e]; exact h3 k (by omega)
    · by_cases e : k = n
      · subst e; rw [upd_at]; exact ⟨(h9 k (Nat.le_refl _) hc.2).symm, by decide⟩
      · rw [upd_ne _ _ e]; exact h8 k (by omega)
  · rw [if_neg hc, if_neg hc, if_neg hc]; exact h
theorem set64 : ∀ b, b < 64 → ∀ k, k < 6 → nI b ||| ((1 : Int32) <<< (nI k &&& 31)) = nI (b ||| 2 ^ k) ∧ b ||| 2 ^ k < 64 := by decide +kernel
theorem clr64 : ∀ b, b < 64 → ∀ k, k < 6 → nI b &&& (((1 : Int32) <<< (nI k &&& 31)) ^^^ (-1)) = nI (b &&& (63 - 2 ^ k)) ∧ b &&& (63 - 2 ^ k) < 64 := by decide +kernel
theorem nar0 : vp_nar .boolean 0 = 0 := by decide
theorem nar1 : vp_nar .boolean 1 = 1 := by decide
theorem o_ill {n : Nat} {il se : Int32} {py bo fO so sd ilz bo' sd' : Nat → Int32} (a1 a2 : Int32) (ha : a2 = 0 ∨ a2 = 1) (h : Rel n il se py bo fO so sd ilz bo' sd') : (if inB a1 (nI n) = true then bI (hs il a1) else (-2)) = (if inB a1 (nI n) = true then (if ilz a1.toNatClampNeg = 0 then 0 else 1) else (-2)) ∧ Rel n (if inB a1 (nI n) = true then (if a2 = 0 then il &&& (((1 : Int32) <<< (a1 &&& 31)) ^^^ (-1)) else il ||| ((1 : Int32) <<< (a1 &&& 31))) else il) se py bo fO so sd (if inB a1 (nI n) = true then upd ilz a1.toNatClampNeg (vp_nar .boolean a2) else ilz) bo' sd' := by
  obtain ⟨h1, h2, h3, h4, h5, h6, h7, h8, h9, h10, h11⟩ := h
  by_cases hc : inB a1 (nI n) = true
  · rw [if_pos hc, if_pos hc, if_pos hc, if_pos hc]
    obtain ⟨k, hk, e, ec⟩ := inB_ex (by omega) hc
    rw [ec, e]
    obtain ⟨b, hb, eb⟩ := h5
    constructor
    · by_cases q : ilz k = 0
      · rw [if_pos q, (h6 k (by omega)).mp q]; rfl
      · rw [if_neg q]
        cases q2 : hs il (nI k)
        · exact absurd ((h6 k (by omega)).mpr q2) q
        · rfl
    · rcases ha with rfl | rfl
      · rw [if_pos rfl, nar0]
        refine ⟨h1, h2, h3, h4, ?_, fun j hj => ?_, fun j q1 q2 => ?_, h8, h9, h10, h11⟩
        · rw [eb]; exact ⟨_, (clr64 b hb k (by omega)).2, (clr64 b hb k (by omega)).1⟩
        · rw [hs_clr _ (by omega) (by omega)]
          by_cases q : j = k
          · subst q; rw [upd_at]; simp
          · rw [upd_ne _ _ q]; simp [q]; exact h6 j hj
        · rw [hs_clr _ (by omega) (by omega), h7 j q1 q2]; rfl
      · rw [if_neg (by decide), nar1]
        refine ⟨h1, h2, h3, h4, ?_, fun j hj => ?_, fun j q1 q2 => ?_, h8, h9, h10, h11⟩
        · rw [eb]; exact ⟨_, (set64 b hb k (by omega)).2, (set64 b hb k (by omega)).1⟩
        · rw [hs_set _ (by omega) (by omega)]
          by_cases q : j = k
          · subst q; rw [upd_at]; simp
          · rw [upd_ne _ _ q]; simp [q]; exact h6 j hj
        · have : ¬ j = k := by omega
          rw [hs_set _ (by omega) (by omega), h7 j q1 q2]; simp [this]
  · rw [if_neg hc, if_neg hc, if_neg hc, if_neg hc]
    exact ⟨rfl, h1, h2, h3, h4, h5, h6, h7, h8, h9, h10, h11⟩
theorem o_session {n : Nat} {il se : Int32} {py bo fO so sd ilz bo' sd' : Nat → Int32} (a1 a2 a3 : Int32) (h : Rel n il se py bo fO so sd ilz bo' sd') : Rel n il se py bo (if (inB a1 2 && (decide (a2 &&& (-32) = 0) && decide (a3 &&& (-32) = 0))) = true then upd fO a1.toNatClampNeg a2 else fO) so sd ilz bo' sd' := by
  by_cases hc : (inB a1 2 && (decide (a2 &&& (-32) = 0) && decide (a3 &&& (-32) = 0))) = true
  · rw [if_pos hc]
    rw [Bool.and_eq_true, Bool.and_eq_true] at hc
    obtain ⟨h1, h2, h3, h4, h5⟩ := h
    refine ⟨h1, h2, h3, fun j hj => ?_, h5⟩
    by_cases e : j = a1.toNatClampNeg
    · subst e; rw [upd_at, inR_32]; exact hc.2.1
    · rw [upd_ne _ _ e]; exact h4 j hj
  · rw [if_neg hc]; exact h
theorem o_seats {n : Nat} {il se : Int32} {py bo fO so sd ilz bo' sd' : Nat → Int32} (a1 : Int32) (h : Rel n il se py bo fO so sd ilz bo' sd') : Rel n il (if (a1 < 1 ∨ 2 < a1) then se else a1) py bo fO so sd ilz bo' sd' := by
  by_cases hc : (a1 < 1 ∨ 2 < a1)
  · rw [if_pos hc]; exact h
  · rw [if_neg hc]
    obtain ⟨h1, h2, h3⟩ := h
    refine ⟨h1, ?_, h3⟩
    rw [not_or] at hc
    have h0 : ¬ a1 < 0 := by
      intro q
      apply hc.1
      rw [Int32.lt_iff_toInt_lt] at q ⊢
      have e0 : (0 : Int32).toInt = 0 := by decide
      have e1 : (1 : Int32).toInt = 1 := by decide
      omega
    obtain ⟨j, hj, e⟩ := nI_of h0
    have e1 : (1 : Int32) = nI 1 := rfl
    have e2 : (2 : Int32) = nI 2 := rfl
    rw [e, e1, e2, nI_ltI hj (by omega), nI_ltI (by omega) hj] at hc
    exact ⟨j, by omega, by omega, e⟩
theorem prF_at (fs : Nat → Int32) (w s : Int32) : ∀ m t, t < m → prF fs w s m t = if hs w (nI t) = true then s else 0 := by
  intro m
  induction m with
  | zero => intro t ht; omega
  | succ m ih =>
    intro t ht
    rw [prF]
    by_cases e : t = m
    · subst e; rw [upd_at]
    · rw [upd_ne _ _ e, ih t (by omega)]
theorem prO_5 (w : Int32) (S : Nat) : prO w (nI S) 5 = nI (s5 (fun t => if hs w (nI t) = true then S else 0)) := by
  have e : ∀ t, (if hs w (nI t) = true then nI S else (0 : Int32)) = nI (if hs w (nI t) = true then S else 0) := fun t => by
    by_cases q : hs w (nI t) = true
    · rw [if_pos q, if_pos q]
    · rw [if_neg q, if_neg q]; rfl
  simp only [prO, sI, e, s5]
  have z : (0 : Int32) = nI 0 := rfl
  rw [z, nI_add, nI_add, nI_add, nI_add, nI_add, Nat.zero_add]
theorem hs_63 : ∀ k, k < 6 → hs 63 (nI k) = true := by decide +kernel
theorem find_main {n : Nat} {il se : Int32} {kn sp py bo fO wI so sd ilz bo' sd' : Nat → Int32} (h : Rel n il se py bo fO so sd ilz bo' sd') {j : Nat} (hj : j < 2) (x : SS) (np : Int32) (cp nr ro : Nat → Int32) : RelA n (6 ^ n) (pAc (stG n il kn sp py bo (fO j) (wI j) se x)) (ftL n kn sp py ilz bo' (fO j) (wI j) se ((0, -1, -1, np, 63, cp, nr), ro) (6 ^ n)).1 := by
  obtain ⟨h1, ⟨S, hS1, hS2, eS⟩, h3, h4, h5, h6, h7, h8, h9, h10, h11⟩ := h
  subst eS
  have hI : Inv n S sp ilz (wI j) 0 0 (prO (wI j) (nI S) 5, 0, 0, -1, -1, -1, x.2.2.2.2.2.2.2.2.1, prF x.2.2.2.2.2.2.2.2.2.1 (wI j) (nI S) 5, x.2.2.2.2.2.2.2.2.2.2.1, x.2.2.2.2.2.2.2.2.2.2.2.1, x.2.2.2.2.2.2.2.2.2.2.2.2) (fun t => if hs (wI j) (nI t) = true then S else 0) := by
    refine ⟨fun m _ i hi => by omega, fun t ht => ⟨?_, by simp [cntR]⟩, prO_5 _ _, fun i hi => by omega⟩
    show prF x.2.2.2.2.2.2.2.2.2.1 (wI j) (nI S) 5 t = nI (if hs (wI j) (nI t) = true then S else 0)
    rw [prF_at _ _ _ 5 t ht]
    by_cases q : hs (wI j) (nI t) = true
    · rw [if_pos q, if_pos q]
    · rw [if_neg q, if_neg q]; rfl
  have hR : RelA n 0 (pAc (prO (wI j) (nI S) 5, 0, 0, -1, -1, -1, x.2.2.2.2.2.2.2.2.1, prF x.2.2.2.2.2.2.2.2.2.1 (wI j) (nI S) 5, x.2.2.2.2.2.2.2.2.2.2.1, x.2.2.2.2.2.2.2.2.2.2.2.1, x.2.2.2.2.2.2.2.2.2.2.2.2)) ((0, -1, -1, np, 63, cp, nr) : RA) := by
    refine ⟨0, Nat.le_refl _, rfl, rfl, rfl, rfl, fun _ => ⟨rfl, rfl⟩, fun q => absurd q (by omega), fun k hk => ?_⟩
    show hs 63 (nI k) = !hs 0 (nI k)
    rw [hs_63 k (by omega), hs_0]; rfl
  have main := (pf_sem (il := il) (kn := kn) h1 hS2 (h4 j hj) h3 (fun k hk => (h8 k hk).1) (fun k hk => h6 k (by omega)) n 0 0 _ _ _ 0 (Nat.zero_add n) hI hR (by have := pow6_lt h1; omega)).1
  rw [Nat.zero_add, Nat.zero_mul] at main
  rw [ftL_foR]
  exact main
theorem o_find {n : Nat} {il se : Int32} {kn sp py bo fO wI so sd ilz bo' sd' : Nat → Int32} (h : Rel n il se py bo fO so sd ilz bo' sd') {a : Int32} (ha : inB a 2 = true) (x : SS) (x' : FS) : ∃ c, c ≤ 6 ^ n ∧ (stF n il kn sp py bo fO wI se a x).2.2.2.1 = nI c ∧ (ftF n kn sp py ilz fO wI bo' se a x').1 = nI c ∧ (stF n il kn sp py bo fO wI se a x).2.2.2.2.2.1 = (ftF n kn sp py ilz fO wI bo' se a x').2.1 ∧ (stF n il kn sp py bo fO wI se a x).2.2.2.2.2.2.1 = (ftF n kn sp py ilz fO wI bo' se a x').2.2.1 ∧
    (0 < c → (stF n il kn sp py bo fO wI se a x).2.2.2.2.2.2.2.1 = (ftF n kn sp py ilz fO wI bo' se a x').2.2.2.1 ∧ ∀ j, j < n → (stF n il kn sp py bo fO wI se a x).2.2.2.2.2.2.2.2.2.2.2.1 j = (ftF n kn sp py ilz fO wI bo' se a x').2.2.2.2.2.2.1 j ∧ (stF n il kn sp py bo fO wI se a x).2.2.2.2.2.2.2.2.2.2.2.2 j = (ftF n kn sp py ilz fO wI bo' se a x').2.2.2.2.2.2.2 j ∧ inB ((stF n il kn sp py bo fO wI se a x).2.2.2.2.2.2.2.2.2.2.2.1 j) 6 = true ∧ inB ((stF n il kn sp py bo fO wI se a x).2.2.2.2.2.2.2.2.2.2.2.2 j) 6 = true) ∧
    (∀ k, k < n → hs (ftF n kn sp py ilz fO wI bo' se a x').2.2.2.2.1 (nI k) = !hs (stF n il kn sp py bo fO wI se a x).2.2.2.2.1 (nI k)) := by
  obtain ⟨j, hj, e, ec⟩ := inB_ex (n := 2) (by omega) ha
  have main := find_main (kn := kn) (sp := sp) (wI := wI) h hj x x'.2.2.2.1 x'.2.2.2.2.2.2.1 x'.2.2.2.2.2.2.2 x'.2.2.2.2.2.1
  have e1 : stF n il kn sp py bo fO wI se a x = ssO (fO j) (wI j) (stG n il kn sp py bo (fO j) (wI j) se x) := by rw [stF, if_pos ha, ec]
  have e2 : ftF n kn sp py ilz fO wI bo' se a x' = ftO (ftL n kn sp py ilz bo' (fO j) (wI j) se ((0, -1, -1, x'.2.2.2.1, 63, x'.2.2.2.2.2.2.1, x'.2.2.2.2.2.2.2), x'.2.2.2.2.2.1) (6 ^ n)) := by rw [ftF, ec]
  rw [e1, e2]
  generalize stG n il kn sp py bo (fO j) (wI j) se x = y at main ⊢
  generalize ftL n kn sp py ilz bo' (fO j) (wI j) se ((0, -1, -1, x'.2.2.2.1, 63, x'.2.2.2.2.2.2.1, x'.2.2.2.2.2.2.2), x'.2.2.2.2.2.1) (6 ^ n) = z at main ⊢
  obtain ⟨c, c1, c2, c3, c4, c5, c6, c7, c8⟩ := main
  exact ⟨c, c1, c2, c3, c4, c5, fun q => ⟨(c7 q).2.2.1, (c7 q).2.2.2⟩, c8⟩
