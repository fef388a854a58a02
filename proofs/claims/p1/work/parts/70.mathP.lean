/-! ===== the search: what it finds is what the reference's loop over all numbers finds ===== -/
def Inv (n S : Nat) (sp ilz : Nat → Int32) (w : Int32) (k p : Nat) (x : PS) (c : Nat → Nat) : Prop :=
  (∀ m, m / 6 ^ (n - k) = p → ∀ j, j < k → pTr x j = rowOf n m j) ∧
  (∀ t, t < 5 → pFs x t = nI (c t) ∧ c t + cntR (pTr x) t k = (if hs w (nI t) = true then S else 0)) ∧
  x.1 = nI (s5 c) ∧
  (∀ j, j < k → pTr x j = 5 ∨ (hs w (pTr x j) = true ∧ hs (sp j) (pTr x j) = true ∧ ilz j = 0))
theorem no_team {n S : Nat} {sp ilz : Nat → Int32} {w : Int32} {k p : Nat} {x : PS} {c : Nat → Nat} (hn : n ≤ 6) (hS : S ≤ 2) (hk : k ≤ n) (hI : Inv n S sp ilz w k p x c) (h : n - k < s5 c) {m : Nat} (hm : m / 6 ^ (n - k) = p) : itF n sp ilz w (nI S) (rowOf n m) = false := by
  cases hit : itF n sp ilz w (nI S) (rowOf n m)
  · rfl
  · exfalso
    rw [itF_iff] at hit
    have le : ∀ t, t < 5 → c t + cntR (rowOf n m) t k ≤ cntR (rowOf n m) t n := by
      intro t ht
      have e1 := (hI.2.1 t ht).2
      have e2 : cntR (pTr x) t k = cntR (rowOf n m) t k := cntR_congr (fun j hj => hI.1 m hm j hj)
      rw [e2] at e1
      by_cases hw : hs w (nI t) = true
      · have e3 := hit.2 t ht hw
        have b := cntR_le (rowOf n m) t n
        rw [cnT_cnt, nI_eq (by omega) (by omega)] at e3
        rw [if_pos hw] at e1
        omega
      · have := cntR_mono (rowOf n m) t n hk
        rw [if_neg hw] at e1
        omega
    have hsum := cnt_sum (rowOf n m) n hk
    have l0 := le 0 (by omega)
    have l1 := le 1 (by omega)
    have l2 := le 2 (by omega)
    have l3 := le 3 (by omega)
    have l4 := le 4 (by omega)
    simp only [s5] at hsum h
    omega
theorem pow_k {n k : Nat} (hk : k < n) : 6 ^ (n - k) = 6 ^ (n - (k + 1)) * 6 := by
  have : n - k = (n - (k + 1)) + 1 := by omega
  rw [this, Nat.pow_succ]
theorem up_div {n k p t m : Nat} (hk : k < n) (ht : t < 6) (hm : m / 6 ^ (n - (k + 1)) = 6 * p + t) : m / 6 ^ (n - k) = p ∧ rowOf n m k = nI t := by
  constructor
  · rw [pow_k hk, ← Nat.div_div_eq_div_mul, hm]; omega
  · have : n - 1 - k = n - (k + 1) := by omega
    rw [rowOf, this, hm]
    congr 1
    omega
theorem no_child {n S : Nat} {il : Int32} {sp ilz : Nat → Int32} {w : Int32} {k p t : Nat} {x : PS} {c : Nat → Nat} (hn : n ≤ 6) (hS : S ≤ 2) (hk : k < n) (ht : t < 5) (hil : ∀ k, k < n → (ilz k = 0 ↔ hs il (nI k) = false)) (hI : Inv n S sp ilz w k p x c) (h : (decide (pFs x t = 0) || !canT n il sp (nI k) (nI t)) = true) {m : Nat} (hm : m / 6 ^ (n - (k + 1)) = 6 * p + t) : itF n sp ilz w (nI S) (rowOf n m) = false := by
  obtain ⟨hmp, hrow⟩ := up_div hk (by omega : t < 6) hm
  cases hit : itF n sp ilz w (nI S) (rowOf n m)
  · rfl
  · exfalso
    rw [itF_iff] at hit
    have e5 : (5 : Int32) = nI 5 := rfl
    have hk1 := hit.1 k hk
    rw [hrow, e5, nI_eq (by omega) (by omega)] at hk1
    rcases hk1 with q | ⟨q1, q2, q3⟩
    · omega
    · rw [Bool.or_eq_true] at h
      rcases h with h | h
      · rw [decide_eq_true_eq] at h
        obtain ⟨e1, e2⟩ := hI.2.1 t ht
        have c0 : c t = 0 := by
          have z : (0 : Int32) = nI 0 := rfl
          have b : c t ≤ S := by
            have : c t ≤ (if hs w (nI t) = true then S else 0) := by omega
            rw [if_pos q1] at this; exact this
          rw [e1, z, nI_eq (by omega) (by omega)] at h
          exact h
        have e3 : cntR (pTr x) t k = cntR (rowOf n m) t k := cntR_congr (fun j hj => hI.1 m hmp j hj)
        have e4 := hit.2 t ht q1
        have b := cntR_le (rowOf n m) t n
        rw [cnT_cnt, nI_eq (by omega) (by omega)] at e4
        have e6 := cntR_mono (rowOf n m) t (k := k + 1) n (by omega)
        rw [cntR, if_pos hrow] at e6
        rw [if_pos q1, e3, c0] at e2
        omega
      · have ek : (nI k).toNatClampNeg = k := nI_clamp (by omega)
        rw [canT, inB_nI hk (by omega), ek, (hil k hk).mp q3, q2] at h
        exact absurd h (by decide)
theorem Inv_child {n S : Nat} {sp ilz : Nat → Int32} {w : Int32} {k p t : Nat} {x z : PS} {c c' : Nat → Nat} (hk : k < n) (ht : t < 6) (hI : Inv n S sp ilz w k p x c) (htr : ∀ j, j < k → pTr z j = pTr x j) (hv : pTr z k = nI t) (hfs : ∀ u, u < 5 → pFs z u = nI (c' u) ∧ c' u + (if t = u then 1 else 0) = c u) (hos : z.1 = nI (s5 c')) (hok : t = 5 ∨ (hs w (nI t) = true ∧ hs (sp k) (nI t) = true ∧ ilz k = 0)) : Inv n S sp ilz w (k + 1) (6 * p + t) z c' := by
  refine ⟨fun m hm j hj => ?_, fun u hu => ⟨(hfs u hu).1, ?_⟩, hos, fun j hj => ?_⟩
  · obtain ⟨hmp, hrow⟩ := up_div hk ht hm
    by_cases e : j = k
    · subst e; rw [hv, hrow]
    · rw [htr j (by omega)]; exact hI.1 m hmp j (by omega)
  · have e1 : cntR (pTr z) u k = cntR (pTr x) u k := cntR_congr htr
    have e2 := (hI.2.1 u hu).2
    have e3 := (hfs u hu).2
    have e4 : (nI t = nI u) ↔ t = u := nI_eq (by omega) (by omega)
    rw [cntR, hv, e1]
    by_cases q : t = u
    · rw [if_pos (e4.mpr q)]
      rw [if_pos q] at e3
      omega
    · rw [if_neg (fun z => q (e4.mp z))]
      rw [if_neg q] at e3
      omega
  · by_cases e : j = k
    · subst e
      rw [hv]
      rcases hok with q | q
      · left; rw [q]; rfl
      · right; exact q
    · rw [htr j (by omega)]; exact hI.2.2.2 j (by omega)
theorem in_range {p q m : Nat} (hq : 0 < q) (h1 : p * q ≤ m) (h2 : m < p * q + q) : m / q = p := by
  apply Nat.div_eq_of_lt_le
  · exact h1
  · rw [Nat.add_mul, Nat.one_mul]; exact h2
theorem pAc_mkP (os : Int32) (a : Acc) (tr fs sk : Nat → Int32) : pAc (mkP os a tr fs sk) = a := rfl
theorem pTr_mkP (os : Int32) (a : Acc) (tr fs sk : Nat → Int32) : pTr (mkP os a tr fs sk) = tr := rfl
theorem pFs_mkP (os : Int32) (a : Acc) (tr fs sk : Nat → Int32) : pFs (mkP os a tr fs sk) = fs := rfl
theorem os_mkP (os : Int32) (a : Acc) (tr fs sk : Nat → Int32) : (mkP os a tr fs sk).1 = os := rfl
theorem pf_0 (n : Nat) (il : Int32) (kn sp py bo : Nat → Int32) (f w : Int32) (k : Nat) (x : PS) : pf n il kn sp py bo f w 0 k x = if x.1 ≤ nI n - nI k then wwP n kn py bo f w x else x := by rw [pf]
theorem pf_s (n : Nat) (il : Int32) (kn sp py bo : Nat → Int32) (f w : Int32) (d k : Nat) (x : PS) : pf n il kn sp py bo f w (d + 1) k x = if x.1 ≤ nI n - nI k then pf n il kn sp py bo f w d (k + 1) (setT k (l5 (fun t => pinG (pf n il kn sp py bo f w d (k + 1)) (canT n il sp (nI k) (nI t)) k (nI t)) 5 x)) else x := by rw [pf]
set_option maxHeartbeats 2000000 in
theorem pf_sem {n S : Nat} {il : Int32} {kn sp py bo bo' ilz : Nat → Int32} {f w : Int32} (hn : n ≤ 6) (hS : S ≤ 2) (hf : inR f 0 31 = true) (hpy : ∀ k, k < n → ∃ b, b ≤ 99 ∧ py k = nI b) (hbo : ∀ k, k < n → bo k = bo' k) (hil : ∀ k, k < n → (ilz k = 0 ↔ hs il (nI k) = false)) :
    ∀ (d k p : Nat) (x : PS) (c : Nat → Nat) (r : RA) (B : Nat), k + d = n → Inv n S sp ilz w k p x c → RelA n B (pAc x) r → B + 6 ^ d < 2 ^ 30 →
      RelA n (B + 6 ^ d) (pAc (pf n il kn sp py bo f w d k x)) (foR (gR n kn sp py ilz bo' f w (nI S)) r (p * 6 ^ d) (6 ^ d)) ∧ (pf n il kn sp py bo f w d k x).1 = x.1 ∧ pFs (pf n il kn sp py bo f w d k x) = pFs x ∧ ∀ j, j < k → pTr (pf n il kn sp py bo f w d k x) j = pTr x j := by
  have c_le : ∀ {k p : Nat} {x : PS} {c : Nat → Nat}, Inv n S sp ilz w k p x c → s5 c ≤ 10 := by
    intro k p x c hI
    have b : ∀ t, t < 5 → c t ≤ 2 := by
      intro t ht
      have := (hI.2.1 t ht).2
      split at this <;> omega
    have b0 := b 0 (by omega)
    have b1 := b 1 (by omega)
    have b2 := b 2 (by omega)
    have b3 := b 3 (by omega)
    have b4 := b 4 (by omega)
    simp only [s5]
    omega
  have gid : ∀ (r : RA) (m : Nat), itF n sp ilz w (nI S) (rowOf n m) = false → gR n kn sp py ilz bo' f w (nI S) r m = r := by
    intro r m h
    rw [gR, h, Bool.false_and, if_neg (by decide)]
  intro d
  induction d with
  | zero =>
    intro k p x c r B hkd hI hR hB
    have hkn : k = n := by omega
    subst hkn
    have z0 : nI k - nI k = nI 0 := by rw [pk_sub (Nat.le_refl _), Nat.sub_self]
    have fo1 : foR (gR k kn sp py ilz bo' f w (nI S)) r (p * 6 ^ 0) (6 ^ 0) = gR k kn sp py ilz bo' f w (nI S) r p := by
      show gR k kn sp py ilz bo' f w (nI S) r (p * 6 ^ 0 + 0) = _
      rw [Nat.pow_zero, Nat.mul_one, Nat.add_zero]
    have hpp : p / 6 ^ (k - k) = p := by rw [Nat.sub_self, Nat.pow_zero, Nat.div_one]
    have cl := c_le hI
    have hle : (nI (s5 c) ≤ nI 0) ↔ s5 c ≤ 0 := nI_leI (by omega) (by omega)
    rw [fo1, pf_0, z0, hI.2.2.1]
    by_cases h0 : s5 c ≤ 0
    · rw [if_pos (hle.mpr h0)]
      have hro : ∀ j, j < k → pTr x j = rowOf k p j := fun j hj => hI.1 p hpp j hj
      have hit : itF k sp ilz w (nI S) (rowOf k p) = true := by
        rw [itF_iff]
        refine ⟨fun j hj => by rw [← hro j hj]; exact hI.2.2.2 j hj, fun t ht hw => ?_⟩
        have e1 := (hI.2.1 t ht).2
        have c0 : c t = 0 := by
          simp only [s5] at h0
          have : t = 0 ∨ t = 1 ∨ t = 2 ∨ t = 3 ∨ t = 4 := by omega
          rcases this with rfl | rfl | rfl | rfl | rfl <;> omega
        rw [if_pos hw, c0, Nat.zero_add, cntR_congr hro] at e1
        rw [cnT_cnt, e1]
      refine ⟨?_, hI.2.2.1, rfl, fun j _ => rfl⟩
      rw [gR, hit, Bool.true_and, wwP, pAc_mkP, wwA, whole_eq hf hro, Nat.pow_zero]
      by_cases hw : iwF k kn f w (rowOf k p) = true
      · rw [if_pos hw, if_pos hw]
        exact RelA_step hn (by omega) hpy hbo hro (fun j _ => rowOf_in k p j) hR
      · rw [if_neg hw, if_neg hw]
        exact RelA_mono hR (by omega)
    · rw [if_neg (fun z => h0 (hle.mp z))]
      have hno := no_team (m := p) hn hS (Nat.le_refl k) hI (by omega) hpp
      rw [gid r p hno]
      exact ⟨RelA_mono hR (by omega), hI.2.2.1, rfl, fun j _ => rfl⟩
  | succ d ih =>
    intro k p x c r B hkd hI hR hB
    have hk : k < n := by omega
    have hnk : n - k = d + 1 := by omega
    have hnk1 : n - (k + 1) = d := by omega
    have cl := c_le hI
    have ek : (nI k).toNatClampNeg = k := nI_clamp (by omega)
    have hpos : 0 < 6 ^ d := Nat.pow_pos (by omega)
    have hpow : 6 ^ (d + 1) = 6 * 6 ^ d := by rw [Nat.pow_succ, Nat.mul_comm]
    have z0 : nI n - nI k = nI (n - k) := pk_sub (by omega)
    have hle : (nI (s5 c) ≤ nI (n - k)) ↔ s5 c ≤ n - k := nI_leI (by omega) (by omega)
    rw [pf_s, z0, hI.2.2.1]
    by_cases h0 : s5 c ≤ n - k
    · rw [if_pos (hle.mpr h0)]
      -- the five booths, one behind another
      have L : ∀ t, t ≤ 5 → RelA n (B + t * 6 ^ d) (pAc (l5 (fun t => pinG (pf n il kn sp py bo f w d (k + 1)) (canT n il sp (nI k) (nI t)) k (nI t)) t x)) (foR (gR n kn sp py ilz bo' f w (nI S)) r (p * 6 ^ (d + 1)) (t * 6 ^ d)) ∧ (l5 (fun t => pinG (pf n il kn sp py bo f w d (k + 1)) (canT n il sp (nI k) (nI t)) k (nI t)) t x).1 = x.1 ∧ pFs (l5 (fun t => pinG (pf n il kn sp py bo f w d (k + 1)) (canT n il sp (nI k) (nI t)) k (nI t)) t x) = pFs x ∧ ∀ j, j < k → pTr (l5 (fun t => pinG (pf n il kn sp py bo f w d (k + 1)) (canT n il sp (nI k) (nI t)) k (nI t)) t x) j = pTr x j := by
        intro t
        induction t with
        | zero =>
          intro _
          rw [Nat.zero_mul]
          exact ⟨hR, rfl, rfl, fun j _ => rfl⟩
        | succ t iht =>
          intro ht
          obtain ⟨g1, g2, g3, g4⟩ := iht (by omega)
          rw [l5]
          generalize l5 (fun t => pinG (pf n il kn sp py bo f w d (k + 1)) (canT n il sp (nI k) (nI t)) k (nI t)) t x = y at g1 g2 g3 g4 ⊢
          have et : (nI t).toNatClampNeg = t := nI_clamp (by omega)
          have hmul : (t + 1) * 6 ^ d = t * 6 ^ d + 6 ^ d := by rw [Nat.add_mul, Nat.one_mul]
          have hbase : p * 6 ^ (d + 1) + t * 6 ^ d = (6 * p + t) * 6 ^ d := by rw [hpow, Nat.add_mul, ← Nat.mul_assoc, Nat.mul_comm p 6]
          have hbd : t * 6 ^ d + 6 ^ d ≤ 6 * 6 ^ d := by
            rw [← hmul]; exact Nat.mul_le_mul_right _ (by omega)
          rw [hmul, foR_add, hbase]
          show RelA n _ (pAc (pinG _ _ k (nI t) y)) _ ∧ (pinG _ _ k (nI t) y).1 = x.1 ∧ pFs (pinG _ _ k (nI t) y) = pFs x ∧ ∀ j, j < k → pTr (pinG _ _ k (nI t) y) j = pTr x j
          rw [pinG, et]
          by_cases hc : (decide (pFs y t = 0) || !canT n il sp (nI k) (nI t)) = true
          · rw [if_pos hc]
            rw [g3] at hc
            rw [foR_id _ _ _ _ (fun m h1 h2 a => gid a m (no_child hn hS hk (by omega) hil hI hc (by rw [hnk1]; exact in_range hpos h1 h2)))]
            exact ⟨RelA_mono g1 (by omega), g2, g3, g4⟩
          · rw [if_neg hc]
            rw [Bool.or_eq_true, not_or, decide_eq_true_eq, Bool.not_eq_true', Bool.not_eq_false] at hc
            obtain ⟨hc1, hc2⟩ := hc
            have hcan := hc2
            rw [canT, Bool.and_eq_true, Bool.and_eq_true, ek, Bool.not_eq_true'] at hcan
            have ct1 : 1 ≤ c t := by
              rcases Nat.eq_zero_or_pos (c t) with q | q
              · exact absurd (by rw [g3, (hI.2.1 t (by omega)).1, q]; rfl) hc1
              · exact q
            have hw : hs w (nI t) = true := by
              cases q : hs w (nI t)
              · have := (hI.2.1 t (by omega)).2
                rw [q, if_neg (by decide)] at this
                omega
              · rfl
            have efs : pFs y t - 1 = nI (c t - 1) := by
              have o1 : (1 : Int32) = nI 1 := rfl
              rw [g3, (hI.2.1 t (by omega)).1, o1, pk_sub ct1]
            have hs5 : s5 (fun u => if u = t then c t - 1 else c u) + 1 = s5 c := by
              simp only [s5]
              have : t = 0 ∨ t = 1 ∨ t = 2 ∨ t = 3 ∨ t = 4 := by omega
              rcases this with rfl | rfl | rfl | rfl | rfl <;> simp <;> omega
            have hIz : Inv n S sp ilz w (k + 1) (6 * p + t) (mkP (y.1 - 1) (pAc y) (upd (pTr y) k (nI t)) (upd (pFs y) t (pFs y t - 1)) (pSk y)) (fun u => if u = t then c t - 1 else c u) := by
              refine Inv_child hk (by omega) hI (fun j hj => ?_) ?_ (fun u hu => ?_) ?_ (Or.inr ⟨hw, hcan.2.2, (hil k hk).mpr hcan.2.1⟩)
              · rw [pTr_mkP, upd_ne _ _ (by omega), g4 j hj]
              · rw [pTr_mkP, upd_at]
              · rw [pFs_mkP]
                by_cases q : u = t
                · subst q
                  refine ⟨?_, ?_⟩
                  · rw [upd_at, efs]; simp
                  · simp; omega
                · refine ⟨?_, ?_⟩
                  · rw [upd_ne _ _ q, g3, (hI.2.1 u hu).1]; simp [q]
                  · have q2 : ¬ t = u := fun z => q z.symm
                    simp [q, q2]
              · rw [os_mkP, g2, hI.2.2.1]
                have o1 : (1 : Int32) = nI 1 := rfl
                rw [o1, pk_sub (by omega)]
                congr 1
                omega
            obtain ⟨f1, f2, f3, f4⟩ := ih (k + 1) (6 * p + t) _ _ _ (B + t * 6 ^ d) (by omega) hIz g1 (by omega)
            generalize pf n il kn sp py bo f w d (k + 1) (mkP (y.1 - 1) (pAc y) (upd (pTr y) k (nI t)) (upd (pFs y) t (pFs y t - 1)) (pSk y)) = z at f1 f2 f3 f4 ⊢
            rw [os_mkP] at f2
            rw [pFs_mkP] at f3
            refine ⟨?_, ?_, ?_, fun j hj => ?_⟩
            · rw [Nat.add_assoc] at f1
              exact f1
            · show z.1 + 1 = x.1
              rw [f2, ← g2]
              exact Int32.sub_add_cancel _ _
            · show upd (pFs z) t (pFs z t + 1) = pFs x
              rw [f3, upd_at, upd_upd, Int32.sub_add_cancel, upd_same, g3]
            · show pTr z j = pTr x j
              rw [f4 j (by omega), pTr_mkP, upd_ne _ _ (by omega), g4 j hj]
      obtain ⟨g1, g2, g3, g4⟩ := L 5 (Nat.le_refl _)
      generalize l5 (fun t => pinG (pf n il kn sp py bo f w d (k + 1)) (canT n il sp (nI k) (nI t)) k (nI t)) 5 x = y at g1 g2 g3 g4 ⊢
      have hI5 : Inv n S sp ilz w (k + 1) (6 * p + 5) (setT k y) c := by
        refine Inv_child hk (by omega) hI (fun j hj => ?_) ?_ (fun u hu => ⟨?_, ?_⟩) ?_ (Or.inl rfl)
        · show upd (pTr y) k 5 j = _
          rw [upd_ne _ _ (by omega), g4 j hj]
        · show upd (pTr y) k 5 k = _
          rw [upd_at]; rfl
        · show pFs y u = _
          rw [g3, (hI.2.1 u hu).1]
        · rw [if_neg (by omega), Nat.add_zero]
        · show y.1 = _
          rw [g2, hI.2.2.1]
      obtain ⟨f1, f2, f3, f4⟩ := ih (k + 1) (6 * p + 5) (setT k y) c _ (B + 5 * 6 ^ d) (by omega) hI5 g1 (by omega)
      have hbase : p * 6 ^ (d + 1) + 5 * 6 ^ d = (6 * p + 5) * 6 ^ d := by rw [hpow, Nat.add_mul, ← Nat.mul_assoc, Nat.mul_comm p 6]
      have hlen : 6 ^ (d + 1) = 5 * 6 ^ d + 6 ^ d := by rw [hpow]; omega
      refine ⟨?_, ?_, ?_, fun j hj => ?_⟩
      · rw [← hbase, ← foR_add, ← hlen, Nat.add_assoc, ← hlen] at f1
        exact f1
      · rw [f2]; show y.1 = _; rw [g2, hI.2.2.1]
      · rw [f3]; show pFs y = _; exact g3
      · rw [f4 j (by omega)]
        show upd (pTr y) k 5 j = _
        rw [upd_ne _ _ (by omega), g4 j hj]
    · rw [if_neg (fun z => h0 (hle.mp z))]
      refine ⟨?_, hI.2.2.1, rfl, fun j _ => rfl⟩
      rw [foR_id _ _ _ _ (fun m h1 h2 a => gid a m (no_team hn hS (by omega) hI (by omega) (by rw [hnk]; exact in_range (Nat.pow_pos (by omega)) h1 h2)))]
      exact RelA_mono hR (by omega)
