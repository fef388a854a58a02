theorem h_X2_prepare (n : Nat) (tr : Nat → Int32) (sk : Nat → Int32) (ct : Nat → Int32) (nt : Nat → Int32) (il : Int32) (kn : Nat → Int32) (sp : Nat → Int32) (py : Nat → Int32) (bo : Nat → Int32) (os : Int32) (fl : Int32) (wa : Int32) (fo : Int32) (sb : Int32) (lp : Int32) (fm : Int32) (pn : Int32) (fs : Nat → Int32) (a1 : Int32) (a2 : Int32) (a3 : Int32) (hn : n ≤ 6) (K43 : Int32 → Int32 → Int32 → Int32 → Int32 → Int32 → Int32 → Int32 → Int32 → Int32 → Int32 → (Nat → Int32) → Prop) (R43 : ∀ x2 x3 x4 os_ fl_ wa_ fo_ sb_ lp_ fm_ pn_ fs_, v_X2_prepare_43 n tr sk ct nt il kn sp py bo (fun u => u = (prO a2 a3 5, a1, a2, 0, 0, (-1), (-1), (-1), prF fs a2 a3 5)) K43 x2 x3 x4 os_ fl_ wa_ fo_ sb_ lp_ fm_ pn_ fs_ → K43 x2 x3 x4 os_ fl_ wa_ fo_ sb_ lp_ fm_ pn_ fs_) : v_X2_prepare_0 n tr sk ct nt il kn sp py bo (fun u => u = (prO a2 a3 5, a1, a2, 0, 0, (-1), (-1), (-1), prF fs a2 a3 5)) K43 a1 a2 a3 os fl wa fo sb lp fm pn fs := by
  unfold v_X2_prepare_0
  have key := up_ind (fun k => K43 a2 a3 (nI k) (prO a2 a3 k) a1 a2 0 0 (-1) (-1) (-1) (prF fs a2 a3 k)) 5 (R43 _ _ _ _ _ _ _ _ _ _ _ _ ?_) (fun k hk ih => R43 _ _ _ _ _ _ _ _ _ _ _ _ ?_)
  · exact key
  · exact ⟨fun _ => rfl, fun h => absurd (nI_le (a := 5) (b := 5) (Nat.le_refl _) (by omega)) h⟩
  · refine ⟨fun h => absurd h (nI_ge (b := 5) hk (by omega)), fun _ => ?_⟩
    have hv : vp_in (nI k) 5 := vp_in_nI hk (by omega)
    have ec : (nI k).toNatClampNeg = k := nI_clamp (by omega)
    have eu : ∀ (f : Nat → Int32) (v : Int32), upd f k v k = v := fun f v => by simp [upd]
    simp only [bI_0, Bool.not_eq_false, v_X2_prepare_69, nI_1, ec, eu]
    refine ⟨fun h => ⟨hv, hv, ?_⟩, fun h => ⟨hv, hv, ?_⟩⟩
    · simpa [prO, sI, prF, h] using ih
    · simpa [prO, sI, prF, h] using ih
theorem h_X2_shareKnown (n : Nat) (os : Int32) (fl : Int32) (wa : Int32) (fo : Int32) (sb : Int32) (lp : Int32) (fm : Int32) (pn : Int32) (tr : Nat → Int32) (fs : Nat → Int32) (ct : Nat → Int32) (nt : Nat → Int32) (il : Int32) (kn : Nat → Int32) (sp : Nat → Int32) (py : Nat → Int32) (bo : Nat → Int32) (sk : Nat → Int32) (hn : n ≤ 6) (K11 : Int32 → (Nat → Int32) → Prop) (R11 : ∀ x1 sk_, v_X2_shareKnown_11 n os fl wa fo sb lp fm pn tr fs ct nt il kn sp py bo (fun u => u = shK kn tr sk n) K11 x1 sk_ → K11 x1 sk_) : v_X2_shareKnown_0 n os fl wa fo sb lp fm pn tr fs ct nt il kn sp py bo (fun u => u = shK kn tr sk n) K11  sk := by
  unfold v_X2_shareKnown_0
  have key := up_ind (fun k => K11 (nI k) (shK kn tr sk k)) n (R11 _ _ ?_) (fun k hk ih => R11 _ _ ?_)
  · exact ⟨by omega, key⟩
  · exact ⟨fun _ => rfl, fun h => absurd (nI_le (Nat.le_refl _) (by omega)) h⟩
  · refine ⟨fun h => absurd h (nI_ge hk (by omega)), fun _ => ⟨vp_in_nI (by omega) (by omega), ?_⟩⟩
    have ec : (nI k).toNatClampNeg = k := nI_clamp (by omega)
    simp only [bI_0, Bool.not_eq_false, v_X2_shareKnown_53, nI_1, ec, atP_nI hk (by omega : n < 2 ^ 31)]
    refine ⟨fun h => ?_, fun h => ?_⟩
    · simpa [shK, h] using ih
    · have hv : vp_in (tr k) 5 := inB_in (n := 5) h (Nat.le_refl _) (by omega)
      refine ⟨hv, hv, ?_⟩
      simpa [shK, h] using ih
theorem h_X2_reachesFloors (n : Nat) (os : Int32) (fl : Int32) (wa : Int32) (fo : Int32) (sb : Int32) (lp : Int32) (fm : Int32) (pn : Int32) (tr : Nat → Int32) (fs : Nat → Int32) (sk : Nat → Int32) (ct : Nat → Int32) (nt : Nat → Int32) (il : Int32) (kn : Nat → Int32) (sp : Nat → Int32) (py : Nat → Int32) (bo : Nat → Int32) (a1 : Int32) (hn : n ≤ 6) (h0 : vp_in a1 5) (K13 : Int32 → Int32 → Int32 → Prop) (R13 : ∀ x1 x2 x3, v_X2_reachesFloors_13 n os fl wa fo sb lp fm pn tr fs sk ct nt il kn sp py bo (fun r _ => r = bI (rcF fl wa sk a1)) K13 x1 x2 x3 → K13 x1 x2 x3) : v_X2_reachesFloors_0 n os fl wa fo sb lp fm pn tr fs sk ct nt il kn sp py bo (fun r _ => r = bI (rcF fl wa sk a1)) K13 a1 := by
  unfold v_X2_reachesFloors_0
  have key := up_ind (fun k => K13 a1 (rch wa sk a1 k) (nI k)) 5 (R13 _ _ _ ?_) (fun k hk ih => R13 _ _ _ ?_)
  · exact ⟨h0, key⟩
  · refine ⟨fun _ => ⟨fun h => ?_, fun h => ?_⟩, fun h => absurd (nI_le (a := 5) (b := 5) (Nat.le_refl _) (by omega)) h⟩
    · show (1 : Int32) = _
      rw [rcF, decide_eq_true h]; rfl
    · show (0 : Int32) = _
      rw [rcF, decide_eq_false h]; rfl
  · refine ⟨fun h => absurd h (nI_ge (b := 5) hk (by omega)), fun _ => ?_⟩
    have ec : (nI k).toNatClampNeg = k := nI_clamp (by omega)
    have hv : vp_in (nI k) 5 := vp_in_nI hk (by omega)
    simp only [bI_0, Bool.not_eq_false, v_X2_reachesFloors_56, nI_1, ec]
    refine ⟨fun h => ?_, fun h => ⟨fun h2 => ?_, fun h2 => ⟨h0, fun h3 => ?_, fun h3 => ⟨hv, ?_⟩⟩⟩⟩
    · simpa [rch, rcC, h] using ih
    · simpa [rch, rcC, h2] using ih
    · simpa [rch, rcC, h3] using ih
    · simpa [rch, rcC, h, h2, h3] using ih
theorem h_X2_keepIfCheaper (n : Nat) (os : Int32) (fl : Int32) (wa : Int32) (fo : Int32) (sb : Int32) (fm : Int32) (pn : Int32) (tr : Nat → Int32) (fs : Nat → Int32) (sk : Nat → Int32) (nt : Nat → Int32) (il : Int32) (kn : Nat → Int32) (sp : Nat → Int32) (py : Nat → Int32) (bo : Nat → Int32) (lp : Int32) (ct : Nat → Int32) (a1 : Int32) (hn : n ≤ 6) : v_X2_keepIfCheaper_0 n os fl wa fo sb fm pn tr fs sk nt il kn sp py bo (fun u => u = ((if kcC fo lp a1 = true then a1 else lp), (if kcC fo lp a1 = true then va_cpy tr ct 0 0 6 else ct)))  a1 lp ct := by
  unfold v_X2_keepIfCheaper_0
  refine ⟨fun h => ?_, fun h => ⟨fun h2 => ?_, fun h2 => ?_⟩⟩
  · simp [kcC, h, v_X2_keepIfCheaper_15]
  · simp [kcC, h, h2]
  · simp [kcC, h2, v_X2_keepIfCheaper_15]
theorem h_X2_keepIfNearer (n : Nat) (os : Int32) (fl : Int32) (wa : Int32) (fo : Int32) (sb : Int32) (lp : Int32) (tr : Nat → Int32) (fs : Nat → Int32) (sk : Nat → Int32) (ct : Nat → Int32) (il : Int32) (kn : Nat → Int32) (sp : Nat → Int32) (py : Nat → Int32) (bo : Nat → Int32) (fm : Int32) (pn : Int32) (nt : Nat → Int32) (a1 : Int32) (a2 : Int32) (hn : n ≤ 6) : v_X2_keepIfNearer_0 n os fl wa fo sb lp tr fs sk ct il kn sp py bo (fun u => u = ((if knC fo fm pn a1 a2 = true then a1 else fm), (if knC fo fm pn a1 a2 = true then a2 else pn), (if knC fo fm pn a1 a2 = true then va_cpy tr nt 0 0 6 else nt)))  a1 a2 fm pn nt := by
  unfold v_X2_keepIfNearer_0
  refine ⟨fun h => ?_, fun h => ⟨fun h2 => ?_, fun h2 => ⟨fun h3 => ⟨fun h4 => ?_, fun h4 => ?_⟩, fun h3 => ?_⟩⟩⟩
  · simp [knC, h, v_X2_keepIfNearer_31]
  · simp [knC, h2, v_X2_keepIfNearer_31]
  · simp [knC, h, h2, h4]
  · simp [knC, h3, h4, v_X2_keepIfNearer_31]
  · simp [knC, h, h2, h3]
theorem h_X2_weigh (n : Nat) (os : Int32) (fl : Int32) (wa : Int32) (tr : Nat → Int32) (fs : Nat → Int32) (sk : Nat → Int32) (il : Int32) (kn : Nat → Int32) (sp : Nat → Int32) (py : Nat → Int32) (bo : Nat → Int32) (fo : Int32) (sb : Int32) (lp : Int32) (fm : Int32) (pn : Int32) (ct : Nat → Int32) (nt : Nat → Int32) (hn : n ≤ 6) (K6 : Int32 → Int32 → Int32 → Int32 → Int32 → Int32 → Int32 → Int32 → (Nat → Int32) → (Nat → Int32) → Prop) (R6 : ∀ x1 x2 x3 fo_ sb_ lp_ fm_ pn_ ct_ nt_, v_X2_weigh_6 n os fl wa tr fs sk il kn sp py bo (fun u => u = wgA n py bo tr (fo, sb, lp, fm, pn, ct, nt)) K6 x1 x2 x3 fo_ sb_ lp_ fm_ pn_ ct_ nt_ → K6 x1 x2 x3 fo_ sb_ lp_ fm_ pn_ ct_ nt_) : v_X2_weigh_0 n os fl wa tr fs sk il kn sp py bo (fun u => u = wgA n py bo tr (fo, sb, lp, fm, pn, ct, nt)) K6  fo sb lp fm pn ct nt := by
  unfold v_X2_weigh_0
  have key := up_ind (fun k => K6 (paS py tr k) (mvS bo tr k) (nI k) fo (sbS tr sb k) lp fm pn ct nt) n (R6 _ _ _ _ _ _ _ _ _ _ ?_) (fun k hk ih => R6 _ _ _ _ _ _ _ _ _ _ ?_)
  · exact key
  · exact ⟨fun _ => rfl, fun h => absurd (nI_le (Nat.le_refl _) (by omega)) h⟩
  · refine ⟨fun h => absurd h (nI_ge hk (by omega)), fun _ => ⟨vp_in_nI (by omega) (by omega), ?_⟩⟩
    have ec : (nI k).toNatClampNeg = k := nI_clamp (by omega)
    have hv : vp_in (nI k) 6 := vp_in_nI (by omega) (by omega)
    simp only [v_X2_weigh_53, v_X2_weigh_73, nI_1, ec, atP_nI hk (by omega : n < 2 ^ 31)]
    refine ⟨fun h => ⟨hv, fun h2 => ?_, fun h2 => ?_⟩, fun h => ⟨hv, fun h2 => ?_, fun h2 => ?_⟩⟩
    · simpa only [paS, mvS, sI, sbS, if_pos h, if_pos h2, Int32.add_zero] using ih
    · simpa only [paS, mvS, sI, sbS, if_pos h, if_neg h2, Int32.add_zero] using ih
    · simpa only [paS, mvS, sI, sbS, if_neg h, if_pos h2, Int32.add_zero] using ih
    · simpa only [paS, mvS, sI, sbS, if_neg h, if_neg h2, Int32.add_zero] using ih
theorem h_X2_weighIfWhole (n : Nat) (os : Int32) (fl : Int32) (wa : Int32) (tr : Nat → Int32) (fs : Nat → Int32) (il : Int32) (kn : Nat → Int32) (sp : Nat → Int32) (py : Nat → Int32) (bo : Nat → Int32) (fo : Int32) (sb : Int32) (lp : Int32) (fm : Int32) (pn : Int32) (sk : Nat → Int32) (ct : Nat → Int32) (nt : Nat → Int32) (hn : n ≤ 6) (K6 : Int32 → Int32 → Int32 → Int32 → Int32 → Int32 → (Nat → Int32) → (Nat → Int32) → (Nat → Int32) → Prop) (R6 : ∀ x1 fo_ sb_ lp_ fm_ pn_ sk_ ct_ nt_, v_X2_weighIfWhole_6 n os fl wa tr fs il kn sp py bo (fun u => u = wwB n kn py bo fl wa sk tr (fo, sb, lp, fm, pn, ct, nt)) K6 x1 fo_ sb_ lp_ fm_ pn_ sk_ ct_ nt_ → K6 x1 fo_ sb_ lp_ fm_ pn_ sk_ ct_ nt_) : v_X2_weighIfWhole_0 n os fl wa tr fs il kn sp py bo (fun u => u = wwB n kn py bo fl wa sk tr (fo, sb, lp, fm, pn, ct, nt)) K6  fo sb lp fm pn sk ct nt := by
  unfold v_X2_weighIfWhole_0
  have key := up_ind (fun k => alR fl wa (shK kn tr sk n) k = true → K6 (nI k) fo sb lp fm pn (shK kn tr sk n) ct nt) 5 (fun ha => R6 _ _ _ _ _ _ _ _ _ ?_) (fun k hk ih => fun ha => R6 _ _ _ _ _ _ _ _ _ ?_)
  · exact key rfl
  · refine ⟨fun _ => fun u hu => ?_, fun h => absurd (nI_le (a := 5) (b := 5) (Nat.le_refl _) (by omega)) h⟩
    subst hu
    simp only [wwB, wwA, ha, if_true]
  · refine ⟨fun h => absurd h (nI_ge (b := 5) hk (by omega)), fun _ => ?_⟩
    simp only [bI_0, Bool.not_eq_false, v_X2_weighIfWhole_31, nI_1]
    refine ⟨fun h => ?_, fun h => ⟨vp_in_nI hk (by omega), fun h2 => ?_, fun h2 => ?_⟩⟩
    · exact ih (by simp [alR, ha, h])
    · have hf : alR fl wa (shK kn tr sk n) 5 = false := alR_step (k := k) (by simp [alR, h, h2]) 5 (by omega)
      simp only [wwB, wwA, hf, Bool.false_eq_true, if_false]
    · exact ih (by simp [alR, ha, h2])
theorem h_X2_placeIn (d k : Nat) (n : Nat) (fl : Int32) (wa : Int32) (il : Int32) (kn : Nat → Int32) (sp : Nat → Int32) (py : Nat → Int32) (bo : Nat → Int32) (os : Int32) (fo : Int32) (sb : Int32) (lp : Int32) (fm : Int32) (pn : Int32) (tr : Nat → Int32) (fs : Nat → Int32) (sk : Nat → Int32) (ct : Nat → Int32) (nt : Nat → Int32) (a1 : Int32) (a2 : Int32) (hn : n ≤ 6) (hkd : k + d = n) (h0 : k < n) (h1 : vp_in a1 5) (h2 : a2 = nI k) : v_X2_placeIn_0 d k n fl wa il kn sp py bo (fun u => u = piF n il kn sp py bo fl wa d k a1 (os, fo, sb, lp, fm, pn, tr, fs, sk, ct, nt))  a1 a2 os fo sb lp fm pn tr fs sk ct nt := by
  unfold v_X2_placeIn_0
  subst h2
  have ec : (nI k).toNatClampNeg = k := nI_clamp (by omega)
  simp only [bI_0, Bool.not_eq_false, ec]
  refine ⟨h1, fun h => ?_, fun h => ⟨fun h3 => ?_, fun h3 => ⟨vp_in_nI (by omega) (by omega), h1, h1, h0, nI_1 k, fun u hu => ⟨h1, h1, ?_⟩⟩⟩⟩
  · have e : (decide (pFs (os, fo, sb, lp, fm, pn, tr, fs, sk, ct, nt) a1.toNatClampNeg = 0) || !canT n il sp (nI k) a1) = true := by simp [pFs, h]
    rw [piF, pinG, if_pos e]
  · have e : (decide (pFs (os, fo, sb, lp, fm, pn, tr, fs, sk, ct, nt) a1.toNatClampNeg = 0) || !canT n il sp (nI k) a1) = true := by simp [h3]
    rw [piF, pinG, if_pos e]
  · have e : ¬ (decide (pFs (os, fo, sb, lp, fm, pn, tr, fs, sk, ct, nt) a1.toNatClampNeg = 0) || !canT n il sp (nI k) a1) = true := by simp [pFs, h, h3]
    rw [piF, pinG, if_neg e, hu]
    rfl
theorem h_X2_placeFrom (d k : Nat) (n : Nat) (fl : Int32) (wa : Int32) (il : Int32) (kn : Nat → Int32) (sp : Nat → Int32) (py : Nat → Int32) (bo : Nat → Int32) (os : Int32) (fo : Int32) (sb : Int32) (lp : Int32) (fm : Int32) (pn : Int32) (tr : Nat → Int32) (fs : Nat → Int32) (sk : Nat → Int32) (ct : Nat → Int32) (nt : Nat → Int32) (a1 : Int32) (hn : n ≤ 6) (hkd : k + d = n) (h0 : a1 = nI k) (K35 : Int32 → Int32 → Int32 → Int32 → Int32 → Int32 → Int32 → Int32 → (Nat → Int32) → (Nat → Int32) → (Nat → Int32) → (Nat → Int32) → (Nat → Int32) → Prop) (R35 : ∀ x1 x2 os_ fo_ sb_ lp_ fm_ pn_ tr_ fs_ sk_ ct_ nt_, v_X2_placeFrom_35 d k n fl wa il kn sp py bo (fun u => u = pf n il kn sp py bo fl wa d k (os, fo, sb, lp, fm, pn, tr, fs, sk, ct, nt)) K35 x1 x2 os_ fo_ sb_ lp_ fm_ pn_ tr_ fs_ sk_ ct_ nt_ → K35 x1 x2 os_ fo_ sb_ lp_ fm_ pn_ tr_ fs_ sk_ ct_ nt_) : v_X2_placeFrom_0 d k n fl wa il kn sp py bo (fun u => u = pf n il kn sp py bo fl wa d k (os, fo, sb, lp, fm, pn, tr, fs, sk, ct, nt)) K35 a1 os fo sb lp fm pn tr fs sk ct nt := by
  unfold v_X2_placeFrom_0
  subst h0
  have ec : (nI k).toNatClampNeg = k := nI_clamp (by omega)
  simp only [bI_0, Bool.not_eq_false]
  refine ⟨fun h => ⟨fun h2 => fun u hu => ?_, fun h2 => ?_⟩, fun h => ?_⟩
  · have hk : ¬ k < n := fun hk => by rw [inB_nI hk (by omega)] at h2; exact absurd h2 (by decide)
    have hd : d = 0 := by omega
    subst hd
    rw [pf, if_pos (show (os, fo, sb, lp, fm, pn, tr, fs, sk, ct, nt).1 ≤ nI n - nI k from h), hu]
    rfl
  · obtain ⟨j, hj, hje⟩ := (inB_iff (by omega)).mp h2
    have hkj : k = j := (nI_eq (by omega) (by omega)).mp hje
    have hk : k < n := by omega
    obtain ⟨d', rfl⟩ : ∃ d', d = d' + 1 := ⟨d - 1, by omega⟩
    obtain ⟨X, hX0, hXs, ep⟩ : ∃ X : Nat → PS, X 0 = (os, fo, sb, lp, fm, pn, tr, fs, sk, ct, nt) ∧ (∀ t, X (t + 1) = piF n il kn sp py bo fl wa (d' + 1) k (nI t) (X t)) ∧ pf n il kn sp py bo fl wa (d' + 1) k (os, fo, sb, lp, fm, pn, tr, fs, sk, ct, nt) = pf n il kn sp py bo fl wa d' (k + 1) (setT k (X 5)) := ⟨fun t => l5 (fun t => pinG (pf n il kn sp py bo fl wa d' (k + 1)) (canT n il sp (nI k) (nI t)) k (nI t)) t (os, fo, sb, lp, fm, pn, tr, fs, sk, ct, nt), rfl, fun t => rfl, by rw [pf]; exact if_pos h⟩
    have key := up_ind (fun t => K35 (nI k) (nI t) (X t).1 (X t).2.1 (X t).2.2.1 (X t).2.2.2.1 (X t).2.2.2.2.1 (X t).2.2.2.2.2.1 (X t).2.2.2.2.2.2.1 (X t).2.2.2.2.2.2.2.1 (X t).2.2.2.2.2.2.2.2.1 (X t).2.2.2.2.2.2.2.2.2.1 (X t).2.2.2.2.2.2.2.2.2.2) 5 (R35 _ _ _ _ _ _ _ _ _ _ _ _ _ ?_) (fun t ht ih => R35 _ _ _ _ _ _ _ _ _ _ _ _ _ ?_)
    · rw [hX0] at key
      exact key
    · refine ⟨fun _ => ⟨vp_in_nI (by omega) (by omega), hk, nI_1 k, fun u hu => ?_⟩, fun h => absurd (nI_le (a := 5) (b := 5) (Nat.le_refl _) (by omega)) h⟩
      rw [ec] at hu
      have e1 : u = pf n il kn sp py bo fl wa d' (k + 1) (setT k (X 5)) := hu
      rw [← ep] at e1
      exact e1
    · refine ⟨fun h => absurd h (nI_ge (b := 5) ht (by omega)), fun _ => ⟨hk, vp_in_nI ht (by omega), rfl, fun u hu => ?_⟩⟩
      have e : u = X (t + 1) := by rw [hXs t]; exact hu
      rw [e, nI_1]
      exact ih
  · cases d with
    | zero => rw [pf]; exact (if_neg h).symm
    | succ d => rw [pf]; exact (if_neg h).symm
