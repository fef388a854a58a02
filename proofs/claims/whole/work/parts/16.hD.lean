theorem h_X0_setSpoken (n : Nat) (ti : Nat → Int32) (on : Nat → Int32) (he : Nat → Int32) (il : Int32) (kn : Nat → Int32) (sp : Nat → Int32) (py : Nat → Int32) (bo : Nat → Int32) (so : Nat → Int32) (sd : Nat → Int32) (a1 : Int32) (a2 : Int32) (a3 : Int32) (hn : n ≤ 6) : v_X0_setSpoken_0 n ti on he il kn sp py bo (fun u => u = ((if inB a1 16 = true then upd so a1.toNatClampNeg a2 else so), (if inB a1 16 = true then upd sd a1.toNatClampNeg a3 else sd)))  a1 a2 a3 so sd := by
  unfold v_X0_setSpoken_0
  simp only [bI_0, Bool.not_eq_false]
  refine ⟨fun h => ?_, fun h => ?_⟩
  · simp [h]
  · have hv : vp_in a1 16 := inB_in (n := 16) h (Nat.le_refl _) (by omega)
    refine ⟨hv, hv, ?_⟩
    simp [h]
theorem h_X0_setSilent (n : Nat) (ti : Nat → Int32) (on : Nat → Int32) (he : Nat → Int32) (il : Int32) (kn : Nat → Int32) (sp : Nat → Int32) (py : Nat → Int32) (bo : Nat → Int32) (so : Nat → Int32) (sd : Nat → Int32) (a1 : Int32) (hn : n ≤ 6) : v_X0_setSilent_0 n ti on he il kn sp py bo (fun u => u = ((if inB a1 16 = true then upd so a1.toNatClampNeg (-1) else so), (if inB a1 16 = true then upd sd a1.toNatClampNeg 0 else sd)))  a1 so sd := by
  unfold v_X0_setSilent_0
  rfl
theorem h_X0_isSilent (n : Nat) (so : Nat → Int32) (sd : Nat → Int32) (ti : Nat → Int32) (on : Nat → Int32) (he : Nat → Int32) (il : Int32) (kn : Nat → Int32) (sp : Nat → Int32) (py : Nat → Int32) (bo : Nat → Int32) (a1 : Int32) (hn : n ≤ 6) : v_X0_isSilent_0 n so sd ti on he il kn sp py bo (fun r _ => r = bI (silF so a1))  a1 := by
  unfold v_X0_isSilent_0
  simp only [bI_0, Bool.not_eq_false, v_X0_isSilent_17]
  refine ⟨fun h => ?_, fun h => ⟨inB_in (n := 16) h (Nat.le_refl _) (by omega), fun h2 => ?_, fun h2 => ?_⟩⟩
  · simp [silF, h, bI]
  · simp [silF, h2, bI]
  · simp [silF, h, h2, bI]
theorem h_X0_spokenHalves (n : Nat) (so : Nat → Int32) (sd : Nat → Int32) (ti : Nat → Int32) (on : Nat → Int32) (he : Nat → Int32) (il : Int32) (kn : Nat → Int32) (sp : Nat → Int32) (py : Nat → Int32) (bo : Nat → Int32) (hn : n ≤ 6) (K4 : Int32 → Int32 → Prop) (R4 : ∀ x1 x2, v_X0_spokenHalves_4 n so sd ti on he il kn sp py bo (fun r _ => r = sI (fun k => bI (!decide (so k = -1))) 16) K4 x1 x2 → K4 x1 x2) : v_X0_spokenHalves_0 n so sd ti on he il kn sp py bo (fun r _ => r = sI (fun k => bI (!decide (so k = -1))) 16) K4 := by
  unfold v_X0_spokenHalves_0
  have key := up_ind (fun k => K4 (sI (fun k => bI (!decide (so k = -1))) k) (nI k)) 16 (R4 _ _ ?_) (fun k hk ih => R4 _ _ ?_)
  · exact key
  · exact ⟨fun _ => rfl, fun h => absurd (nI_le (a := 16) (b := 16) (Nat.le_refl _) (by omega)) h⟩
  · refine ⟨fun h => absurd h (nI_ge (b := 16) hk (by omega)), fun _ => ?_⟩
    have e : silF so (nI k) = decide (so k = -1) := by
      have h1 : inB (nI k) 16 = true := inB_nI (n := 16) hk (by omega)
      rw [silF, h1, nI_clamp (by omega)]; rfl
    simp only [bI_0, Bool.not_eq_false, v_X0_spokenHalves_21, nI_1, e]
    refine ⟨fun h => ?_, fun h => ?_⟩
    · simpa [sI, h, bI] using ih
    · simpa [sI, h, bI] using ih
theorem h_X0_isFresher (n : Nat) (so : Nat → Int32) (sd : Nat → Int32) (ti : Nat → Int32) (on : Nat → Int32) (he : Nat → Int32) (il : Int32) (kn : Nat → Int32) (sp : Nat → Int32) (py : Nat → Int32) (bo : Nat → Int32) (a1 : Int32) (a2 : Int32) (hn : n ≤ 6) (h0 : vp_in a1 6) : v_X0_isFresher_0 n so sd ti on he il kn sp py bo (fun r _ => r = bI (frF n ti a1 a2))  a1 a2 := by
  unfold v_X0_isFresher_0
  simp only [bI_0, Bool.not_eq_false, v_X0_isFresher_26]
  refine ⟨fun h => ?_, fun h => ⟨h0, inB_in h hn (by omega), fun h2 => ?_, fun h2 => ?_⟩⟩
  · simp [frF, h, bI]
  · simp [frF, h, h2, bI]
  · simp [frF, h2, bI]
theorem h_X0_chooseOn (n : Nat) (so : Nat → Int32) (sd : Nat → Int32) (ti : Nat → Int32) (he : Nat → Int32) (il : Int32) (kn : Nat → Int32) (sp : Nat → Int32) (py : Nat → Int32) (bo : Nat → Int32) (on : Nat → Int32) (hn : n ≤ 6) (K10 : Int32 → (Nat → Int32) → Prop) (R10 : ∀ x1 on_, v_X0_chooseOn_10 n so sd ti he il kn sp py bo (fun u => u = chO n bo ti on n) K10 x1 on_ → K10 x1 on_) : v_X0_chooseOn_0 n so sd ti he il kn sp py bo (fun u => u = chO n bo ti on n) K10  on := by
  unfold v_X0_chooseOn_0
  have key := up_ind (fun k => K10 (nI k) (chO n bo ti on k)) n (R10 _ _ ?_) (fun k hk ih => R10 _ _ ?_)
  · exact ⟨by omega, key⟩
  · exact ⟨fun _ => rfl, fun h => absurd (nI_le (Nat.le_refl _) (by omega)) h⟩
  · refine ⟨fun h => absurd h (nI_ge hk (by omega)), fun _ => ?_⟩
    simp only [bI_0, Bool.not_eq_false, v_X0_chooseOn_58, nI_1, atP_nI hk (by omega : n < 2 ^ 31)]
    refine ⟨fun h => ?_, fun h => ?_⟩
    · simpa [chO, h] using ih
    · have hv : vp_in (bo k) 5 := inB_in (n := 5) h (Nat.le_refl _) (by omega)
      refine ⟨hv, vp_in_nI (by omega) (by omega), fun h2 => ?_, fun h2 => ⟨hv, ?_⟩⟩
      · simpa [chO, h2] using ih
      · simpa [chO, h, h2] using ih
theorem h_X0_wayFrom (n : Nat) (so : Nat → Int32) (sd : Nat → Int32) (ti : Nat → Int32) (on : Nat → Int32) (he : Nat → Int32) (il : Int32) (kn : Nat → Int32) (sp : Nat → Int32) (py : Nat → Int32) (bo : Nat → Int32) (a1 : Int32) (a2 : Int32) (hn : n ≤ 6) (h0 : vp_in a2 5) (K49 : Int32 → Int32 → Int32 → Int32 → Prop) (R49 : ∀ x1 x2 x3 x4, v_X0_wayFrom_49 n so sd ti on he il kn sp py bo (fun r _ => r = wyF n kn on a1 a2) K49 x1 x2 x3 x4 → K49 x1 x2 x3 x4) : v_X0_wayFrom_0 n so sd ti on he il kn sp py bo (fun r _ => r = wyF n kn on a1 a2) K49 a1 a2 := by
  unfold v_X0_wayFrom_0
  simp only [bI_0, Bool.not_eq_false]
  refine ⟨fun h => ?_, fun h => ⟨fun h2 => ?_, fun h2 => ⟨h0, fun h3 => ?_, fun h3 => ⟨h0, fun h4 => ?_, fun h4 => ?_⟩⟩⟩⟩
  · simp [wyF, h]
  · simp [wyF, h2]
  · simp [wyF, h3]
  · have e : wyF n kn on a1 a2 = wyL (wyC n kn on a1 a2 (atP n kn 0 (on a2.toNatClampNeg))) 5 0 := by simp [wyF, h, h2, h3, h4]
    rw [e] at R49
    generalize atP n kn 0 (on a2.toNatClampNeg) = kt at R49 ⊢
    have key := up_ind (fun k => wyL (wyC n kn on a1 a2 kt) 5 0 = wyL (wyC n kn on a1 a2 kt) (5 - k) k → K49 a1 a2 kt (nI k)) 5 (fun hq => R49 _ _ _ _ ?_) (fun k hk ih => fun hq => R49 _ _ _ _ ?_)
    · exact key rfl
    · exact ⟨fun _ => hq.symm, fun h => absurd (nI_le (a := 5) (b := 5) (Nat.le_refl _) (by omega)) h⟩
    · refine ⟨fun h => absurd h (nI_ge (b := 5) hk (by omega)), fun _ => ?_⟩
      have ec : (nI k).toNatClampNeg = k := nI_clamp (by omega)
      have e5 : 5 - k = (5 - (k + 1)) + 1 := by omega
      have no : wyC n kn on a1 a2 kt k = false → K49 a1 a2 kt (nI (k + 1)) := fun hf => ih (by rw [hq, e5]; simp [wyL, hf])
      have ye : wyC n kn on a1 a2 kt k = true → nI k = wyL (wyC n kn on a1 a2 kt) 5 0 := fun hf => by rw [hq, e5]; simp [wyL, hf]
      simp only [bI_0, Bool.not_eq_false, v_X0_wayFrom_100, nI_1, ec]
      refine ⟨fun g => no ?_, fun g => ⟨fun g2 => no ?_, fun g2 => ⟨fun g3 => no ?_, fun g3 => ⟨vp_in_nI hk (by omega), fun g4 => no ?_, fun g4 => ye ?_⟩⟩⟩⟩
      · simp [wyC, g]
      · simp [wyC, g2]
      · simp [wyC, g3]
      · simp [wyC, g4]
      · simp [wyC, g, g2, g3, g4]
  · simp [wyF, h, h2, h3, h4]
theorem h_X0_isTurning (n : Nat) (so : Nat → Int32) (sd : Nat → Int32) (ti : Nat → Int32) (on : Nat → Int32) (he : Nat → Int32) (il : Int32) (kn : Nat → Int32) (sp : Nat → Int32) (py : Nat → Int32) (bo : Nat → Int32) (a1 : Int32) (hn : n ≤ 6) : v_X0_isTurning_0 n so sd ti on he il kn sp py bo (fun r _ => r = bI (tuF n bo on he a1))  a1 := by
  unfold v_X0_isTurning_0
  simp only [bI_0, Bool.not_eq_false]
  refine ⟨fun h => ?_, fun h => ?_⟩
  · simp [tuF, h, bI]
  · have hv : vp_in (atP n bo 5 a1) 5 := inB_in (n := 5) h (Nat.le_refl _) (by omega)
    refine ⟨hv, fun h2 => ⟨hv, fun h3 => ?_, fun h3 => ?_⟩, fun h2 => ?_⟩
    · simp [tuF, h3, bI]
    · simp [tuF, h, h2, h3, bI]
    · simp [tuF, h2, bI]
theorem h_X0_tire (n : Nat) (so : Nat → Int32) (sd : Nat → Int32) (on : Nat → Int32) (he : Nat → Int32) (il : Int32) (kn : Nat → Int32) (sp : Nat → Int32) (py : Nat → Int32) (bo : Nat → Int32) (ti : Nat → Int32) (a1 : Int32) (hn : n ≤ 6) (K2 : Int32 → Int32 → (Nat → Int32) → Prop) (R2 : ∀ x1 x2 ti_, v_X0_tire_2 n so sd on he il kn sp py bo (fun u => u = tiF n bo on he a1 ti n) K2 x1 x2 ti_ → K2 x1 x2 ti_) : v_X0_tire_0 n so sd on he il kn sp py bo (fun u => u = tiF n bo on he a1 ti n) K2 a1 ti := by
  unfold v_X0_tire_0
  have key := up_ind (fun k => K2 a1 (nI k) (tiF n bo on he a1 ti k)) n (R2 _ _ _ ?_) (fun k hk ih => R2 _ _ _ ?_)
  · exact key
  · exact ⟨fun _ => rfl, fun h => absurd (nI_le (Nat.le_refl _) (by omega)) h⟩
  · refine ⟨fun h => absurd h (nI_ge hk (by omega)), fun _ => ?_⟩
    have ec : (nI k).toNatClampNeg = k := nI_clamp (by omega)
    have hv : vp_in (nI k) 6 := vp_in_nI (by omega) (by omega)
    simp only [bI_0, Bool.not_eq_false, v_X0_tire_52, nI_1, ec]
    refine ⟨fun h => ⟨hv, hv, ?_⟩, fun h => ⟨hv, hv, ?_⟩⟩
    · simpa only [tiF, h, if_neg, Bool.false_eq_true, if_false] using ih
    · simpa only [tiF, h, if_pos, if_true] using ih
theorem h_X0_lateIn (n : Nat) (so : Nat → Int32) (sd : Nat → Int32) (ti : Nat → Int32) (on : Nat → Int32) (he : Nat → Int32) (il : Int32) (kn : Nat → Int32) (sp : Nat → Int32) (py : Nat → Int32) (bo : Nat → Int32) (a1 : Int32) (a2 : Int32) (hn : n ≤ 6) : v_X0_lateIn_0 n so sd ti on he il kn sp py bo (fun r _ => r = laF sd he a1 a2)  a1 a2 := by
  unfold v_X0_lateIn_0
  simp only [bI_0, Bool.not_eq_false, v_X0_lateIn_41]
  refine ⟨fun h => ?_, fun h => ⟨fun h2 => ?_, fun h2 => ?_⟩⟩
  · simp [laF, h]
  · simp [laF, h2]
  · have hv : vp_in a2 5 := inB_in (n := 5) h2 (Nat.le_refl _) (by omega)
    refine ⟨hv, fun h3 => ?_, fun h3 => ⟨inB_in (n := 16) h (Nat.le_refl _) (by omega), fun h4 => ⟨hv, fun h5 => ?_, fun h5 => ?_⟩, fun h4 => ⟨hv, fun h5 => ?_, fun h5 => ?_⟩⟩⟩
    · simp [laF, h3]
    · simp only [laF, h, h2, Bool.and_self, if_true, if_neg h3, if_pos h5, if_pos h4]
    · simp only [laF, h, h2, Bool.and_self, if_true, if_neg h3, if_neg h5, if_pos h4]
    · simp only [laF, h, h2, Bool.and_self, if_true, if_neg h3, if_pos h5, if_neg h4]
    · simp only [laF, h, h2, Bool.and_self, if_true, if_neg h3, if_neg h5, if_neg h4]
theorem h_X0_tiredAbove (n : Nat) (so : Nat → Int32) (sd : Nat → Int32) (ti : Nat → Int32) (on : Nat → Int32) (he : Nat → Int32) (il : Int32) (kn : Nat → Int32) (sp : Nat → Int32) (py : Nat → Int32) (bo : Nat → Int32) (a1 : Int32) (hn : n ≤ 6) (K4 : Int32 → Int32 → Int32 → Prop) (R4 : ∀ x1 x2 x3, v_X0_tiredAbove_4 n so sd ti on he il kn sp py bo (fun r _ => r = taF ti a1 n) K4 x1 x2 x3 → K4 x1 x2 x3) : v_X0_tiredAbove_0 n so sd ti on he il kn sp py bo (fun r _ => r = taF ti a1 n) K4 a1 := by
  unfold v_X0_tiredAbove_0
  have key := up_ind (fun k => K4 a1 (taF ti a1 k) (nI k)) n (R4 _ _ _ ?_) (fun k hk ih => R4 _ _ _ ?_)
  · exact key
  · exact ⟨fun _ => rfl, fun h => absurd (nI_le (Nat.le_refl _) (by omega)) h⟩
  · refine ⟨fun h => absurd h (nI_ge hk (by omega)), fun _ => ⟨vp_in_nI (by omega) (by omega), ?_⟩⟩
    have ec : (nI k).toNatClampNeg = k := nI_clamp (by omega)
    simp only [v_X0_tiredAbove_31, nI_1, ec]
    refine ⟨fun h => ?_, fun h => ?_⟩
    · simpa only [taF, if_pos h] using ih
    · simpa only [taF, if_neg h] using ih
theorem h_X0_playHalf (n : Nat) (so : Nat → Int32) (sd : Nat → Int32) (il : Int32) (kn : Nat → Int32) (sp : Nat → Int32) (py : Nat → Int32) (bo : Nat → Int32) (ti : Nat → Int32) (on : Nat → Int32) (he : Nat → Int32) (a1 : Int32) (hn : n ≤ 6) (K14 : Int32 → Int32 → (Nat → Int32) → (Nat → Int32) → (Nat → Int32) → Prop) (R14 : ∀ x1 x2 ti_ on_ he_, v_X0_playHalf_14 n so sd il kn sp py bo (fun u => u = (plH n kn bo so sd a1 (ti, on, he))) K14 x1 x2 ti_ on_ he_ → K14 x1 x2 ti_ on_ he_) : v_X0_playHalf_0 n so sd il kn sp py bo (fun u => u = (plH n kn bo so sd a1 (ti, on, he))) K14 a1 ti on he := by
  unfold v_X0_playHalf_0
  simp only [bI_0, Bool.not_eq_false]
  refine ⟨fun h => ?_, fun h => ?_⟩
  · simp [plH, h]
  · have hv : vp_in a1 16 := inB_in (n := 16) h (Nat.le_refl _) (by omega)
    have key := up_ind (fun k => K14 a1 (nI k) ti (chO n bo ti on n) (heF n kn (chO n bo ti on n) (so a1.toNatClampNeg) he k)) 5 (R14 _ _ _ _ _ ?_) (fun k hk ih => R14 _ _ _ _ _ ?_)
    · exact key
    · refine ⟨fun _ => ⟨hv, ?_⟩, fun h => absurd (nI_le (a := 5) (b := 5) (Nat.le_refl _) (by omega)) h⟩
      simp only [plH, h, if_true, plG]
    · refine ⟨fun h => absurd h (nI_ge (b := 5) hk (by omega)), fun _ => ⟨hv, vp_in_nI hk (by omega), vp_in_nI hk (by omega), ?_⟩⟩
      have ec : (nI k).toNatClampNeg = k := nI_clamp (by omega)
      simpa only [heF, nI_1, ec] using ih
theorem h_X0_playThrough (n : Nat) (so : Nat → Int32) (sd : Nat → Int32) (il : Int32) (kn : Nat → Int32) (sp : Nat → Int32) (py : Nat → Int32) (bo : Nat → Int32) (ti : Nat → Int32) (on : Nat → Int32) (he : Nat → Int32) (a1 : Int32) (hn : n ≤ 6) (h0 : inB a1 16 = true) (K10 : Int32 → Int32 → (Nat → Int32) → (Nat → Int32) → (Nat → Int32) → Prop) (R10 : ∀ x1 x2 ti_ on_ he_, v_X0_playThrough_10 n so sd il kn sp py bo (fun u => u = (plT n kn bo so sd (ti, on, he) (a1.toNatClampNeg + 1))) K10 x1 x2 ti_ on_ he_ → K10 x1 x2 ti_ on_ he_) : v_X0_playThrough_0 n so sd il kn sp py bo (fun u => u = (plT n kn bo so sd (ti, on, he) (a1.toNatClampNeg + 1))) K10 a1 ti on he := by
  unfold v_X0_playThrough_0
  obtain ⟨h, hh, rfl⟩ := (inB_iff (n := 16) (by omega)).mp h0
  have ec : (nI h).toNatClampNeg = h := nI_clamp (by omega)
  rw [ec] at R10
  have key := up_ind (fun k => K10 (nI h) (nI k) (plT n kn bo so sd (ti, on, he) k).1 (plT n kn bo so sd (ti, on, he) k).2.1 (plT n kn bo so sd (ti, on, he) k).2.2) (h + 1) (R10 _ _ _ _ _ ?_) (fun k hk ih => R10 _ _ _ _ _ ?_)
  · exact ⟨by omega, key⟩
  · refine ⟨fun _ => rfl, fun _ => ⟨fun _ => rfl, fun hq => absurd (nI_lt (Nat.lt_succ_self h) (by omega)) hq⟩⟩
  · refine ⟨fun hq => absurd hq (nI_ge (b := 16) (by omega) (by omega)), fun _ => ⟨fun hq => absurd hq (nI_nlt (by omega) (by omega)), fun _ => fun u hu => ?_⟩⟩
    subst hu
    simpa only [plT, nI_1] using ih
theorem h_X0_lateOverall (n : Nat) (so : Nat → Int32) (sd : Nat → Int32) (il : Int32) (kn : Nat → Int32) (sp : Nat → Int32) (py : Nat → Int32) (bo : Nat → Int32) (ti : Nat → Int32) (on : Nat → Int32) (he : Nat → Int32) (a1 : Int32) (hn : n ≤ 6) (h0 : inB a1 5 = true) (K12 : Int32 → Int32 → Int32 → (Nat → Int32) → (Nat → Int32) → (Nat → Int32) → Prop) (R12 : ∀ x1 x2 x3 ti_ on_ he_, v_X0_lateOverall_12 n so sd il kn sp py bo (fun r u => r = (laO n kn bo so sd (ti, on, he) a1 16) ∧ u = (plT n kn bo so sd (ti, on, he) 16)) K12 x1 x2 x3 ti_ on_ he_ → K12 x1 x2 x3 ti_ on_ he_) : v_X0_lateOverall_0 n so sd il kn sp py bo (fun r u => r = (laO n kn bo so sd (ti, on, he) a1 16) ∧ u = (plT n kn bo so sd (ti, on, he) 16)) K12 a1 ti on he := by
  unfold v_X0_lateOverall_0
  have key := up_ind (fun k => K12 a1 (laO n kn bo so sd (ti, on, he) a1 k) (nI k) (plT n kn bo so sd (ti, on, he) k).1 (plT n kn bo so sd (ti, on, he) k).2.1 (plT n kn bo so sd (ti, on, he) k).2.2) 16 (R12 _ _ _ _ _ _ ?_) (fun k hk ih => R12 _ _ _ _ _ _ ?_)
  · exact ⟨by omega, key⟩
  · exact ⟨fun _ => ⟨rfl, rfl⟩, fun h => absurd (nI_le (a := 16) (b := 16) (Nat.le_refl _) (by omega)) h⟩
  · refine ⟨fun hq => absurd hq (nI_ge (b := 16) hk (by omega)), fun _ => fun u hu => ?_⟩
    subst hu
    simpa only [laO, plT, nI_1] using ih
theorem h_X0_wornBits (n : Nat) (so : Nat → Int32) (sd : Nat → Int32) (il : Int32) (kn : Nat → Int32) (sp : Nat → Int32) (py : Nat → Int32) (bo : Nat → Int32) (ti : Nat → Int32) (on : Nat → Int32) (he : Nat → Int32) (a1 : Int32) (hn : n ≤ 6) (K12 : Int32 → Int32 → Int32 → (Nat → Int32) → (Nat → Int32) → (Nat → Int32) → Prop) (R12 : ∀ x1 x2 x3 ti_ on_ he_, v_X0_wornBits_12 n so sd il kn sp py bo (fun r u => r = (woO n kn bo so sd (ti, on, he) a1 16) ∧ u = (plT n kn bo so sd (ti, on, he) 16)) K12 x1 x2 x3 ti_ on_ he_ → K12 x1 x2 x3 ti_ on_ he_) : v_X0_wornBits_0 n so sd il kn sp py bo (fun r u => r = (woO n kn bo so sd (ti, on, he) a1 16) ∧ u = (plT n kn bo so sd (ti, on, he) 16)) K12 a1 ti on he := by
  unfold v_X0_wornBits_0
  have key := up_ind (fun k => K12 a1 (woO n kn bo so sd (ti, on, he) a1 k) (nI k) (plT n kn bo so sd (ti, on, he) k).1 (plT n kn bo so sd (ti, on, he) k).2.1 (plT n kn bo so sd (ti, on, he) k).2.2) 16 (R12 _ _ _ _ _ _ ?_) (fun k hk ih => R12 _ _ _ _ _ _ ?_)
  · exact ⟨by omega, key⟩
  · exact ⟨fun _ => ⟨rfl, rfl⟩, fun h => absurd (nI_le (a := 16) (b := 16) (Nat.le_refl _) (by omega)) h⟩
  · refine ⟨fun hq => absurd hq (nI_ge (b := 16) hk (by omega)), fun _ => fun u hu => ?_⟩
    subst hu
    simpa only [woO, plT, nI_1] using ih
