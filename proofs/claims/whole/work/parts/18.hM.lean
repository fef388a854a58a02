theorem h_J6_bitCount_0f7a4 (a0 : Int32) : v_J6_bitCount_0f7a4_0  (fun r _ => r = btC a0)  a0 := by
  unfold v_J6_bitCount_0f7a4_0
  rfl
theorem h_X3_searchTeams (n : Nat) (se : Int32) (wo : Int32) (fO : Nat → Int32) (wI : Nat → Int32) (so : Nat → Int32) (sd : Nat → Int32) (ti : Nat → Int32) (on : Nat → Int32) (he : Nat → Int32) (il : Int32) (kn : Nat → Int32) (sp : Nat → Int32) (py : Nat → Int32) (bo : Nat → Int32) (os : Int32) (fl : Int32) (wa : Int32) (fo : Int32) (sb : Int32) (lp : Int32) (fm : Int32) (pn : Int32) (tr : Nat → Int32) (fs : Nat → Int32) (sk : Nat → Int32) (ct : Nat → Int32) (nt : Nat → Int32) (a1 : Int32) (hn : n ≤ 6) : v_X3_searchTeams_0 n se wo fO wI so sd ti on he il kn sp py bo (fun u => u = stF n il kn sp py bo fO wI se a1 (os, fl, wa, fo, sb, lp, fm, pn, tr, fs, sk, ct, nt))  a1 os fl wa fo sb lp fm pn tr fs sk ct nt := by
  unfold v_X3_searchTeams_0
  simp only [bI_0, Bool.not_eq_false]
  refine ⟨fun h => ?_, fun h => ?_⟩
  · rw [stF, if_neg (by simp [h])]
  · have hv : vp_in a1 2 := inB_in (n := 2) h (Nat.le_refl _) (by omega)
    refine ⟨hv, hv, rfl, fun u hu => ?_⟩
    rw [stF, if_pos h, hu]
    rfl
theorem h_X3_person (n : Nat) (se : Int32) (wo : Int32) (fO : Nat → Int32) (wI : Nat → Int32) (os : Int32) (fl : Int32) (wa : Int32) (fo : Int32) (sb : Int32) (lp : Int32) (fm : Int32) (pn : Int32) (tr : Nat → Int32) (fs : Nat → Int32) (sk : Nat → Int32) (ct : Nat → Int32) (nt : Nat → Int32) (so : Nat → Int32) (sd : Nat → Int32) (ti : Nat → Int32) (on : Nat → Int32) (he : Nat → Int32) (il : Int32) (kn : Nat → Int32) (sp : Nat → Int32) (py : Nat → Int32) (bo : Nat → Int32) (a1 : Int32) (a2 : Int32) (a3 : Int32) (hn : n ≤ 6) : v_X3_person_0 n se wo fO wI os fl wa fo sb lp fm pn tr fs sk ct nt so sd ti on he il (fun r u => r = (if pOk a1 a2 a3 = true then (if n < 6 then nI n else (-5)) else (-3)) ∧ u = (nI (if (pOk a1 a2 a3 && decide (n < 6)) = true then n + 1 else n), (if (pOk a1 a2 a3 && decide (n < 6)) = true then upd kn n a1 else kn), (if (pOk a1 a2 a3 && decide (n < 6)) = true then upd sp n a2 else sp), (if (pOk a1 a2 a3 && decide (n < 6)) = true then upd py n a3 else py), (if (pOk a1 a2 a3 && decide (n < 6)) = true then upd bo n 5 else bo)))  a1 a2 a3 kn sp py bo := by
  unfold v_X3_person_0
  simp only [bI_0, Bool.not_eq_false, decide_eq_true_eq, decide_eq_false_iff_not]
  refine ⟨fun h => ?_, fun h => ⟨fun h2 => ?_, fun h2 => ⟨fun h3 => ⟨fun h4 => ?_, fun h4 => ⟨fun h5 => ?_, fun h5 => ?_⟩⟩, fun h3 => ?_⟩⟩⟩
  · have e : pOk a1 a2 a3 = false := by simp [pOk, h]
    simp [e]
  · have e : pOk a1 a2 a3 = false := by simp [pOk, h2]
    simp [e]
  · have e : pOk a1 a2 a3 = false := by simp [pOk, h4]
    simp [e]
  · have e : pOk a1 a2 a3 = true := by simp only [pOk, Classical.not_not.mp h, Classical.not_not.mp h2, h3, h4, h5, eq_self, decide_true, decide_false, Bool.not_false, Bool.and_self]
    simp [e]
  · have e : pOk a1 a2 a3 = false := by simp [pOk, h5]
    simp [e]
  · have e : pOk a1 a2 a3 = false := by simp only [pOk, h3, decide_false, Bool.false_and, Bool.and_false]
    simp [e]
theorem h_X3_ill (n : Nat) (se : Int32) (wo : Int32) (fO : Nat → Int32) (wI : Nat → Int32) (os : Int32) (fl : Int32) (wa : Int32) (fo : Int32) (sb : Int32) (lp : Int32) (fm : Int32) (pn : Int32) (tr : Nat → Int32) (fs : Nat → Int32) (sk : Nat → Int32) (ct : Nat → Int32) (nt : Nat → Int32) (so : Nat → Int32) (sd : Nat → Int32) (ti : Nat → Int32) (on : Nat → Int32) (he : Nat → Int32) (kn : Nat → Int32) (sp : Nat → Int32) (py : Nat → Int32) (bo : Nat → Int32) (il : Int32) (a1 : Int32) (a2 : Int32) (hn : n ≤ 6) : v_X3_ill_0 n se wo fO wI os fl wa fo sb lp fm pn tr fs sk ct nt so sd ti on he kn sp py bo (fun r u => r = (if inB a1 (nI n) = true then bI (hs il a1) else (-2)) ∧ u = (if inB a1 (nI n) = true then (if a2 = 0 then il &&& (((1 : Int32) <<< (a1 &&& 31)) ^^^ (-1)) else il ||| ((1 : Int32) <<< (a1 &&& 31))) else il))  a1 a2 il := by
  unfold v_X3_ill_0
  simp only [bI_0, Bool.not_eq_false, v_X3_ill_30]
  refine ⟨fun h => ?_, fun h => ⟨fun h2 => ?_, fun h2 => ?_⟩⟩
  · simp [h]
  · simp [h, h2, bI]
  · simp [h, h2, bI]
theorem h_X3_session (n : Nat) (se : Int32) (wo : Int32) (os : Int32) (fl : Int32) (wa : Int32) (fo : Int32) (sb : Int32) (lp : Int32) (fm : Int32) (pn : Int32) (tr : Nat → Int32) (fs : Nat → Int32) (sk : Nat → Int32) (ct : Nat → Int32) (nt : Nat → Int32) (so : Nat → Int32) (sd : Nat → Int32) (ti : Nat → Int32) (on : Nat → Int32) (he : Nat → Int32) (il : Int32) (kn : Nat → Int32) (sp : Nat → Int32) (py : Nat → Int32) (bo : Nat → Int32) (fO : Nat → Int32) (wI : Nat → Int32) (a1 : Int32) (a2 : Int32) (a3 : Int32) (hn : n ≤ 6) : v_X3_session_0 n se wo os fl wa fo sb lp fm pn tr fs sk ct nt so sd ti on he il kn sp py bo (fun r u => r = (if inB a1 2 = true then (if (decide (a2 &&& (-32) = 0) && decide (a3 &&& (-32) = 0)) = true then 1 else (-3)) else (-2)) ∧ u = ((if (inB a1 2 && (decide (a2 &&& (-32) = 0) && decide (a3 &&& (-32) = 0))) = true then upd fO a1.toNatClampNeg a2 else fO), (if (inB a1 2 && (decide (a2 &&& (-32) = 0) && decide (a3 &&& (-32) = 0))) = true then upd wI a1.toNatClampNeg a3 else wI)))  a1 a2 a3 fO wI := by
  unfold v_X3_session_0
  simp only [bI_0, Bool.not_eq_false, decide_eq_true_eq, decide_eq_false_iff_not]
  refine ⟨fun h => ?_, fun h => ⟨fun h2 => ?_, fun h2 => ⟨fun h3 => ?_, fun h3 => ?_⟩⟩⟩
  · simp [h]
  · simp [h, h2]
  · simp [h, h3]
  · have hv : vp_in a1 2 := inB_in (n := 2) h (Nat.le_refl _) (by omega)
    refine ⟨hv, hv, ?_⟩
    simp [h, h2, h3]
theorem h_X3_seats (n : Nat) (wo : Int32) (fO : Nat → Int32) (wI : Nat → Int32) (os : Int32) (fl : Int32) (wa : Int32) (fo : Int32) (sb : Int32) (lp : Int32) (fm : Int32) (pn : Int32) (tr : Nat → Int32) (fs : Nat → Int32) (sk : Nat → Int32) (ct : Nat → Int32) (nt : Nat → Int32) (so : Nat → Int32) (sd : Nat → Int32) (ti : Nat → Int32) (on : Nat → Int32) (he : Nat → Int32) (il : Int32) (kn : Nat → Int32) (sp : Nat → Int32) (py : Nat → Int32) (bo : Nat → Int32) (se : Int32) (a1 : Int32) (hn : n ≤ 6) : v_X3_seats_0 n wo fO wI os fl wa fo sb lp fm pn tr fs sk ct nt so sd ti on he il kn sp py bo (fun r u => r = (if (a1 < 1 ∨ 2 < a1) then (-3) else se) ∧ u = (if (a1 < 1 ∨ 2 < a1) then se else a1))  a1 se := by
  unfold v_X3_seats_0
  have hlt : ∀ x : Int32, (2 < x) = ¬ x ≤ 2 := fun x => propext Int32.not_le.symm
  simp only [hlt]
  refine ⟨fun h => ?_, fun h => ⟨fun h2 => ?_, fun h2 => ?_⟩⟩
  · simp [h]
  · simp [h, h2]
  · simp [h2]
theorem h_X3_whole (n : Nat) (se : Int32) (wo : Int32) (fO : Nat → Int32) (wI : Nat → Int32) (so : Nat → Int32) (sd : Nat → Int32) (ti : Nat → Int32) (on : Nat → Int32) (he : Nat → Int32) (il : Int32) (kn : Nat → Int32) (sp : Nat → Int32) (py : Nat → Int32) (bo : Nat → Int32) (os : Int32) (fl : Int32) (wa : Int32) (fo : Int32) (sb : Int32) (lp : Int32) (fm : Int32) (pn : Int32) (tr : Nat → Int32) (fs : Nat → Int32) (sk : Nat → Int32) (ct : Nat → Int32) (nt : Nat → Int32) (a1 : Int32) (hn : n ≤ 6) : v_X3_whole_0 n se wo fO wI so sd ti on he il kn sp py bo (fun r u => r = (if inB a1 2 = true then (stF n il kn sp py bo fO wI se a1 (os, fl, wa, fo, sb, lp, fm, pn, tr, fs, sk, ct, nt)).2.2.2.1 else (-2)) ∧ u = stF n il kn sp py bo fO wI se a1 (os, fl, wa, fo, sb, lp, fm, pn, tr, fs, sk, ct, nt))  a1 os fl wa fo sb lp fm pn tr fs sk ct nt := by
  unfold v_X3_whole_0
  simp only [bI_0, Bool.not_eq_false]
  refine ⟨fun h => ?_, fun h => fun u hu => ?_⟩
  · rw [if_neg (by simp [h]), stF, if_neg (by simp [h])]
    exact ⟨rfl, rfl⟩
  · rw [if_pos h, hu]
    exact ⟨rfl, rfl⟩
theorem h_X3_cheapest (n : Nat) (se : Int32) (wo : Int32) (fO : Nat → Int32) (wI : Nat → Int32) (so : Nat → Int32) (sd : Nat → Int32) (ti : Nat → Int32) (on : Nat → Int32) (he : Nat → Int32) (il : Int32) (kn : Nat → Int32) (sp : Nat → Int32) (py : Nat → Int32) (bo : Nat → Int32) (os : Int32) (fl : Int32) (wa : Int32) (fo : Int32) (sb : Int32) (lp : Int32) (fm : Int32) (pn : Int32) (tr : Nat → Int32) (fs : Nat → Int32) (sk : Nat → Int32) (ct : Nat → Int32) (nt : Nat → Int32) (a1 : Int32) (hn : n ≤ 6) : v_X3_cheapest_0 n se wo fO wI so sd ti on he il kn sp py bo (fun r u => r = (if inB a1 2 = true then (stF n il kn sp py bo fO wI se a1 (os, fl, wa, fo, sb, lp, fm, pn, tr, fs, sk, ct, nt)).2.2.2.2.2.1 else (-2)) ∧ u = stF n il kn sp py bo fO wI se a1 (os, fl, wa, fo, sb, lp, fm, pn, tr, fs, sk, ct, nt))  a1 os fl wa fo sb lp fm pn tr fs sk ct nt := by
  unfold v_X3_cheapest_0
  simp only [bI_0, Bool.not_eq_false]
  refine ⟨fun h => ?_, fun h => fun u hu => ?_⟩
  · rw [if_neg (by simp [h]), stF, if_neg (by simp [h])]
    exact ⟨rfl, rfl⟩
  · rw [if_pos h, hu]
    exact ⟨rfl, rfl⟩
theorem h_X3_nearest (n : Nat) (se : Int32) (wo : Int32) (fO : Nat → Int32) (wI : Nat → Int32) (so : Nat → Int32) (sd : Nat → Int32) (ti : Nat → Int32) (on : Nat → Int32) (he : Nat → Int32) (il : Int32) (kn : Nat → Int32) (sp : Nat → Int32) (py : Nat → Int32) (bo : Nat → Int32) (os : Int32) (fl : Int32) (wa : Int32) (fo : Int32) (sb : Int32) (lp : Int32) (fm : Int32) (pn : Int32) (tr : Nat → Int32) (fs : Nat → Int32) (sk : Nat → Int32) (ct : Nat → Int32) (nt : Nat → Int32) (a1 : Int32) (hn : n ≤ 6) : v_X3_nearest_0 n se wo fO wI so sd ti on he il kn sp py bo (fun r u => r = (if inB a1 2 = true then (stF n il kn sp py bo fO wI se a1 (os, fl, wa, fo, sb, lp, fm, pn, tr, fs, sk, ct, nt)).2.2.2.2.2.2.1 else (-2)) ∧ u = stF n il kn sp py bo fO wI se a1 (os, fl, wa, fo, sb, lp, fm, pn, tr, fs, sk, ct, nt))  a1 os fl wa fo sb lp fm pn tr fs sk ct nt := by
  unfold v_X3_nearest_0
  simp only [bI_0, Bool.not_eq_false]
  refine ⟨fun h => ?_, fun h => fun u hu => ?_⟩
  · rw [if_neg (by simp [h]), stF, if_neg (by simp [h])]
    exact ⟨rfl, rfl⟩
  · rw [if_pos h, hu]
    exact ⟨rfl, rfl⟩
theorem h_X3_take (n : Nat) (se : Int32) (wo : Int32) (fO : Nat → Int32) (wI : Nat → Int32) (so : Nat → Int32) (sd : Nat → Int32) (ti : Nat → Int32) (on : Nat → Int32) (he : Nat → Int32) (il : Int32) (kn : Nat → Int32) (sp : Nat → Int32) (py : Nat → Int32) (os : Int32) (fl : Int32) (wa : Int32) (fo : Int32) (sb : Int32) (lp : Int32) (fm : Int32) (pn : Int32) (tr : Nat → Int32) (fs : Nat → Int32) (sk : Nat → Int32) (ct : Nat → Int32) (nt : Nat → Int32) (bo : Nat → Int32) (a1 : Int32) (a2 : Int32) (hn : n ≤ 6) : v_X3_take_0 n se wo fO wI so sd ti on he il kn sp py (fun r u => r = tkR a1 a2 (stF n il kn sp py bo fO wI se a1 (os, fl, wa, fo, sb, lp, fm, pn, tr, fs, sk, ct, nt)) ∧ u = tkF a1 a2 (stF n il kn sp py bo fO wI se a1 (os, fl, wa, fo, sb, lp, fm, pn, tr, fs, sk, ct, nt)) (os, fl, wa, fo, sb, lp, fm, pn, tr, fs, sk, ct, nt) bo)  a1 a2 os fl wa fo sb lp fm pn tr fs sk ct nt bo := by
  unfold v_X3_take_0
  simp only [bI_0, Bool.not_eq_false, v_X3_take_22]
  generalize hy : stF n il kn sp py bo fO wI se a1 (os, fl, wa, fo, sb, lp, fm, pn, tr, fs, sk, ct, nt) = y
  have h10 : ¬ (1 : Int32) = 0 := by decide
  refine ⟨fun h => ?_, fun h => ⟨fun h2 => fun u hu => ⟨fun h3 => ?_, fun h3 => ⟨fun h4 => ?_, fun h4 => ?_⟩⟩, fun h2 => ⟨fun h5 => fun u hu => ⟨fun h3 => ?_, fun h3 => ⟨fun h4 => ?_, fun h4 => ?_⟩⟩, fun h5 => ?_⟩⟩⟩
  · rw [tkR, tkF, if_neg (by simp [h]), if_neg (by simp [h])]
    exact ⟨rfl, rfl⟩
  · subst hu
    rw [tkR, tkF, if_pos h, if_pos (Or.inl h2), if_pos h3, if_pos ⟨h, Or.inl h2⟩, if_pos h3]
    exact ⟨rfl, rfl⟩
  · subst hu
    rw [tkR, tkF, if_pos h, if_pos (Or.inl h2), if_neg h3, if_pos h2, if_pos ⟨h, Or.inl h2⟩, if_neg h3, if_pos h2]
    exact ⟨rfl, rfl⟩
  · exact absurd h2 h4
  · subst hu
    rw [tkR, tkF, if_pos h, if_pos (Or.inr h5), if_pos h3, if_pos ⟨h, Or.inr h5⟩, if_pos h3]
    exact ⟨rfl, rfl⟩
  · exact absurd h4 h2
  · subst hu
    rw [tkR, tkF, if_pos h, if_pos (Or.inr h5), if_neg h3, if_neg h2, if_pos ⟨h, Or.inr h5⟩, if_neg h3, if_neg h2]
    exact ⟨rfl, rfl⟩
  · have hc : ¬ (a2 = 0 ∨ a2 = 1) := fun hq => hq.elim h2 h5
    rw [tkR, tkF, if_pos h, if_neg hc, if_neg (fun hq => hc hq.2)]
    exact ⟨rfl, rfl⟩
theorem h_X3_leave (n : Nat) (se : Int32) (wo : Int32) (fO : Nat → Int32) (wI : Nat → Int32) (os : Int32) (fl : Int32) (wa : Int32) (fo : Int32) (sb : Int32) (lp : Int32) (fm : Int32) (pn : Int32) (tr : Nat → Int32) (fs : Nat → Int32) (sk : Nat → Int32) (ct : Nat → Int32) (nt : Nat → Int32) (so : Nat → Int32) (sd : Nat → Int32) (ti : Nat → Int32) (on : Nat → Int32) (he : Nat → Int32) (il : Int32) (kn : Nat → Int32) (sp : Nat → Int32) (py : Nat → Int32) (bo : Nat → Int32) (hn : n ≤ 6) : v_X3_leave_0 n se wo fO wI os fl wa fo sb lp fm pn tr fs sk ct nt so sd ti on he il kn sp py (fun r u => r = sI (fun k => bI (!decide (bo k = 5))) n ∧ u = fillA bo 6 5)   bo := by
  unfold v_X3_leave_0
  exact ⟨rfl, rfl⟩
theorem h_X3_booth (n : Nat) (se : Int32) (wo : Int32) (fO : Nat → Int32) (wI : Nat → Int32) (os : Int32) (fl : Int32) (wa : Int32) (fo : Int32) (sb : Int32) (lp : Int32) (fm : Int32) (pn : Int32) (tr : Nat → Int32) (fs : Nat → Int32) (sk : Nat → Int32) (ct : Nat → Int32) (nt : Nat → Int32) (so : Nat → Int32) (sd : Nat → Int32) (ti : Nat → Int32) (on : Nat → Int32) (he : Nat → Int32) (il : Int32) (kn : Nat → Int32) (sp : Nat → Int32) (py : Nat → Int32) (bo : Nat → Int32) (a1 : Int32) (hn : n ≤ 6) : v_X3_booth_0 n se wo fO wI os fl wa fo sb lp fm pn tr fs sk ct nt so sd ti on he il kn sp py bo (fun r _ => r = (if inB a1 (nI n) = true then bo a1.toNatClampNeg else (-2)))  a1 := by
  unfold v_X3_booth_0
  simp only [bI_0, Bool.not_eq_false]
  refine ⟨fun h => ?_, fun h => ?_⟩
  · simp [h]
  · simp [h, atP]
theorem h_X3_lacking (n : Nat) (se : Int32) (wo : Int32) (fO : Nat → Int32) (wI : Nat → Int32) (os : Int32) (fl : Int32) (wa : Int32) (fo : Int32) (sb : Int32) (lp : Int32) (fm : Int32) (pn : Int32) (tr : Nat → Int32) (fs : Nat → Int32) (sk : Nat → Int32) (ct : Nat → Int32) (nt : Nat → Int32) (so : Nat → Int32) (sd : Nat → Int32) (ti : Nat → Int32) (on : Nat → Int32) (he : Nat → Int32) (il : Int32) (kn : Nat → Int32) (sp : Nat → Int32) (py : Nat → Int32) (bo : Nat → Int32) (a1 : Int32) (hn : n ≤ 6) (K14 : Int32 → Int32 → Int32 → Prop) (R14 : ∀ x1 x2 x3, v_X3_lacking_14 n se wo fO wI os fl wa fo sb lp fm pn tr fs sk ct nt so sd ti on he il kn sp py bo (fun r _ => r = (if inB a1 2 = true then lcF n il sp (wI a1.toNatClampNeg) se 5 else (-2))) K14 x1 x2 x3 → K14 x1 x2 x3) : v_X3_lacking_0 n se wo fO wI os fl wa fo sb lp fm pn tr fs sk ct nt so sd ti on he il kn sp py bo (fun r _ => r = (if inB a1 2 = true then lcF n il sp (wI a1.toNatClampNeg) se 5 else (-2))) K14 a1 := by
  unfold v_X3_lacking_0
  simp only [bI_0, Bool.not_eq_false]
  refine ⟨fun h => ?_, fun h => ?_⟩
  · simp [h]
  · have hv : vp_in a1 2 := inB_in (n := 2) h (Nat.le_refl _) (by omega)
    rw [if_pos h] at R14
    have key := up_ind (fun k => K14 a1 (lcF n il sp (wI a1.toNatClampNeg) se k) (nI k)) 5 (R14 _ _ _ ?_) (fun k hk ih => R14 _ _ _ ?_)
    · exact key
    · exact ⟨fun _ => rfl, fun h => absurd (nI_le (a := 5) (b := 5) (Nat.le_refl _) (by omega)) h⟩
    · refine ⟨fun h => absurd h (nI_ge (b := 5) hk (by omega)), fun _ => ⟨hv, ?_⟩⟩
      simp only [bI_0, Bool.not_eq_false, v_X3_lacking_53, nI_1]
      refine ⟨fun h2 => ?_, fun h2 => ⟨fun h3 => ?_, fun h3 => ?_⟩⟩
      · simpa [lcF, h2] using ih
      · simpa [lcF, h3] using ih
      · simpa [lcF, h2, h3] using ih
theorem h_X3_needed (n : Nat) (se : Int32) (wo : Int32) (fO : Nat → Int32) (wI : Nat → Int32) (so : Nat → Int32) (sd : Nat → Int32) (ti : Nat → Int32) (on : Nat → Int32) (he : Nat → Int32) (il : Int32) (kn : Nat → Int32) (sp : Nat → Int32) (py : Nat → Int32) (bo : Nat → Int32) (os : Int32) (fl : Int32) (wa : Int32) (fo : Int32) (sb : Int32) (lp : Int32) (fm : Int32) (pn : Int32) (tr : Nat → Int32) (fs : Nat → Int32) (sk : Nat → Int32) (ct : Nat → Int32) (nt : Nat → Int32) (a1 : Int32) (a2 : Int32) (hn : n ≤ 6) : v_X3_needed_0 n se wo fO wI so sd ti on he il kn sp py bo (fun r u => r = (if (inB a1 (nI n) && inB a2 2) = true then bI (!decide ((stF n il kn sp py bo fO wI se a2 (os, fl, wa, fo, sb, lp, fm, pn, tr, fs, sk, ct, nt)).2.2.2.1 ≤ 0) && !hs ((stF n il kn sp py bo fO wI se a2 (os, fl, wa, fo, sb, lp, fm, pn, tr, fs, sk, ct, nt)).2.2.2.2.1) a1) else (-2)) ∧ u = (if (inB a1 (nI n) && inB a2 2) = true then stF n il kn sp py bo fO wI se a2 (os, fl, wa, fo, sb, lp, fm, pn, tr, fs, sk, ct, nt) else (os, fl, wa, fo, sb, lp, fm, pn, tr, fs, sk, ct, nt)))  a1 a2 os fl wa fo sb lp fm pn tr fs sk ct nt := by
  unfold v_X3_needed_0
  simp only [bI_0, Bool.not_eq_false]
  refine ⟨fun h => ?_, fun h => ⟨fun h2 => ?_, fun h2 => fun u hu => ⟨fun h3 => ?_, fun h3 => ⟨fun h4 => ?_, fun h4 => ?_⟩⟩⟩⟩
  · simp [h]
  · simp [h2]
  · have hc : (inB a1 (nI n) && inB a2 2) = true := by simp [h, h2]
    rw [if_pos hc, if_pos hc, ← hu]
    exact ⟨by simp [h3, bI], rfl⟩
  · have hc : (inB a1 (nI n) && inB a2 2) = true := by simp [h, h2]
    rw [if_pos hc, if_pos hc, ← hu]
    exact ⟨by simp [h3, h4, bI], rfl⟩
  · have hc : (inB a1 (nI n) && inB a2 2) = true := by simp [h, h2]
    rw [if_pos hc, if_pos hc, ← hu]
    exact ⟨by simp [h4, bI], rfl⟩
theorem h_X3_speak (n : Nat) (se : Int32) (wo : Int32) (fO : Nat → Int32) (wI : Nat → Int32) (os : Int32) (fl : Int32) (wa : Int32) (fo : Int32) (sb : Int32) (lp : Int32) (fm : Int32) (pn : Int32) (tr : Nat → Int32) (fs : Nat → Int32) (sk : Nat → Int32) (ct : Nat → Int32) (nt : Nat → Int32) (ti : Nat → Int32) (on : Nat → Int32) (he : Nat → Int32) (il : Int32) (kn : Nat → Int32) (sp : Nat → Int32) (py : Nat → Int32) (bo : Nat → Int32) (so : Nat → Int32) (sd : Nat → Int32) (a1 : Int32) (a2 : Int32) (a3 : Int32) (hn : n ≤ 6) : v_X3_speak_0 n se wo fO wI os fl wa fo sb lp fm pn tr fs sk ct nt ti on he il kn sp py bo (fun r u => r = (if (inB a1 16 && inB a2 5) = true then (if (!decide (a3 < 1) && !decide (9 < a3)) = true then 1 else (-3)) else (-2)) ∧ u = ((if (inB a1 16 && (inB a2 5 && (!decide (a3 < 1) && !decide (9 < a3)))) = true then upd so a1.toNatClampNeg a2 else so), (if (inB a1 16 && (inB a2 5 && (!decide (a3 < 1) && !decide (9 < a3)))) = true then upd sd a1.toNatClampNeg a3 else sd)))  a1 a2 a3 so sd := by
  unfold v_X3_speak_0
  have hlt : ∀ x : Int32, (9 < x) = ¬ x ≤ 9 := fun x => propext Int32.not_le.symm
  simp only [bI_0, Bool.not_eq_false, hlt]
  refine ⟨fun h => ?_, fun h => ⟨fun h2 => ?_, fun h2 => ⟨fun h3 => ?_, fun h3 => ⟨fun h4 => ?_, fun h4 => ?_⟩⟩⟩⟩
  · simp [h]
  · simp [h2]
  · simp [h, h2, h3]
  · simp [h, h2, h3, h4]
  · simp [h, h2, h4]
theorem h_X3_silence (n : Nat) (se : Int32) (wo : Int32) (fO : Nat → Int32) (wI : Nat → Int32) (os : Int32) (fl : Int32) (wa : Int32) (fo : Int32) (sb : Int32) (lp : Int32) (fm : Int32) (pn : Int32) (tr : Nat → Int32) (fs : Nat → Int32) (sk : Nat → Int32) (ct : Nat → Int32) (nt : Nat → Int32) (ti : Nat → Int32) (on : Nat → Int32) (he : Nat → Int32) (il : Int32) (kn : Nat → Int32) (sp : Nat → Int32) (py : Nat → Int32) (bo : Nat → Int32) (so : Nat → Int32) (sd : Nat → Int32) (a1 : Int32) (hn : n ≤ 6) : v_X3_silence_0 n se wo fO wI os fl wa fo sb lp fm pn tr fs sk ct nt ti on he il kn sp py bo (fun r u => r = (if inB a1 16 = true then bI (!decide (so a1.toNatClampNeg = -1)) else (-2)) ∧ u = ((if inB a1 16 = true then upd so a1.toNatClampNeg (-1) else so), (if inB a1 16 = true then upd sd a1.toNatClampNeg 0 else sd)))  a1 so sd := by
  unfold v_X3_silence_0
  simp only [bI_0, Bool.not_eq_false, v_X3_silence_26]
  refine ⟨fun h => ?_, fun h => ⟨fun h2 => ?_, fun h2 => ?_⟩⟩
  · simp [h]
  · have e : so a1.toNatClampNeg ≠ -1 := by simpa [silF, h] using h2
    simp [h, e, bI]
  · have e : so a1.toNatClampNeg = -1 := by simpa [silF, h] using h2
    simp [h, e, bI]
theorem h_X3_limit (n : Nat) (se : Int32) (fO : Nat → Int32) (wI : Nat → Int32) (os : Int32) (fl : Int32) (wa : Int32) (fo : Int32) (sb : Int32) (lp : Int32) (fm : Int32) (pn : Int32) (tr : Nat → Int32) (fs : Nat → Int32) (sk : Nat → Int32) (ct : Nat → Int32) (nt : Nat → Int32) (so : Nat → Int32) (sd : Nat → Int32) (ti : Nat → Int32) (on : Nat → Int32) (he : Nat → Int32) (il : Int32) (kn : Nat → Int32) (sp : Nat → Int32) (py : Nat → Int32) (bo : Nat → Int32) (wo : Int32) (a1 : Int32) (hn : n ≤ 6) : v_X3_limit_0 n se fO wI os fl wa fo sb lp fm pn tr fs sk ct nt so sd ti on he il kn sp py bo (fun r u => r = (if (a1 < 5 ∨ 60 < a1) then (-3) else wo) ∧ u = (if (a1 < 5 ∨ 60 < a1) then wo else a1))  a1 wo := by
  unfold v_X3_limit_0
  have hlt : ∀ x : Int32, (60 < x) = ¬ x ≤ 60 := fun x => propext Int32.not_le.symm
  simp only [hlt]
  refine ⟨fun h => ?_, fun h => ⟨fun h2 => ?_, fun h2 => ?_⟩⟩
  · simp [h]
  · simp [h, h2]
  · simp [h2]
theorem h_X3_on (n : Nat) (se : Int32) (wo : Int32) (fO : Nat → Int32) (wI : Nat → Int32) (os : Int32) (fl : Int32) (wa : Int32) (fo : Int32) (sb : Int32) (lp : Int32) (fm : Int32) (pn : Int32) (tr : Nat → Int32) (fs : Nat → Int32) (sk : Nat → Int32) (ct : Nat → Int32) (nt : Nat → Int32) (so : Nat → Int32) (sd : Nat → Int32) (il : Int32) (kn : Nat → Int32) (sp : Nat → Int32) (py : Nat → Int32) (bo : Nat → Int32) (ti : Nat → Int32) (on : Nat → Int32) (he : Nat → Int32) (a1 : Int32) (a2 : Int32) (hn : n ≤ 6) : v_X3_on_0 n se wo fO wI os fl wa fo sb lp fm pn tr fs sk ct nt so sd il kn sp py bo (fun r u => r = (if (inB a1 5 && inB a2 16) = true then (plT n kn bo so sd (ti, on, he) (a2.toNatClampNeg + 1)).2.1 a1.toNatClampNeg else (-2)) ∧ u = (if (inB a1 5 && inB a2 16) = true then (plT n kn bo so sd (ti, on, he) (a2.toNatClampNeg + 1)) else (ti, on, he)))  a1 a2 ti on he := by
  unfold v_X3_on_0
  simp only [bI_0, Bool.not_eq_false]
  refine ⟨fun h => ?_, fun h => ⟨fun h2 => ?_, fun h2 => ⟨h2, fun u hu => ⟨inB_in (n := 5) h (Nat.le_refl _) (by omega), ?_⟩⟩⟩⟩
  · simp [h]
  · simp [h2]
  · have hc : (inB a1 5 && inB a2 16) = true := by simp [h, h2]
    rw [if_pos hc, if_pos hc, hu]
    exact ⟨rfl, rfl⟩
theorem h_X3_heard (n : Nat) (se : Int32) (wo : Int32) (fO : Nat → Int32) (wI : Nat → Int32) (os : Int32) (fl : Int32) (wa : Int32) (fo : Int32) (sb : Int32) (lp : Int32) (fm : Int32) (pn : Int32) (tr : Nat → Int32) (fs : Nat → Int32) (sk : Nat → Int32) (ct : Nat → Int32) (nt : Nat → Int32) (so : Nat → Int32) (sd : Nat → Int32) (il : Int32) (kn : Nat → Int32) (sp : Nat → Int32) (py : Nat → Int32) (bo : Nat → Int32) (ti : Nat → Int32) (on : Nat → Int32) (he : Nat → Int32) (a1 : Int32) (a2 : Int32) (hn : n ≤ 6) : v_X3_heard_0 n se wo fO wI os fl wa fo sb lp fm pn tr fs sk ct nt so sd il kn sp py bo (fun r u => r = (if (inB a1 5 && inB a2 16) = true then (plT n kn bo so sd (ti, on, he) (a2.toNatClampNeg + 1)).2.2 a1.toNatClampNeg else (-2)) ∧ u = (if (inB a1 5 && inB a2 16) = true then (plT n kn bo so sd (ti, on, he) (a2.toNatClampNeg + 1)) else (ti, on, he)))  a1 a2 ti on he := by
  unfold v_X3_heard_0
  simp only [bI_0, Bool.not_eq_false]
  refine ⟨fun h => ?_, fun h => ⟨fun h2 => ?_, fun h2 => ⟨h2, fun u hu => ⟨inB_in (n := 5) h (Nat.le_refl _) (by omega), ?_⟩⟩⟩⟩
  · simp [h]
  · simp [h2]
  · have hc : (inB a1 5 && inB a2 16) = true := by simp [h, h2]
    rw [if_pos hc, if_pos hc, hu]
    exact ⟨rfl, rfl⟩
theorem h_X3_tired (n : Nat) (se : Int32) (wo : Int32) (fO : Nat → Int32) (wI : Nat → Int32) (os : Int32) (fl : Int32) (wa : Int32) (fo : Int32) (sb : Int32) (lp : Int32) (fm : Int32) (pn : Int32) (tr : Nat → Int32) (fs : Nat → Int32) (sk : Nat → Int32) (ct : Nat → Int32) (nt : Nat → Int32) (so : Nat → Int32) (sd : Nat → Int32) (il : Int32) (kn : Nat → Int32) (sp : Nat → Int32) (py : Nat → Int32) (bo : Nat → Int32) (ti : Nat → Int32) (on : Nat → Int32) (he : Nat → Int32) (a1 : Int32) (a2 : Int32) (hn : n ≤ 6) : v_X3_tired_0 n se wo fO wI os fl wa fo sb lp fm pn tr fs sk ct nt so sd il kn sp py bo (fun r u => r = (if (inB a1 (nI n) && inB a2 16) = true then (plT n kn bo so sd (ti, on, he) (a2.toNatClampNeg + 1)).1 a1.toNatClampNeg else (-2)) ∧ u = (if (inB a1 (nI n) && inB a2 16) = true then (plT n kn bo so sd (ti, on, he) (a2.toNatClampNeg + 1)) else (ti, on, he)))  a1 a2 ti on he := by
  unfold v_X3_tired_0
  simp only [bI_0, Bool.not_eq_false]
  refine ⟨fun h => ?_, fun h => ⟨fun h2 => ?_, fun h2 => ⟨h2, fun u hu => ⟨inB_in h hn (by omega), ?_⟩⟩⟩⟩
  · simp [h]
  · simp [h2]
  · have hc : (inB a1 (nI n) && inB a2 16) = true := by simp [h, h2]
    rw [if_pos hc, if_pos hc, hu]
    exact ⟨rfl, rfl⟩
theorem h_X3_late (n : Nat) (se : Int32) (wo : Int32) (fO : Nat → Int32) (wI : Nat → Int32) (os : Int32) (fl : Int32) (wa : Int32) (fo : Int32) (sb : Int32) (lp : Int32) (fm : Int32) (pn : Int32) (tr : Nat → Int32) (fs : Nat → Int32) (sk : Nat → Int32) (ct : Nat → Int32) (nt : Nat → Int32) (so : Nat → Int32) (sd : Nat → Int32) (il : Int32) (kn : Nat → Int32) (sp : Nat → Int32) (py : Nat → Int32) (bo : Nat → Int32) (ti : Nat → Int32) (on : Nat → Int32) (he : Nat → Int32) (a1 : Int32) (hn : n ≤ 6) : v_X3_late_0 n se wo fO wI os fl wa fo sb lp fm pn tr fs sk ct nt so sd il kn sp py bo (fun r u => r = (if inB a1 5 = true then laO n kn bo so sd (ti, on, he) a1 16 else (-2)) ∧ u = (if inB a1 5 = true then (plT n kn bo so sd (ti, on, he) 16) else (ti, on, he)))  a1 ti on he := by
  unfold v_X3_late_0
  simp only [bI_0, Bool.not_eq_false]
  refine ⟨fun h => ?_, fun h => ⟨h, fun u hu => ?_⟩⟩
  · simp [h]
  · rw [if_pos h, if_pos h, hu]
    exact ⟨rfl, rfl⟩
theorem h_X3_worn (n : Nat) (se : Int32) (wo : Int32) (fO : Nat → Int32) (wI : Nat → Int32) (os : Int32) (fl : Int32) (wa : Int32) (fo : Int32) (sb : Int32) (lp : Int32) (fm : Int32) (pn : Int32) (tr : Nat → Int32) (fs : Nat → Int32) (sk : Nat → Int32) (ct : Nat → Int32) (nt : Nat → Int32) (so : Nat → Int32) (sd : Nat → Int32) (il : Int32) (kn : Nat → Int32) (sp : Nat → Int32) (py : Nat → Int32) (bo : Nat → Int32) (ti : Nat → Int32) (on : Nat → Int32) (he : Nat → Int32) (hn : n ≤ 6) : v_X3_worn_0 n se wo fO wI os fl wa fo sb lp fm pn tr fs sk ct nt so sd il kn sp py bo (fun r u => r = woO n kn bo so sd (ti, on, he) wo 16 ∧ u = (plT n kn bo so sd (ti, on, he) 16))   ti on he := by
  unfold v_X3_worn_0
  intro u hu
  exact ⟨rfl, hu⟩
theorem h_X3_count (n : Nat) (se : Int32) (wo : Int32) (fO : Nat → Int32) (wI : Nat → Int32) (os : Int32) (fl : Int32) (wa : Int32) (fo : Int32) (sb : Int32) (lp : Int32) (fm : Int32) (pn : Int32) (tr : Nat → Int32) (fs : Nat → Int32) (sk : Nat → Int32) (ct : Nat → Int32) (nt : Nat → Int32) (so : Nat → Int32) (sd : Nat → Int32) (ti : Nat → Int32) (on : Nat → Int32) (he : Nat → Int32) (il : Int32) (kn : Nat → Int32) (sp : Nat → Int32) (py : Nat → Int32) (bo : Nat → Int32) (a1 : Int32) (hn : n ≤ 6) : v_X3_count_0 n se wo fO wI os fl wa fo sb lp fm pn tr fs sk ct nt so sd ti on he il kn sp py bo (fun r _ => r = coR n il bo so se a1)  a1 := by
  unfold v_X3_count_0
  refine ⟨fun h => ?_, fun h => ?_, fun h => ?_, fun h => ?_, fun h => ?_, fun h => ?_⟩
  · subst h; rfl
  · subst h; rfl
  · subst h; rfl
  · subst h; rfl
  · subst h; rfl
  · obtain ⟨h0, h1, h2, h3, h4⟩ := h
    rw [coR, if_neg h0, if_neg h1, if_neg h2, if_neg h3, if_neg h4]
