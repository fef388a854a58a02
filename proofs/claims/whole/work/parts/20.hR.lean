theorem h_X4_in (a0 : Int32) (a1 : Int32) (a2 : Int32) : v_X4_in_0  (fun r _ => r = bI (inR a0 a1 a2))  a0 a1 a2 := by
  unfold v_X4_in_0
  refine ⟨fun h => ?_, fun h => ⟨fun h2 => ?_, fun h2 => ?_⟩⟩ <;> simp [inR, bI, *]
theorem h_X4_has (a0 : Int32) (a1 : Int32) : v_X4_has_0  (fun r _ => r = bI (hs a0 a1))  a0 a1 := by
  unfold v_X4_has_0
  refine ⟨fun h => ?_, fun h => ?_⟩ <;> simp [hs, h, bI]
theorem h_X4_isSession (a0 : Int32) : v_X4_isSession_0  (fun r _ => r = bI (inR a0 0 1))  a0 := by
  unfold v_X4_isSession_0
  rfl
theorem h_X4_isTongue (a0 : Int32) : v_X4_isTongue_0  (fun r _ => r = bI (inR a0 0 4))  a0 := by
  unfold v_X4_isTongue_0
  rfl
theorem h_X4_isHalf (a0 : Int32) : v_X4_isHalf_0  (fun r _ => r = bI (inR a0 0 15))  a0 := by
  unfold v_X4_isHalf_0
  rfl
theorem h_X4_isPerson (n : Nat) (se : Int32) (li : Int32) (wm : Int32) (ch : Int32) (ne : Int32) (np : Int32) (al : Int32) (wo : Int32) (kn : Nat → Int32) (sp : Nat → Int32) (py : Nat → Int32) (il : Nat → Int32) (fl : Nat → Int32) (wa : Nat → Int32) (bo : Nat → Int32) (so : Nat → Int32) (sd : Nat → Int32) (ro : Nat → Int32) (cp : Nat → Int32) (nr : Nat → Int32) (ti : Nat → Int32) (on : Nat → Int32) (he : Nat → Int32) (la : Nat → Int32) (a1 : Int32) (hn : n ≤ 6) : v_X4_isPerson_0 n se li wm ch ne np al wo kn sp py il fl wa bo so sd ro cp nr ti on he la (fun r _ => r = bI (inR a1 0 (nI n - 1)))  a1 := by
  unfold v_X4_isPerson_0
  rfl
theorem h_X4_person (n : Nat) (se : Int32) (li : Int32) (wm : Int32) (ch : Int32) (ne : Int32) (np : Int32) (al : Int32) (wo : Int32) (il : Nat → Int32) (fl : Nat → Int32) (wa : Nat → Int32) (bo : Nat → Int32) (so : Nat → Int32) (sd : Nat → Int32) (ro : Nat → Int32) (cp : Nat → Int32) (nr : Nat → Int32) (ti : Nat → Int32) (on : Nat → Int32) (he : Nat → Int32) (la : Nat → Int32) (kn : Nat → Int32) (sp : Nat → Int32) (py : Nat → Int32) (a1 : Int32) (a2 : Int32) (a3 : Int32) (hn : n ≤ 6) : v_X4_person_0 n se li wm ch ne np al wo il fl wa bo so sd ro cp nr ti on he la (fun r u => r = (if rOk a1 a2 a3 = true then (if n < 6 then nI n else (-5)) else (-3)) ∧ u = (nI (if (rOk a1 a2 a3 && decide (n < 6)) = true then n + 1 else n), (if (rOk a1 a2 a3 && decide (n < 6)) = true then upd kn n a1 else kn), (if (rOk a1 a2 a3 && decide (n < 6)) = true then upd sp n a2 else sp), (if (rOk a1 a2 a3 && decide (n < 6)) = true then upd py n a3 else py)))  a1 a2 a3 kn sp py := by
  unfold v_X4_person_0
  have e6 : (6 : Int32) = nI 6 := rfl
  simp only [bI_0, Bool.not_eq_false]
  refine ⟨fun h => ?_, fun h => ⟨fun h2 => ?_, fun h2 => ⟨fun h3 => ⟨fun h4 => ?_, fun h4 => ⟨fun h5 => ?_, fun h5 => ?_⟩⟩, fun h3 => ?_⟩⟩⟩
  · have e : rOk a1 a2 a3 = false := by simp [rOk, h]
    simp [e]
  · have e : rOk a1 a2 a3 = false := by simp [rOk, h2]
    simp [e]
  · have e : rOk a1 a2 a3 = false := by simp [rOk, h4]
    simp [e]
  · have e : rOk a1 a2 a3 = true := by simp only [rOk, h, h2, h3, h4, eq_self, decide_true, Bool.and_self]
    rw [e6, nI_eq (by omega) (by omega)] at h5
    subst h5
    simp [e]
  · have e : rOk a1 a2 a3 = true := by simp only [rOk, h, h2, h3, h4, eq_self, decide_true, Bool.and_self]
    rw [e6, nI_eq (by omega) (by omega)] at h5
    have h6 : n < 6 := by omega
    have hv : vp_in (nI n) 6 := vp_in_nI h6 (by omega)
    refine ⟨hv, hv, hv, ?_⟩
    rw [nI_1, nI_pred, nI_clamp (by omega)]
    simp [e, h6]
  · have e : rOk a1 a2 a3 = false := by simp only [rOk, h3, decide_false, Bool.false_and, Bool.and_false]
    simp [e]
theorem h_X4_ill (n : Nat) (se : Int32) (li : Int32) (wm : Int32) (ch : Int32) (ne : Int32) (np : Int32) (al : Int32) (wo : Int32) (kn : Nat → Int32) (sp : Nat → Int32) (py : Nat → Int32) (fl : Nat → Int32) (wa : Nat → Int32) (bo : Nat → Int32) (so : Nat → Int32) (sd : Nat → Int32) (ro : Nat → Int32) (cp : Nat → Int32) (nr : Nat → Int32) (ti : Nat → Int32) (on : Nat → Int32) (he : Nat → Int32) (la : Nat → Int32) (il : Nat → Int32) (a1 : Int32) (a2 : Int32) (hn : n ≤ 6) : v_X4_ill_0 n se li wm ch ne np al wo kn sp py fl wa bo so sd ro cp nr ti on he la (fun r u => r = (if inR a1 0 (nI n - 1) = true then (if il a1.toNatClampNeg = 0 then 0 else 1) else (-2)) ∧ u = (if inR a1 0 (nI n - 1) = true then upd il a1.toNatClampNeg (vp_nar .boolean a2) else il))  a1 a2 il := by
  unfold v_X4_ill_0
  simp only [bI_0, Bool.not_eq_false]
  refine ⟨fun h => ?_, fun h => ?_⟩
  · simp [h]
  · have hv : vp_in a1 6 := inB_in (n := n) (by rw [← inR_p hn]; exact h) hn (by omega)
    refine ⟨hv, hv, fun h2 => ?_, fun h2 => ?_⟩
    · simp [h, h2]
    · simp [h, h2]
theorem h_X4_session (n : Nat) (se : Int32) (li : Int32) (wm : Int32) (ch : Int32) (ne : Int32) (np : Int32) (al : Int32) (wo : Int32) (kn : Nat → Int32) (sp : Nat → Int32) (py : Nat → Int32) (il : Nat → Int32) (bo : Nat → Int32) (so : Nat → Int32) (sd : Nat → Int32) (ro : Nat → Int32) (cp : Nat → Int32) (nr : Nat → Int32) (ti : Nat → Int32) (on : Nat → Int32) (he : Nat → Int32) (la : Nat → Int32) (fl : Nat → Int32) (wa : Nat → Int32) (a1 : Int32) (a2 : Int32) (a3 : Int32) (hn : n ≤ 6) : v_X4_session_0 n se li wm ch ne np al wo kn sp py il bo so sd ro cp nr ti on he la (fun r u => r = (if inR a1 0 1 = true then (if (inR a2 0 31 && inR a3 0 31) = true then 1 else (-3)) else (-2)) ∧ u = ((if (inR a1 0 1 && (inR a2 0 31 && inR a3 0 31)) = true then upd fl a1.toNatClampNeg a2 else fl), (if (inR a1 0 1 && (inR a2 0 31 && inR a3 0 31)) = true then upd wa a1.toNatClampNeg a3 else wa)))  a1 a2 a3 fl wa := by
  unfold v_X4_session_0
  simp only [bI_0, Bool.not_eq_false]
  refine ⟨fun h => ?_, fun h => ⟨fun h2 => ?_, fun h2 => ⟨fun h3 => ?_, fun h3 => ?_⟩⟩⟩
  · simp [h]
  · simp [h, h2]
  · simp [h, h3]
  · have hv : vp_in a1 2 := inB_in (n := 2) (by rw [← inR_b (m := 1) (by omega)]; exact h) (Nat.le_refl _) (by omega)
    refine ⟨hv, hv, ?_⟩
    simp [h, h2, h3]
theorem h_X4_seats (n : Nat) (li : Int32) (wm : Int32) (ch : Int32) (ne : Int32) (np : Int32) (al : Int32) (wo : Int32) (kn : Nat → Int32) (sp : Nat → Int32) (py : Nat → Int32) (il : Nat → Int32) (fl : Nat → Int32) (wa : Nat → Int32) (bo : Nat → Int32) (so : Nat → Int32) (sd : Nat → Int32) (ro : Nat → Int32) (cp : Nat → Int32) (nr : Nat → Int32) (ti : Nat → Int32) (on : Nat → Int32) (he : Nat → Int32) (la : Nat → Int32) (se : Int32) (a1 : Int32) (hn : n ≤ 6) : v_X4_seats_0 n li wm ch ne np al wo kn sp py il fl wa bo so sd ro cp nr ti on he la (fun r u => r = (if inR a1 1 2 = true then se else (-3)) ∧ u = (if inR a1 1 2 = true then a1 else se))  a1 se := by
  unfold v_X4_seats_0
  simp only [bI_0, Bool.not_eq_false]
  refine ⟨fun h => ?_, fun h => ?_⟩ <;> simp [h]
theorem h_X4_isTeam (n : Nat) (se : Int32) (li : Int32) (wm : Int32) (ch : Int32) (ne : Int32) (np : Int32) (al : Int32) (wo : Int32) (kn : Nat → Int32) (sp : Nat → Int32) (py : Nat → Int32) (il : Nat → Int32) (fl : Nat → Int32) (wa : Nat → Int32) (bo : Nat → Int32) (so : Nat → Int32) (sd : Nat → Int32) (ro : Nat → Int32) (cp : Nat → Int32) (nr : Nat → Int32) (ti : Nat → Int32) (on : Nat → Int32) (he : Nat → Int32) (la : Nat → Int32) (a1 : Int32) (hn : n ≤ 6) (h0 : inB a1 2 = true) (K4 : Int32 → Int32 → Int32 → Prop) (K85 : Int32 → Int32 → Int32 → Prop) (K100 : Int32 → Int32 → Int32 → Int32 → Prop) (R4 : ∀ x1 x2 x3, v_X4_isTeam_4 n se li wm ch ne np al wo kn sp py il fl wa bo so sd ro cp nr ti on he la (fun r _ => r = bI (itF n sp il (wa a1.toNatClampNeg) se ro)) K4 K85 K100 x1 x2 x3 → K4 x1 x2 x3) (R85 : ∀ x1 x2 x3, v_X4_isTeam_85 n se li wm ch ne np al wo kn sp py il fl wa bo so sd ro cp nr ti on he la (fun r _ => r = bI (itF n sp il (wa a1.toNatClampNeg) se ro)) K4 K85 K100 x1 x2 x3 → K85 x1 x2 x3) (R100 : ∀ x1 x3 x4 x5, v_X4_isTeam_100 n se li wm ch ne np al wo kn sp py il fl wa bo so sd ro cp nr ti on he la (fun r _ => r = bI (itF n sp il (wa a1.toNatClampNeg) se ro)) K4 K85 K100 x1 x3 x4 x5 → K100 x1 x3 x4 x5) : v_X4_isTeam_0 n se li wm ch ne np al wo kn sp py il fl wa bo so sd ro cp nr ti on he la (fun r _ => r = bI (itF n sp il (wa a1.toNatClampNeg) se ro)) K4 K85 K100 a1 := by
  unfold v_X4_isTeam_0
  have hv : vp_in a1 2 := inB_in (n := 2) h0 (Nat.le_refl _) (by omega)
  generalize hw0 : wa a1.toNatClampNeg = w at *
  -- the booths' loop
  have key2 : K85 a1 (bI (itA sp il w ro n)) (0 : Int32) := by
    have k2 := up_ind (fun t => K85 a1 (bI (itA sp il w ro n && itB n w se ro t)) (nI t)) 5 (R85 _ _ _ ?_) (fun t ht ih => R85 _ _ _ ?_)
    · have e0 : (itA sp il w ro n && itB n w se ro 0) = itA sp il w ro n := by simp [itB]
      have k2b : K85 a1 (bI (itA sp il w ro n && itB n w se ro 0)) (nI 0) := k2
      rw [e0] at k2b
      exact k2b
    · refine ⟨fun _ => ⟨bI_nar _, rfl⟩, fun h => absurd (nI_le (a := 5) (b := 5) (Nat.le_refl _) (by omega)) h⟩
    · refine ⟨fun h => absurd h (nI_ge (b := 5) ht (by omega)), fun _ => ?_⟩
      simp only [bI_0, Bool.not_eq_false]
      refine ⟨fun hf => ⟨bI_nar _, ?_⟩, fun hf => ?_⟩
      · have e : (itA sp il w ro n && itB n w se ro 5) = false := by
          rcases Bool.and_eq_false_iff.mp hf with q | q
          · simp [q]
          · simp [itB_no q 5 (by omega)]
        rw [hf, itF, e]
      · have k3 := up_ind (fun k => K100 a1 (nI t) (cnT ro (nI t) k) (nI k)) n (R100 _ _ _ _ ?_) (fun k hk ih3 => R100 _ _ _ _ ?_)
        · exact k3
        · refine ⟨fun _ => ⟨hv, ?_⟩, fun h => absurd (nI_le (Nat.le_refl _) (by omega)) h⟩
          rw [hw0]
          simp only [bI_0, Bool.not_eq_false, v_X4_isTeam_158, v_X4_isTeam_163, nI_1]
          refine ⟨fun g => ?_, fun g => ⟨fun g2 => ?_, fun g2 => ?_⟩⟩
          · have e : (itA sp il w ro n && itB n w se ro (t + 1)) = true := by
              rw [Bool.and_eq_true] at hf ⊢
              exact ⟨hf.1, by simp [itB, hf.2, g]⟩
            rw [e] at ih; exact ih
          · have e : (itA sp il w ro n && itB n w se ro (t + 1)) = true := by
              rw [Bool.and_eq_true] at hf ⊢
              exact ⟨hf.1, by simp [itB, hf.2, g2]⟩
            rw [e] at ih; exact ih
          · have e : (itA sp il w ro n && itB n w se ro (t + 1)) = false := by simp [itB, g, g2]
            rw [e] at ih; exact ih
        · refine ⟨fun h => absurd h (nI_ge hk (by omega)), fun _ => ⟨vp_in_nI (by omega) (by omega), ?_⟩⟩
          have ec : (nI k).toNatClampNeg = k := nI_clamp (by omega)
          simp only [v_X4_isTeam_127, nI_1, ec]
          refine ⟨fun g => ?_, fun g => ?_⟩
          · simpa only [cnT, sI, if_pos g] using ih3
          · simpa only [cnT, sI, if_neg g] using ih3
  have key := up_ind (fun k => K4 a1 (bI (itA sp il w ro k)) (nI k)) n (R4 _ _ _ ?_) (fun k hk ih => R4 _ _ _ ?_)
  · exact key
  · exact ⟨fun _ => key2, fun h => absurd (nI_le (Nat.le_refl _) (by omega)) h⟩
  · refine ⟨fun h => absurd h (nI_ge hk (by omega)), fun _ => ?_⟩
    have ec : (nI k).toNatClampNeg = k := nI_clamp (by omega)
    have h6 : vp_in (nI k) 6 := vp_in_nI (by omega) (by omega)
    simp only [bI_0, Bool.not_eq_false, v_X4_isTeam_83, v_X4_isTeam_71, v_X4_isTeam_75, v_X4_isTeam_76, nI_1, ec, hw0]
    refine ⟨fun hf => ?_, fun hf => ⟨h6, fun g => ?_, fun g => ⟨hv, h6, fun g2 => ?_, fun g2 => ⟨h6, h6, fun g3 => ?_, fun g3 => ⟨h6, fun g4 => ?_, fun g4 => ?_⟩⟩⟩⟩⟩
    · have e := itA_no hf n (by omega)
      rw [hf]; rw [e] at key2; exact key2
    · have e : itA sp il w ro (k + 1) = true := by simp [itA, hf, g]
      rw [e] at ih; exact ih
    · have e : itA sp il w ro (k + 1) = false := by simp [itA, g, g2]
      rw [e] at ih; exact ih
    · have e : itA sp il w ro (k + 1) = false := by simp [itA, g, g3]
      rw [e] at ih; exact ih
    · have e : itA sp il w ro (k + 1) = true := by simp [itA, hf, g2, g3, g4]
      rw [e] at ih; exact ih
    · have e : itA sp il w ro (k + 1) = false := by simp [itA, g, g4]
      rw [e] at ih; exact ih
theorem h_X4_allKnow (n : Nat) (se : Int32) (li : Int32) (wm : Int32) (ch : Int32) (ne : Int32) (np : Int32) (al : Int32) (wo : Int32) (kn : Nat → Int32) (sp : Nat → Int32) (py : Nat → Int32) (il : Nat → Int32) (fl : Nat → Int32) (wa : Nat → Int32) (bo : Nat → Int32) (so : Nat → Int32) (sd : Nat → Int32) (ro : Nat → Int32) (cp : Nat → Int32) (nr : Nat → Int32) (ti : Nat → Int32) (on : Nat → Int32) (he : Nat → Int32) (la : Nat → Int32) (a1 : Int32) (a2 : Int32) (hn : n ≤ 6) (K5 : Int32 → Int32 → Int32 → Int32 → Prop) (R5 : ∀ x1 x2 x3 x4, v_X4_allKnow_5 n se li wm ch ne np al wo kn sp py il fl wa bo so sd ro cp nr ti on he la (fun r _ => r = bI (akF kn ro a1 a2 n)) K5 x1 x2 x3 x4 → K5 x1 x2 x3 x4) : v_X4_allKnow_0 n se li wm ch ne np al wo kn sp py il fl wa bo so sd ro cp nr ti on he la (fun r _ => r = bI (akF kn ro a1 a2 n)) K5 a1 a2 := by
  unfold v_X4_allKnow_0
  have key := up_ind (fun k => K5 a1 a2 (bI (akF kn ro a1 a2 k)) (nI k)) n (R5 _ _ _ _ ?_) (fun k hk ih => R5 _ _ _ _ ?_)
  · exact key
  · exact ⟨fun _ => ⟨bI_nar _, rfl⟩, fun h => absurd (nI_le (Nat.le_refl _) (by omega)) h⟩
  · refine ⟨fun h => absurd h (nI_ge hk (by omega)), fun _ => ?_⟩
    have ec : (nI k).toNatClampNeg = k := nI_clamp (by omega)
    have h6 : vp_in (nI k) 6 := vp_in_nI (by omega) (by omega)
    simp only [bI_0, Bool.not_eq_false, v_X4_allKnow_47, v_X4_allKnow_43, v_X4_allKnow_48, nI_1, ec]
    refine ⟨fun hf => ?_, fun hf => ⟨h6, fun g => ⟨h6, fun g2 => ?_, fun g2 => ?_⟩, fun g => ?_⟩⟩
    · have e : akF kn ro a1 a2 (k + 1) = false := by simp [akF, hf]
      rw [e] at ih; exact ih
    · have e : akF kn ro a1 a2 (k + 1) = false := by simp [akF, g, g2]
      rw [e] at ih; exact ih
    · have e : akF kn ro a1 a2 (k + 1) = true := by simp [akF, hf, g2]
      rw [e] at ih; exact ih
    · have e : akF kn ro a1 a2 (k + 1) = true := by simp [akF, hf, g]
      rw [e] at ih; exact ih
theorem h_X4_isWhole (n : Nat) (se : Int32) (li : Int32) (wm : Int32) (ch : Int32) (ne : Int32) (np : Int32) (al : Int32) (wo : Int32) (kn : Nat → Int32) (sp : Nat → Int32) (py : Nat → Int32) (il : Nat → Int32) (fl : Nat → Int32) (wa : Nat → Int32) (bo : Nat → Int32) (so : Nat → Int32) (sd : Nat → Int32) (ro : Nat → Int32) (cp : Nat → Int32) (nr : Nat → Int32) (ti : Nat → Int32) (on : Nat → Int32) (he : Nat → Int32) (la : Nat → Int32) (a1 : Int32) (hn : n ≤ 6) (h0 : inB a1 2 = true) (K4 : Int32 → Int32 → Int32 → Prop) (K12 : Int32 → Int32 → Int32 → Int32 → Prop) (K63 : Int32 → Int32 → Int32 → Int32 → Int32 → Int32 → Prop) (R4 : ∀ x1 x2 x3, v_X4_isWhole_4 n se li wm ch ne np al wo kn sp py il fl wa bo so sd ro cp nr ti on he la (fun r _ => r = bI (iwF n kn (fl a1.toNatClampNeg) (wa a1.toNatClampNeg) ro)) K4 K12 K63 x1 x2 x3 → K4 x1 x2 x3) (R12 : ∀ x1 x2 x3 x4, v_X4_isWhole_12 n se li wm ch ne np al wo kn sp py il fl wa bo so sd ro cp nr ti on he la (fun r _ => r = bI (iwF n kn (fl a1.toNatClampNeg) (wa a1.toNatClampNeg) ro)) K4 K12 K63 x1 x2 x3 x4 → K12 x1 x2 x3 x4) (R63 : ∀ x1 x2 x3 x4 x5 x6, v_X4_isWhole_63 n se li wm ch ne np al wo kn sp py il fl wa bo so sd ro cp nr ti on he la (fun r _ => r = bI (iwF n kn (fl a1.toNatClampNeg) (wa a1.toNatClampNeg) ro)) K4 K12 K63 x1 x2 x3 x4 x5 x6 → K63 x1 x2 x3 x4 x5 x6) : v_X4_isWhole_0 n se li wm ch ne np al wo kn sp py il fl wa bo so sd ro cp nr ti on he la (fun r _ => r = bI (iwF n kn (fl a1.toNatClampNeg) (wa a1.toNatClampNeg) ro)) K4 K12 K63 a1 := by
  unfold v_X4_isWhole_0
  have hv : vp_in a1 2 := inB_in (n := 2) h0 (Nat.le_refl _) (by omega)
  generalize hw0 : wa a1.toNatClampNeg = w at *
  generalize hf0 : fl a1.toNatClampNeg = fw at *
  have key := up_ind (fun f => K4 a1 (bI (iwL n kn fw w ro f)) (nI f)) 5 (R4 _ _ _ ?_) (fun f hf ih => R4 _ _ _ ?_)
  · exact key
  · exact ⟨fun _ => ⟨bI_nar _, rfl⟩, fun h => absurd (nI_le (a := 5) (b := 5) (Nat.le_refl _) (by omega)) h⟩
  · refine ⟨fun h => absurd h (nI_ge (b := 5) hf (by omega)), fun _ => ?_⟩
    have k2 := up_ind (fun t => K12 a1 (bI (iwT n kn fw w ro (nI f) (iwL n kn fw w ro f) t)) (nI f) (nI t)) 5 (R12 _ _ _ _ ?_) (fun t ht ih2 => R12 _ _ _ _ ?_)
    · exact k2
    · refine ⟨fun _ => ?_, fun h => absurd (nI_le (a := 5) (b := 5) (Nat.le_refl _) (by omega)) h⟩
      rw [nI_1]; exact ih
    · refine ⟨fun h => absurd h (nI_ge (b := 5) ht (by omega)), fun _ => ⟨hv, ?_⟩⟩
      rw [hf0, hw0]
      simp only [bI_0, Bool.not_eq_false, v_X4_isWhole_150, nI_1]
      have same : (hs fw (nI f) && (hs w (nI t) && !decide (nI t = nI f))) = false → K12 a1 (bI (iwT n kn fw w ro (nI f) (iwL n kn fw w ro f) t)) (nI f) (nI (t + 1)) := by
        intro hq
        have e : iwT n kn fw w ro (nI f) (iwL n kn fw w ro f) (t + 1) = iwT n kn fw w ro (nI f) (iwL n kn fw w ro f) t := by simp [iwT, hq]
        rw [e] at ih2; exact ih2
      refine ⟨fun g => same (by simp [g]), fun g => ⟨hv, fun g2 => same (by simp [g2]), fun g2 => ⟨fun g3 => same (by simp [g3]), fun g3 => ?_⟩⟩⟩
      have hyes : (hs fw (nI f) && (hs w (nI t) && !decide (nI t = nI f))) = true := by simp [g, g2, g3]
      have e1 : iwT n kn fw w ro (nI f) (iwL n kn fw w ro f) (t + 1) = (iwT n kn fw w ro (nI f) (iwL n kn fw w ro f) t && iwR n kn w ro (nI f) (nI t) 5) := by simp [iwT, hyes]
      have k3 := up_ind (fun r => K63 a1 (bI (iwT n kn fw w ro (nI f) (iwL n kn fw w ro f) t)) (nI f) (nI t) (bI (iwR n kn w ro (nI f) (nI t) r)) (nI r)) 5 (R63 _ _ _ _ _ _ ?_) (fun r hr ih3 => R63 _ _ _ _ _ _ ?_)
      · exact k3
      · refine ⟨fun _ => ?_, fun h => absurd (nI_le (a := 5) (b := 5) (Nat.le_refl _) (by omega)) h⟩
        simp only [bI_0, Bool.not_eq_false, v_X4_isWhole_148, v_X4_isWhole_149, v_X4_isWhole_150, nI_1]
        rw [e1] at ih2
        refine ⟨fun q => ?_, fun q => ⟨fun q2 => ?_, fun q2 => ?_⟩⟩
        · rw [q] at ih2; exact ih2
        · rw [q2, Bool.and_false] at ih2; exact ih2
        · rw [q, q2] at ih2; exact ih2
      · refine ⟨fun h => absurd h (nI_ge (b := 5) hr (by omega)), fun _ => ?_⟩
        rw [hw0]
        simp only [bI_0, Bool.not_eq_false, v_X4_isWhole_126, v_X4_isWhole_122, v_X4_isWhole_127, nI_1]
        refine ⟨fun q => ⟨hv, fun q2 => ?_, fun q2 => ⟨fun q3 => ?_, fun q3 => ⟨fun q4 => ?_, fun q4 => ⟨fun q5 => ?_, fun q5 => ⟨fun q6 => ?_, fun q6 => ?_⟩⟩⟩⟩⟩, fun q => ?_⟩
        · have e : iwR n kn w ro (nI f) (nI t) (r + 1) = false := by simp [iwR, q, iwC, q2]
          rw [e] at ih3; exact ih3
        · have e : iwR n kn w ro (nI f) (nI t) (r + 1) = false := by simp [iwR, q, iwC, q3]
          rw [e] at ih3; exact ih3
        · have e : iwR n kn w ro (nI f) (nI t) (r + 1) = false := by simp [iwR, q, iwC, q4]
          rw [e] at ih3; exact ih3
        · have e : iwR n kn w ro (nI f) (nI t) (r + 1) = false := by simp [iwR, q, iwC, q5]
          rw [e] at ih3; exact ih3
        · have e : iwR n kn w ro (nI f) (nI t) (r + 1) = false := by simp [iwR, q, iwC, q6]
          rw [e] at ih3; exact ih3
        · have e : iwR n kn w ro (nI f) (nI t) (r + 1) = true := by simp [iwR, iwC, q2, q3, q4, q5, q6]
          rw [e] at ih3; exact ih3
        · have e : iwR n kn w ro (nI f) (nI t) (r + 1) = true := by simp [iwR, q]
          rw [e] at ih3; exact ih3
theorem h_X4_seated (n : Nat) (se : Int32) (li : Int32) (wm : Int32) (ch : Int32) (ne : Int32) (np : Int32) (al : Int32) (wo : Int32) (kn : Nat → Int32) (sp : Nat → Int32) (py : Nat → Int32) (il : Nat → Int32) (fl : Nat → Int32) (wa : Nat → Int32) (bo : Nat → Int32) (so : Nat → Int32) (sd : Nat → Int32) (ro : Nat → Int32) (cp : Nat → Int32) (nr : Nat → Int32) (ti : Nat → Int32) (on : Nat → Int32) (he : Nat → Int32) (la : Nat → Int32) (hn : n ≤ 6) (K4 : Int32 → Int32 → Prop) (R4 : ∀ x1 x2, v_X4_seated_4 n se li wm ch ne np al wo kn sp py il fl wa bo so sd ro cp nr ti on he la (fun r _ => r = sI (fun k => if bo k < 5 then 1 else 0) n) K4 x1 x2 → K4 x1 x2) : v_X4_seated_0 n se li wm ch ne np al wo kn sp py il fl wa bo so sd ro cp nr ti on he la (fun r _ => r = sI (fun k => if bo k < 5 then 1 else 0) n) K4 := by
  unfold v_X4_seated_0
  have key := up_ind (fun k => K4 (sI (fun k => if bo k < 5 then 1 else 0) k) (nI k)) n (R4 _ _ ?_) (fun k hk ih => R4 _ _ ?_)
  · exact key
  · exact ⟨fun _ => rfl, fun h => absurd (nI_le (Nat.le_refl _) (by omega)) h⟩
  · refine ⟨fun h => absurd h (nI_ge hk (by omega)), fun _ => ⟨vp_in_nI (by omega) (by omega), ?_⟩⟩
    have ec : (nI k).toNatClampNeg = k := nI_clamp (by omega)
    simp only [v_X4_seated_28, nI_1, ec]
    refine ⟨fun g => ?_, fun g => ?_⟩
    · have g2 : ¬ bo k < 5 := Int32.not_lt.mpr g
      simpa only [sI, if_neg g2] using ih
    · have g2 : bo k < 5 := Int32.not_le.mp g
      simpa only [sI, if_pos g2] using ih
theorem h_X4_leave (n : Nat) (se : Int32) (li : Int32) (wm : Int32) (ch : Int32) (ne : Int32) (np : Int32) (al : Int32) (wo : Int32) (kn : Nat → Int32) (sp : Nat → Int32) (py : Nat → Int32) (il : Nat → Int32) (fl : Nat → Int32) (wa : Nat → Int32) (so : Nat → Int32) (sd : Nat → Int32) (ro : Nat → Int32) (cp : Nat → Int32) (nr : Nat → Int32) (ti : Nat → Int32) (on : Nat → Int32) (he : Nat → Int32) (la : Nat → Int32) (bo : Nat → Int32) (hn : n ≤ 6) (K7 : Int32 → Int32 → (Nat → Int32) → Prop) (R7 : ∀ x1 x2 bo_, v_X4_leave_7 n se li wm ch ne np al wo kn sp py il fl wa so sd ro cp nr ti on he la (fun r u => r = sI (fun k => if bo k < 5 then 1 else 0) n ∧ u = fillA bo 6 5) K7 x1 x2 bo_ → K7 x1 x2 bo_) : v_X4_leave_0 n se li wm ch ne np al wo kn sp py il fl wa so sd ro cp nr ti on he la (fun r u => r = sI (fun k => if bo k < 5 then 1 else 0) n ∧ u = fillA bo 6 5) K7  bo := by
  unfold v_X4_leave_0
  generalize sI (fun k => if bo k < 5 then 1 else 0) n = r at *
  have key := up_ind (fun k => K7 r (nI k) (fillA bo k 5)) 6 (R7 _ _ _ ?_) (fun k hk ih => R7 _ _ _ ?_)
  · have e : fillA bo 0 5 = bo := by funext j; simp [fillA]
    rw [e] at key; exact key
  · exact ⟨fun _ => ⟨rfl, rfl⟩, fun h => absurd (nI_le (a := 6) (b := 6) (Nat.le_refl _) (by omega)) h⟩
  · refine ⟨fun h => absurd h (nI_ge (b := 6) hk (by omega)), fun _ => ⟨vp_in_nI hk (by omega), ?_⟩⟩
    have ec : (nI k).toNatClampNeg = k := nI_clamp (by omega)
    rw [nI_1, ec]
    have e : upd (fillA bo k 5) k 5 = fillA bo (k + 1) 5 := by
      funext j
      simp only [upd, fillA]
      by_cases h1 : j = k
      · subst h1; simp
      · have h2 : (j < k + 1) = (j < k) := by apply propext; omega
        simp [h1, h2]
    rw [e]; exact ih
theorem h_X4_booth (n : Nat) (se : Int32) (li : Int32) (wm : Int32) (ch : Int32) (ne : Int32) (np : Int32) (al : Int32) (wo : Int32) (kn : Nat → Int32) (sp : Nat → Int32) (py : Nat → Int32) (il : Nat → Int32) (fl : Nat → Int32) (wa : Nat → Int32) (bo : Nat → Int32) (so : Nat → Int32) (sd : Nat → Int32) (ro : Nat → Int32) (cp : Nat → Int32) (nr : Nat → Int32) (ti : Nat → Int32) (on : Nat → Int32) (he : Nat → Int32) (la : Nat → Int32) (a1 : Int32) (hn : n ≤ 6) : v_X4_booth_0 n se li wm ch ne np al wo kn sp py il fl wa bo so sd ro cp nr ti on he la (fun r _ => r = (if inR a1 0 (nI n - 1) = true then bo a1.toNatClampNeg else (-2)))  a1 := by
  unfold v_X4_booth_0
  simp only [bI_0, Bool.not_eq_false]
  refine ⟨fun h => ?_, fun h => ⟨inB_in (n := n) (by rw [← inR_p hn]; exact h) hn (by omega), ?_⟩⟩
  · simp [h]
  · simp [h]
theorem h_X4_lacking (n : Nat) (se : Int32) (li : Int32) (wm : Int32) (ch : Int32) (ne : Int32) (np : Int32) (al : Int32) (wo : Int32) (kn : Nat → Int32) (sp : Nat → Int32) (py : Nat → Int32) (il : Nat → Int32) (fl : Nat → Int32) (wa : Nat → Int32) (bo : Nat → Int32) (so : Nat → Int32) (sd : Nat → Int32) (ro : Nat → Int32) (cp : Nat → Int32) (nr : Nat → Int32) (ti : Nat → Int32) (on : Nat → Int32) (he : Nat → Int32) (la : Nat → Int32) (a1 : Int32) (hn : n ≤ 6) (K14 : Int32 → Int32 → Int32 → Prop) (K25 : Int32 → Int32 → Int32 → Int32 → Int32 → Prop) (R14 : ∀ x1 x2 x3, v_X4_lacking_14 n se li wm ch ne np al wo kn sp py il fl wa bo so sd ro cp nr ti on he la (fun r _ => r = (if inR a1 0 1 = true then rlF n il sp (wa a1.toNatClampNeg) se 5 else (-2))) K14 K25 x1 x2 x3 → K14 x1 x2 x3) (R25 : ∀ x1 x2 x3 x4 x5, v_X4_lacking_25 n se li wm ch ne np al wo kn sp py il fl wa bo so sd ro cp nr ti on he la (fun r _ => r = (if inR a1 0 1 = true then rlF n il sp (wa a1.toNatClampNeg) se 5 else (-2))) K14 K25 x1 x2 x3 x4 x5 → K25 x1 x2 x3 x4 x5) : v_X4_lacking_0 n se li wm ch ne np al wo kn sp py il fl wa bo so sd ro cp nr ti on he la (fun r _ => r = (if inR a1 0 1 = true then rlF n il sp (wa a1.toNatClampNeg) se 5 else (-2))) K14 K25 a1 := by
  unfold v_X4_lacking_0
  simp only [bI_0, Bool.not_eq_false]
  refine ⟨fun h => ?_, fun h => ?_⟩
  · simp [h]
  · have hv : vp_in a1 2 := inB_in (n := 2) (by rw [← inR_b (m := 1) (by omega)]; exact h) (Nat.le_refl _) (by omega)
    rw [if_pos h] at R14 R25
    generalize hw0 : wa a1.toNatClampNeg = w at *
    have key := up_ind (fun t => K14 a1 (rlF n il sp w se t) (nI t)) 5 (R14 _ _ _ ?_) (fun t ht ih => R14 _ _ _ ?_)
    · exact key
    · exact ⟨fun _ => rfl, fun h => absurd (nI_le (a := 5) (b := 5) (Nat.le_refl _) (by omega)) h⟩
    · refine ⟨fun h => absurd h (nI_ge (b := 5) ht (by omega)), fun _ => ?_⟩
      have k2 := up_ind (fun k => K25 a1 (rlF n il sp w se t) (nI t) (rlC n il sp (nI t) k) (nI k)) n (R25 _ _ _ _ _ ?_) (fun k hk ih2 => R25 _ _ _ _ _ ?_)
      · exact k2
      · refine ⟨fun _ => ⟨hv, ?_⟩, fun h => absurd (nI_le (Nat.le_refl _) (by omega)) h⟩
        rw [hw0]
        simp only [bI_0, Bool.not_eq_false, v_X4_lacking_103, v_X4_lacking_104, nI_1]
        refine ⟨fun g => ?_, fun g => ⟨fun g2 => ?_, fun g2 => ?_⟩⟩
        · simpa [rlF, g] using ih
        · simpa [rlF, g2] using ih
        · simpa [rlF, g, g2] using ih
      · refine ⟨fun h => absurd h (nI_ge hk (by omega)), fun _ => ⟨vp_in_nI (by omega) (by omega), ?_⟩⟩
        have ec : (nI k).toNatClampNeg = k := nI_clamp (by omega)
        have h6 : vp_in (nI k) 6 := vp_in_nI (by omega) (by omega)
        simp only [bI_0, Bool.not_eq_false, v_X4_lacking_64, v_X4_lacking_65, nI_1, ec]
        refine ⟨fun g => ⟨h6, fun g2 => ?_, fun g2 => ?_⟩, fun g => ?_⟩
        · simpa [rlC, sI, g2] using ih2
        · simpa [rlC, sI, g, g2] using ih2
        · simpa [rlC, sI, g] using ih2
theorem h_X4_speak (n : Nat) (se : Int32) (li : Int32) (wm : Int32) (ch : Int32) (ne : Int32) (np : Int32) (al : Int32) (wo : Int32) (kn : Nat → Int32) (sp : Nat → Int32) (py : Nat → Int32) (il : Nat → Int32) (fl : Nat → Int32) (wa : Nat → Int32) (bo : Nat → Int32) (ro : Nat → Int32) (cp : Nat → Int32) (nr : Nat → Int32) (ti : Nat → Int32) (on : Nat → Int32) (he : Nat → Int32) (la : Nat → Int32) (so : Nat → Int32) (sd : Nat → Int32) (a1 : Int32) (a2 : Int32) (a3 : Int32) (hn : n ≤ 6) : v_X4_speak_0 n se li wm ch ne np al wo kn sp py il fl wa bo ro cp nr ti on he la (fun r u => r = (if (inR a1 0 15 && inR a2 0 4) = true then (if inR a3 1 9 = true then 1 else (-3)) else (-2)) ∧ u = ((if (inR a1 0 15 && (inR a2 0 4 && inR a3 1 9)) = true then upd so a1.toNatClampNeg a2 else so), (if (inR a1 0 15 && (inR a2 0 4 && inR a3 1 9)) = true then upd sd a1.toNatClampNeg a3 else sd)))  a1 a2 a3 so sd := by
  unfold v_X4_speak_0
  simp only [bI_0, Bool.not_eq_false]
  refine ⟨fun h => ?_, fun h => ⟨fun h2 => ?_, fun h2 => ⟨fun h3 => ?_, fun h3 => ?_⟩⟩⟩
  · simp [h]
  · simp [h2]
  · simp [h, h2, h3]
  · have hv : vp_in a1 16 := inB_in (n := 16) (by rw [← inR_b (m := 15) (by omega)]; exact h) (Nat.le_refl _) (by omega)
    refine ⟨hv, hv, ?_⟩
    simp [h, h2, h3]
theorem h_X4_silence (n : Nat) (se : Int32) (li : Int32) (wm : Int32) (ch : Int32) (ne : Int32) (np : Int32) (al : Int32) (wo : Int32) (kn : Nat → Int32) (sp : Nat → Int32) (py : Nat → Int32) (il : Nat → Int32) (fl : Nat → Int32) (wa : Nat → Int32) (bo : Nat → Int32) (sd : Nat → Int32) (ro : Nat → Int32) (cp : Nat → Int32) (nr : Nat → Int32) (ti : Nat → Int32) (on : Nat → Int32) (he : Nat → Int32) (la : Nat → Int32) (so : Nat → Int32) (a1 : Int32) (hn : n ≤ 6) : v_X4_silence_0 n se li wm ch ne np al wo kn sp py il fl wa bo sd ro cp nr ti on he la (fun r u => r = (if inR a1 0 15 = true then bI (!decide (so a1.toNatClampNeg = -1)) else (-2)) ∧ u = (if inR a1 0 15 = true then upd so a1.toNatClampNeg (-1) else so))  a1 so := by
  unfold v_X4_silence_0
  simp only [bI_0, Bool.not_eq_false, v_X4_silence_25]
  refine ⟨fun h => ?_, fun h => ?_⟩
  · simp [h]
  · have hv : vp_in a1 16 := inB_in (n := 16) (by rw [← inR_b (m := 15) (by omega)]; exact h) (Nat.le_refl _) (by omega)
    refine ⟨hv, fun h2 => ⟨hv, ?_⟩, fun h2 => ⟨hv, ?_⟩⟩
    · simp [h, h2, bI]
    · simp [h, h2, bI]
theorem h_X4_limit (n : Nat) (se : Int32) (wm : Int32) (ch : Int32) (ne : Int32) (np : Int32) (al : Int32) (wo : Int32) (kn : Nat → Int32) (sp : Nat → Int32) (py : Nat → Int32) (il : Nat → Int32) (fl : Nat → Int32) (wa : Nat → Int32) (bo : Nat → Int32) (so : Nat → Int32) (sd : Nat → Int32) (ro : Nat → Int32) (cp : Nat → Int32) (nr : Nat → Int32) (ti : Nat → Int32) (on : Nat → Int32) (he : Nat → Int32) (la : Nat → Int32) (li : Int32) (a1 : Int32) (hn : n ≤ 6) : v_X4_limit_0 n se wm ch ne np al wo kn sp py il fl wa bo so sd ro cp nr ti on he la (fun r u => r = (if inR a1 5 60 = true then li else (-3)) ∧ u = (if inR a1 5 60 = true then a1 else li))  a1 li := by
  unfold v_X4_limit_0
  simp only [bI_0, Bool.not_eq_false]
  refine ⟨fun h => ?_, fun h => ?_⟩ <;> simp [h]
theorem h_X4_knowsIt (n : Nat) (se : Int32) (li : Int32) (wm : Int32) (ch : Int32) (ne : Int32) (np : Int32) (al : Int32) (wo : Int32) (kn : Nat → Int32) (sp : Nat → Int32) (py : Nat → Int32) (il : Nat → Int32) (fl : Nat → Int32) (wa : Nat → Int32) (bo : Nat → Int32) (so : Nat → Int32) (sd : Nat → Int32) (ro : Nat → Int32) (cp : Nat → Int32) (nr : Nat → Int32) (ti : Nat → Int32) (on : Nat → Int32) (he : Nat → Int32) (la : Nat → Int32) (a1 : Int32) (a2 : Int32) (hn : n ≤ 6) (h0 : a1 = -1 ∨ inB a1 6 = true) : v_X4_knowsIt_0 n se li wm ch ne np al wo kn sp py il fl wa bo so sd ro cp nr ti on he la (fun r _ => r = bI (!decide (a1 = -1) && hs (kn a1.toNatClampNeg) a2))  a1 a2 := by
  unfold v_X4_knowsIt_0
  simp only [bI_0, Bool.not_eq_false]
  refine ⟨fun h => ?_, fun h => ⟨?_, fun h2 => ?_, fun h2 => ?_⟩⟩
  · simp [h, bI]
  · rcases h0 with q | q
    · exact absurd q h
    · exact inB_in (n := 6) q (Nat.le_refl _) (by omega)
  · simp [h2, bI]
  · simp [h, h2, bI]
theorem h_X4_findTeams (n : Nat) (se : Int32) (li : Int32) (wo : Int32) (kn : Nat → Int32) (sp : Nat → Int32) (py : Nat → Int32) (il : Nat → Int32) (fl : Nat → Int32) (wa : Nat → Int32) (bo : Nat → Int32) (so : Nat → Int32) (sd : Nat → Int32) (ti : Nat → Int32) (on : Nat → Int32) (he : Nat → Int32) (la : Nat → Int32) (wm : Int32) (ch : Int32) (ne : Int32) (np : Int32) (al : Int32) (ro : Nat → Int32) (cp : Nat → Int32) (nr : Nat → Int32) (a1 : Int32) (hn : n ≤ 6) (h0 : inB a1 2 = true) (K25 : Int32 → Int32 → Int32 → Int32 → Int32 → Int32 → Int32 → Int32 → (Nat → Int32) → (Nat → Int32) → (Nat → Int32) → Prop) (K46 : Int32 → Int32 → Int32 → Int32 → Int32 → Int32 → Int32 → Int32 → (Nat → Int32) → (Nat → Int32) → (Nat → Int32) → Prop) (K62 : Int32 → Int32 → Int32 → Int32 → Int32 → Int32 → Int32 → Int32 → Int32 → Int32 → (Nat → Int32) → (Nat → Int32) → (Nat → Int32) → Prop) (K117 : Int32 → Int32 → Int32 → Int32 → Int32 → Int32 → Int32 → Int32 → Int32 → Int32 → Int32 → (Nat → Int32) → (Nat → Int32) → (Nat → Int32) → Prop) (K298 : Int32 → Int32 → Int32 → Int32 → Int32 → Int32 → Int32 → Int32 → Int32 → Int32 → Int32 → Int32 → Int32 → (Nat → Int32) → (Nat → Int32) → (Nat → Int32) → Prop) (R25 : ∀ x1 x2 x3 wm_ ch_ ne_ np_ al_ ro_ cp_ nr_, v_X4_findTeams_25 n se li wo kn sp py il fl wa bo so sd ti on he la (fun u => u = ftF n kn sp py il fl wa bo se a1 (wm, ch, ne, np, al, ro, cp, nr)) K25 K46 K62 K117 K298 x1 x2 x3 wm_ ch_ ne_ np_ al_ ro_ cp_ nr_ → K25 x1 x2 x3 wm_ ch_ ne_ np_ al_ ro_ cp_ nr_) (R46 : ∀ x1 x2 x3 wm_ ch_ ne_ np_ al_ ro_ cp_ nr_, v_X4_findTeams_46 n se li wo kn sp py il fl wa bo so sd ti on he la (fun u => u = ftF n kn sp py il fl wa bo se a1 (wm, ch, ne, np, al, ro, cp, nr)) K25 K46 K62 K117 K298 x1 x2 x3 wm_ ch_ ne_ np_ al_ ro_ cp_ nr_ → K46 x1 x2 x3 wm_ ch_ ne_ np_ al_ ro_ cp_ nr_) (R62 : ∀ x1 x2 x3 x4 x5 wm_ ch_ ne_ np_ al_ ro_ cp_ nr_, v_X4_findTeams_62 n se li wo kn sp py il fl wa bo so sd ti on he la (fun u => u = ftF n kn sp py il fl wa bo se a1 (wm, ch, ne, np, al, ro, cp, nr)) K25 K46 K62 K117 K298 x1 x2 x3 x4 x5 wm_ ch_ ne_ np_ al_ ro_ cp_ nr_ → K62 x1 x2 x3 x4 x5 wm_ ch_ ne_ np_ al_ ro_ cp_ nr_) (R117 : ∀ x1 x2 x3 x5 x6 x7 wm_ ch_ ne_ np_ al_ ro_ cp_ nr_, v_X4_findTeams_117 n se li wo kn sp py il fl wa bo so sd ti on he la (fun u => u = ftF n kn sp py il fl wa bo se a1 (wm, ch, ne, np, al, ro, cp, nr)) K25 K46 K62 K117 K298 x1 x2 x3 x5 x6 x7 wm_ ch_ ne_ np_ al_ ro_ cp_ nr_ → K117 x1 x2 x3 x5 x6 x7 wm_ ch_ ne_ np_ al_ ro_ cp_ nr_) (R298 : ∀ x1 x2 x3 x5 x6 x7 x8 x9 wm_ ch_ ne_ np_ al_ ro_ cp_ nr_, v_X4_findTeams_298 n se li wo kn sp py il fl wa bo so sd ti on he la (fun u => u = ftF n kn sp py il fl wa bo se a1 (wm, ch, ne, np, al, ro, cp, nr)) K25 K46 K62 K117 K298 x1 x2 x3 x5 x6 x7 x8 x9 wm_ ch_ ne_ np_ al_ ro_ cp_ nr_ → K298 x1 x2 x3 x5 x6 x7 x8 x9 wm_ ch_ ne_ np_ al_ ro_ cp_ nr_) : v_X4_findTeams_0 n se li wo kn sp py il fl wa bo so sd ti on he la (fun u => u = ftF n kn sp py il fl wa bo se a1 (wm, ch, ne, np, al, ro, cp, nr)) K25 K46 K62 K117 K298 a1 wm ch ne np al ro cp nr := by
  unfold v_X4_findTeams_0
  have hv : vp_in a1 2 := inB_in (n := 2) h0 (Nat.le_refl _) (by omega)
  have h6n : 6 ^ n < 2 ^ 30 := pow6_lt hn
  have e6 : (6 : Int32) = nI 6 := rfl
  have ef : ftF n kn sp py il fl wa bo se a1 (wm, ch, ne, np, al, ro, cp, nr) = ftO (ftL n kn sp py il bo (fl a1.toNatClampNeg) (wa a1.toNatClampNeg) se ((0, -1, -1, np, 63, cp, nr), ro) (6 ^ n)) := rfl
  rw [ef] at R25 R46 R62 R117 R298
  generalize hw0 : wa a1.toNatClampNeg = w at *
  generalize hf0 : fl a1.toNatClampNeg = fw at *
  have key2 := up_ind (fun m => m ≤ 6 ^ n → K46 a1 (nI (6 ^ n)) (nI m) (ftL n kn sp py il bo fw w se ((0, -1, -1, np, 63, cp, nr), ro) m).1.1 (ftL n kn sp py il bo fw w se ((0, -1, -1, np, 63, cp, nr), ro) m).1.2.1 (ftL n kn sp py il bo fw w se ((0, -1, -1, np, 63, cp, nr), ro) m).1.2.2.1 (ftL n kn sp py il bo fw w se ((0, -1, -1, np, 63, cp, nr), ro) m).1.2.2.2.1 (ftL n kn sp py il bo fw w se ((0, -1, -1, np, 63, cp, nr), ro) m).1.2.2.2.2.1 (ftL n kn sp py il bo fw w se ((0, -1, -1, np, 63, cp, nr), ro) m).2 (ftL n kn sp py il bo fw w se ((0, -1, -1, np, 63, cp, nr), ro) m).1.2.2.2.2.2.1 (ftL n kn sp py il bo fw w se ((0, -1, -1, np, 63, cp, nr), ro) m).1.2.2.2.2.2.2) (6 ^ n) (fun _ => R46 _ _ _ _ _ _ _ _ _ _ _ ?_) (fun m hm ih => fun _ => R46 _ _ _ _ _ _ _ _ _ _ _ ?_)
  · have key1 := up_ind (fun k => K25 a1 (nI (6 ^ k)) (nI k) 0 (-1) (-1) np 63 ro cp nr) n (R25 _ _ _ _ _ _ _ _ _ _ _ ?_) (fun k hk ih => R25 _ _ _ _ _ _ _ _ _ _ _ ?_)
    · exact key1
    · exact ⟨fun _ => key2 (Nat.zero_le _), fun h => absurd (nI_le (Nat.le_refl _) (by omega)) h⟩
    · refine ⟨fun h => absurd h (nI_ge hk (by omega)), fun _ => ?_⟩
      rw [e6, pk_mul, nI_1, ← Nat.pow_succ]
      exact ih
  · exact ⟨fun _ => rfl, fun h => absurd (nI_le (Nat.le_refl _) (by omega)) h⟩
  · replace ih := ih (by omega)
    refine ⟨fun h => absurd h (nI_ge hm (by omega)), fun _ => ?_⟩
    have es : ftL n kn sp py il bo fw w se ((0, -1, -1, np, 63, cp, nr), ro) (m + 1) = ((if (itF n sp il w se (rowD n m (ftL n kn sp py il bo fw w se ((0, -1, -1, np, 63, cp, nr), ro) m).2) && iwF n kn fw w (rowD n m (ftL n kn sp py il bo fw w se ((0, -1, -1, np, 63, cp, nr), ro) m).2)) = true then rA n py bo (rowD n m (ftL n kn sp py il bo fw w se ((0, -1, -1, np, 63, cp, nr), ro) m).2) (ftL n kn sp py il bo fw w se ((0, -1, -1, np, 63, cp, nr), ro) m).1 else (ftL n kn sp py il bo fw w se ((0, -1, -1, np, 63, cp, nr), ro) m).1), rowD n m (ftL n kn sp py il bo fw w se ((0, -1, -1, np, 63, cp, nr), ro) m).2) := rfl
    rw [es] at ih
    clear es
    generalize ftL n kn sp py il bo fw w se ((0, -1, -1, np, 63, cp, nr), ro) m = y at ih ⊢
    obtain ⟨⟨wm0, ch0, ne0, np0, al0, cp0, nr0⟩, ro0⟩ := y
    dsimp only at ih ⊢
    generalize hrow : rowD n m ro0 = row at ih
    have hM : m < 2 ^ 30 := by omega
    have key3 : ∀ j l r, j ≤ n → l < 2 ^ 30 → rowD j l r = row → K62 a1 (nI (6 ^ n)) (nI m) (nI l) (nI j - 1) wm0 ch0 ne0 np0 al0 r cp0 nr0 := by
      intro j
      induction j with
      | zero =>
        intro l r hj hl hr
        have hr2 : r = row := hr
        subst hr2
        refine R62 _ _ _ _ _ _ _ _ _ _ _ _ _ ⟨fun _ => ⟨h0, ?_⟩, fun h => absurd (by decide) h⟩
        rw [hw0, hf0]
        simp only [bI_0, Bool.not_eq_false, v_X4_findTeams_425, nI_1]
        refine ⟨fun g => ?_, fun g => ⟨h0, fun g2 => ?_, fun g2 => ?_⟩⟩
        · rw [g, Bool.false_and, if_neg (by decide)] at ih; exact ih
        · rw [g2, Bool.and_false, if_neg (by decide)] at ih; exact ih
        · rw [g, g2, Bool.and_self, if_pos rfl] at ih
          have k5 := up_ind (fun k => K298 a1 (nI (6 ^ n)) (nI m) (rpS py r n) (rmS bo r n) (bI (rcB ch0 (rpS py r n))) (bI (rnB ne0 np0 (rmS bo r n) (rpS py r n))) (nI k) (wm0 + 1) ch0 ne0 np0 (raL r al0 n) r (if rcB ch0 (rpS py r n) = true then fillN cp0 k r else cp0) (if rnB ne0 np0 (rmS bo r n) (rpS py r n) = true then fillN nr0 k r else nr0)) n (R298 _ _ _ _ _ _ _ _ _ _ _ _ _ _ _ _ ?_) (fun k hk ih5 => R298 _ _ _ _ _ _ _ _ _ _ _ _ _ _ _ _ ?_)
          · have k4 := up_ind (fun k => K117 a1 (nI (6 ^ n)) (nI m) (rpS py r k) (rmS bo r k) (nI k) wm0 ch0 ne0 np0 (raL r al0 k) r cp0 nr0) n (R117 _ _ _ _ _ _ _ _ _ _ _ _ _ _ ?_) (fun k hk ih4 => R117 _ _ _ _ _ _ _ _ _ _ _ _ _ _ ?_)
            · exact k4
            · refine ⟨fun _ => ?_, fun h => absurd (nI_le (Nat.le_refl _) (by omega)) h⟩
              simp only [fillN_0, ite_self] at k5
              have near : ∀ b : Bool, K298 a1 (nI (6 ^ n)) (nI m) (rpS py r n) (rmS bo r n) (bI b) (bI (rnB ne0 np0 (rmS bo r n) (rpS py r n))) (nI 0) (wm0 + 1) ch0 ne0 np0 (raL r al0 n) r cp0 nr0 → v_X4_findTeams_251 n se li wo kn sp py il fl wa bo so sd ti on he la (fun u => u = ftO (ftL n kn sp py il bo fw w se ((0, -1, -1, np, 63, cp, nr), ro) (6 ^ n))) K25 K46 K62 K117 K298 a1 (nI (6 ^ n)) (nI m) (rpS py r n) (rmS bo r n) (bI b) (wm0 + 1) ch0 ne0 np0 (raL r al0 n) r cp0 nr0 := by
                intro b hb
                unfold v_X4_findTeams_251
                simp only [v_X4_findTeams_288, v_X4_findTeams_292, v_X4_findTeams_293]
                refine ⟨fun q => ?_, fun q => ⟨fun q2 => ?_, fun q2 => ⟨fun q3 => ⟨fun q4 => ?_, fun q4 => ?_⟩, fun q3 => ?_⟩⟩⟩
                · have e : rnB ne0 np0 (rmS bo r n) (rpS py r n) = true := by simp [rnB, q]
                  rw [e] at hb; exact hb
                · have e : rnB ne0 np0 (rmS bo r n) (rpS py r n) = true := by simp [rnB, q2]
                  rw [e] at hb; exact hb
                · have e : rnB ne0 np0 (rmS bo r n) (rpS py r n) = false := by simp [rnB, q, q2, q4]
                  rw [e] at hb; exact hb
                · have e : rnB ne0 np0 (rmS bo r n) (rpS py r n) = true := by simp [rnB, q3, q4]
                  rw [e] at hb; exact hb
                · have e : rnB ne0 np0 (rmS bo r n) (rpS py r n) = false := by simp [rnB, q, q2, q3]
                  rw [e] at hb; exact hb
              simp only [v_X4_findTeams_246]
              refine ⟨fun q => ?_, fun q => ⟨fun q2 => ?_, fun q2 => ?_⟩⟩
              · have e : rcB ch0 (rpS py r n) = true := by simp [rcB, q]
                rw [e] at k5; exact near true k5
              · have e : rcB ch0 (rpS py r n) = false := by simp [rcB, q, q2]
                rw [e] at k5; exact near false k5
              · have e : rcB ch0 (rpS py r n) = true := by simp [rcB, q2]
                rw [e] at k5; exact near true k5
            · refine ⟨fun h => absurd h (nI_ge hk (by omega)), fun _ => ⟨vp_in_nI (by omega) (by omega), ?_⟩⟩
              have ec : (nI k).toNatClampNeg = k := nI_clamp (by omega)
              have h6 : vp_in (nI k) 6 := vp_in_nI (by omega) (by omega)
              simp only [v_X4_findTeams_150, v_X4_findTeams_177, v_X4_findTeams_210, nI_1, ec]
              refine ⟨fun q => ⟨h6, h6, fun q2 => ⟨h6, fun q3 => ?_, fun q3 => absurd q q3⟩, fun q2 => ⟨h6, fun q3 => ?_, fun q3 => absurd q q3⟩⟩, fun q => ⟨h6, h6, h6, fun q2 => ⟨h6, fun q3 => absurd q3 q, fun q3 => ?_⟩, fun q2 => ⟨h6, fun q3 => absurd q3 q, fun q3 => ?_⟩⟩⟩
              · simpa only [rpS, rmS, sI, raL, if_pos q, if_pos q2] using ih4
              · simpa only [rpS, rmS, sI, raL, if_pos q, if_neg q2] using ih4
              · simpa only [rpS, rmS, sI, raL, if_neg q, if_pos q2] using ih4
              · simpa only [rpS, rmS, sI, raL, if_neg q, if_neg q2] using ih4
          · refine ⟨fun _ => ?_, fun h => absurd (nI_le (Nat.le_refl _) (by omega)) h⟩
            simp only [bI_0, Bool.not_eq_false, v_X4_findTeams_386, v_X4_findTeams_404, v_X4_findTeams_422, v_X4_findTeams_425, nI_1]
            simp only [rA] at ih
            refine ⟨fun q => ⟨fun q2 => ⟨fun q3 => ?_, fun q3 => ?_⟩, fun q2 => ⟨fun q3 => ?_, fun q3 => ?_⟩⟩, fun q => ⟨fun q2 => ⟨fun q3 => ?_, fun q3 => ?_⟩, fun q2 => ⟨fun q3 => ?_, fun q3 => ?_⟩⟩⟩
            · simpa only [q, q2, Bool.false_eq_true, if_false] using ih
            · exact absurd (q2.symm.trans q3) (by decide)
            · exact absurd (q2.symm.trans q3) (by decide)
            · simpa only [q, q2, Bool.false_eq_true, if_false, if_true] using ih
            · simpa only [q, q2, Bool.false_eq_true, if_false, if_true] using ih
            · exact absurd (q2.symm.trans q3) (by decide)
            · exact absurd (q2.symm.trans q3) (by decide)
            · simpa only [q, q2, if_true] using ih
          · refine ⟨fun h => absurd h (nI_ge hk (by omega)), fun _ => ?_⟩
            have ec : (nI k).toNatClampNeg = k := nI_clamp (by omega)
            have h6 : vp_in (nI k) 6 := vp_in_nI (by omega) (by omega)
            simp only [bI_0, Bool.not_eq_false, v_X4_findTeams_335, v_X4_findTeams_364, nI_1, ec]
            refine ⟨fun q => ⟨h6, h6, fun q2 => ⟨h6, h6, ?_⟩, fun q2 => ⟨h6, h6, ?_⟩⟩, fun q => ⟨h6, h6, fun q2 => ⟨h6, h6, ?_⟩, fun q2 => ⟨h6, h6, ?_⟩⟩⟩
            · simpa only [q, q2, Bool.false_eq_true, if_false, if_true, upd_same, fillN_succ] using ih5
            · simpa only [q, q2, Bool.false_eq_true, if_false, if_true, upd_same, fillN_succ] using ih5
            · simpa only [q, q2, Bool.false_eq_true, if_false, if_true, upd_same, fillN_succ] using ih5
            · simpa only [q, q2, Bool.false_eq_true, if_false, if_true, upd_same, fillN_succ] using ih5
      | succ j ihj =>
        intro l r hj hl hr
        rw [nI_pred]
        refine R62 _ _ _ _ _ _ _ _ _ _ _ _ _ ⟨fun h => absurd h (nI_pos (by omega)), fun _ => ⟨vp_in_nI (by omega) (by omega), ?_⟩⟩
        have ec : (nI j).toNatClampNeg = j := nI_clamp (by omega)
        have em : nI j + (-1) = nI j - 1 := (Int32.sub_eq_add_neg _ _).symm
        rw [e6, pk_rem (by omega) (by omega) (by omega), pk_div (by omega) (by omega) (by omega), ec, em]
        exact ihj (l / 6) _ (by omega) (by omega) hr
    exact key3 n m ro0 (Nat.le_refl _) hM hrow
theorem h_X4_whole (n : Nat) (se : Int32) (li : Int32) (wo : Int32) (kn : Nat → Int32) (sp : Nat → Int32) (py : Nat → Int32) (il : Nat → Int32) (fl : Nat → Int32) (wa : Nat → Int32) (bo : Nat → Int32) (so : Nat → Int32) (sd : Nat → Int32) (ti : Nat → Int32) (on : Nat → Int32) (he : Nat → Int32) (la : Nat → Int32) (wm : Int32) (ch : Int32) (ne : Int32) (np : Int32) (al : Int32) (ro : Nat → Int32) (cp : Nat → Int32) (nr : Nat → Int32) (a1 : Int32) (hn : n ≤ 6) : v_X4_whole_0 n se li wo kn sp py il fl wa bo so sd ti on he la (fun r u => r = (if inR a1 0 1 = true then (ftF n kn sp py il fl wa bo se a1 (wm, ch, ne, np, al, ro, cp, nr)).1 else (-2)) ∧ u = (if inR a1 0 1 = true then ftF n kn sp py il fl wa bo se a1 (wm, ch, ne, np, al, ro, cp, nr) else (wm, ch, ne, np, al, ro, cp, nr)))  a1 wm ch ne np al ro cp nr := by
  unfold v_X4_whole_0
  simp only [bI_0, Bool.not_eq_false]
  refine ⟨fun h => ?_, fun h => ⟨by rw [← inR_2]; exact h, fun u hu => ?_⟩⟩
  · simp [h]
  · rw [if_pos h, if_pos h, hu]
    exact ⟨rfl, rfl⟩
theorem h_X4_cheapest (n : Nat) (se : Int32) (li : Int32) (wo : Int32) (kn : Nat → Int32) (sp : Nat → Int32) (py : Nat → Int32) (il : Nat → Int32) (fl : Nat → Int32) (wa : Nat → Int32) (bo : Nat → Int32) (so : Nat → Int32) (sd : Nat → Int32) (ti : Nat → Int32) (on : Nat → Int32) (he : Nat → Int32) (la : Nat → Int32) (wm : Int32) (ch : Int32) (ne : Int32) (np : Int32) (al : Int32) (ro : Nat → Int32) (cp : Nat → Int32) (nr : Nat → Int32) (a1 : Int32) (hn : n ≤ 6) : v_X4_cheapest_0 n se li wo kn sp py il fl wa bo so sd ti on he la (fun r u => r = (if inR a1 0 1 = true then (ftF n kn sp py il fl wa bo se a1 (wm, ch, ne, np, al, ro, cp, nr)).2.1 else (-2)) ∧ u = (if inR a1 0 1 = true then ftF n kn sp py il fl wa bo se a1 (wm, ch, ne, np, al, ro, cp, nr) else (wm, ch, ne, np, al, ro, cp, nr)))  a1 wm ch ne np al ro cp nr := by
  unfold v_X4_cheapest_0
  simp only [bI_0, Bool.not_eq_false]
  refine ⟨fun h => ?_, fun h => ⟨by rw [← inR_2]; exact h, fun u hu => ?_⟩⟩
  · simp [h]
  · rw [if_pos h, if_pos h, hu]
    exact ⟨rfl, rfl⟩
theorem h_X4_nearest (n : Nat) (se : Int32) (li : Int32) (wo : Int32) (kn : Nat → Int32) (sp : Nat → Int32) (py : Nat → Int32) (il : Nat → Int32) (fl : Nat → Int32) (wa : Nat → Int32) (bo : Nat → Int32) (so : Nat → Int32) (sd : Nat → Int32) (ti : Nat → Int32) (on : Nat → Int32) (he : Nat → Int32) (la : Nat → Int32) (wm : Int32) (ch : Int32) (ne : Int32) (np : Int32) (al : Int32) (ro : Nat → Int32) (cp : Nat → Int32) (nr : Nat → Int32) (a1 : Int32) (hn : n ≤ 6) : v_X4_nearest_0 n se li wo kn sp py il fl wa bo so sd ti on he la (fun r u => r = (if inR a1 0 1 = true then (ftF n kn sp py il fl wa bo se a1 (wm, ch, ne, np, al, ro, cp, nr)).2.2.1 else (-2)) ∧ u = (if inR a1 0 1 = true then ftF n kn sp py il fl wa bo se a1 (wm, ch, ne, np, al, ro, cp, nr) else (wm, ch, ne, np, al, ro, cp, nr)))  a1 wm ch ne np al ro cp nr := by
  unfold v_X4_nearest_0
  simp only [bI_0, Bool.not_eq_false]
  refine ⟨fun h => ?_, fun h => ⟨by rw [← inR_2]; exact h, fun u hu => ?_⟩⟩
  · simp [h]
  · rw [if_pos h, if_pos h, hu]
    exact ⟨rfl, rfl⟩
theorem h_X4_needed (n : Nat) (se : Int32) (li : Int32) (wo : Int32) (kn : Nat → Int32) (sp : Nat → Int32) (py : Nat → Int32) (il : Nat → Int32) (fl : Nat → Int32) (wa : Nat → Int32) (bo : Nat → Int32) (so : Nat → Int32) (sd : Nat → Int32) (ti : Nat → Int32) (on : Nat → Int32) (he : Nat → Int32) (la : Nat → Int32) (wm : Int32) (ch : Int32) (ne : Int32) (np : Int32) (al : Int32) (ro : Nat → Int32) (cp : Nat → Int32) (nr : Nat → Int32) (a1 : Int32) (a2 : Int32) (hn : n ≤ 6) : v_X4_needed_0 n se li wo kn sp py il fl wa bo so sd ti on he la (fun r u => r = (if (inR a1 0 (nI n - 1) && inR a2 0 1) = true then bI (!decide ((ftF n kn sp py il fl wa bo se a2 (wm, ch, ne, np, al, ro, cp, nr)).1 ≤ 0) && hs ((ftF n kn sp py il fl wa bo se a2 (wm, ch, ne, np, al, ro, cp, nr)).2.2.2.2.1) a1) else (-2)) ∧ u = (if (inR a1 0 (nI n - 1) && inR a2 0 1) = true then ftF n kn sp py il fl wa bo se a2 (wm, ch, ne, np, al, ro, cp, nr) else (wm, ch, ne, np, al, ro, cp, nr)))  a1 a2 wm ch ne np al ro cp nr := by
  unfold v_X4_needed_0
  simp only [bI_0, Bool.not_eq_false]
  refine ⟨fun h => ?_, fun h => ⟨fun h2 => ?_, fun h2 => ⟨by rw [← inR_2]; exact h2, fun u hu => ⟨fun h3 => ?_, fun h3 => ⟨fun h4 => ?_, fun h4 => ?_⟩⟩⟩⟩⟩
  · simp [h]
  · simp [h2]
  · have hc : (inR a1 0 (nI n - 1) && inR a2 0 1) = true := by simp [h, h2]
    rw [if_pos hc, if_pos hc, ← hu]
    exact ⟨by simp [h3, bI], rfl⟩
  · have hc : (inR a1 0 (nI n - 1) && inR a2 0 1) = true := by simp [h, h2]
    rw [if_pos hc, if_pos hc, ← hu]
    exact ⟨by simp [h4, bI], rfl⟩
  · have hc : (inR a1 0 (nI n - 1) && inR a2 0 1) = true := by simp [h, h2]
    rw [if_pos hc, if_pos hc, ← hu]
    exact ⟨by simp [h3, h4, bI], rfl⟩
theorem h_X4_take (n : Nat) (se : Int32) (li : Int32) (wo : Int32) (kn : Nat → Int32) (sp : Nat → Int32) (py : Nat → Int32) (il : Nat → Int32) (fl : Nat → Int32) (wa : Nat → Int32) (so : Nat → Int32) (sd : Nat → Int32) (ti : Nat → Int32) (on : Nat → Int32) (he : Nat → Int32) (la : Nat → Int32) (wm : Int32) (ch : Int32) (ne : Int32) (np : Int32) (al : Int32) (bo : Nat → Int32) (ro : Nat → Int32) (cp : Nat → Int32) (nr : Nat → Int32) (a1 : Int32) (a2 : Int32) (hn : n ≤ 6) (K39 : Int32 → Int32 → Int32 → Int32 → Int32 → Int32 → Int32 → (Nat → Int32) → (Nat → Int32) → (Nat → Int32) → (Nat → Int32) → Prop) (R39 : ∀ x2 x3 wm_ ch_ ne_ np_ al_ bo_ ro_ cp_ nr_, v_X4_take_39 n se li wo kn sp py il fl wa so sd ti on he la (fun r u => r = rtR a1 a2 (ftF n kn sp py il fl wa bo se a1 (wm, ch, ne, np, al, ro, cp, nr)) ∧ u = rtF n a1 a2 (ftF n kn sp py il fl wa bo se a1 (wm, ch, ne, np, al, ro, cp, nr)) (wm, ch, ne, np, al, ro, cp, nr) bo) K39 x2 x3 wm_ ch_ ne_ np_ al_ bo_ ro_ cp_ nr_ → K39 x2 x3 wm_ ch_ ne_ np_ al_ bo_ ro_ cp_ nr_) : v_X4_take_0 n se li wo kn sp py il fl wa so sd ti on he la (fun r u => r = rtR a1 a2 (ftF n kn sp py il fl wa bo se a1 (wm, ch, ne, np, al, ro, cp, nr)) ∧ u = rtF n a1 a2 (ftF n kn sp py il fl wa bo se a1 (wm, ch, ne, np, al, ro, cp, nr)) (wm, ch, ne, np, al, ro, cp, nr) bo) K39 a1 a2 wm ch ne np al bo ro cp nr := by
  unfold v_X4_take_0
  simp only [bI_0, Bool.not_eq_false]
  refine ⟨fun h => ?_, fun h => ⟨fun h2 => ?_, fun h2 => ⟨by rw [← inR_2]; exact h, fun u hu => ⟨fun h3 => ?_, fun h3 => ?_⟩⟩⟩⟩
  · rw [rtR, rtF, if_neg (by simp [h]), if_neg (by simp [h])]
    exact ⟨rfl, rfl⟩
  · rw [rtR, rtF, if_pos h, if_neg (by simp [h2]), if_neg (by simp [h2])]
    exact ⟨rfl, rfl⟩
  · rw [← hu, rtR, rtF, if_pos h, if_pos h2, if_pos h3, if_pos ⟨h, h2⟩, if_pos h3]
    exact ⟨rfl, rfl⟩
  · have e1 : rtR a1 a2 u = (if a2 = 0 then u.2.1 else u.2.2.2.1) := by rw [rtR, if_pos h, if_pos h2, if_neg h3]
    have e2 : rtF n a1 a2 u (wm, ch, ne, np, al, ro, cp, nr) bo = (u.1, u.2.1, u.2.2.1, u.2.2.2.1, u.2.2.2.2.1, (if a2 = 0 then fillN bo n u.2.2.2.2.2.2.1 else fillN bo n u.2.2.2.2.2.2.2), u.2.2.2.2.2.1, u.2.2.2.2.2.2.1, u.2.2.2.2.2.2.2) := by rw [rtF, if_pos ⟨h, h2⟩, if_neg h3]
    rw [← hu, e1, e2] at R39
    have key := up_ind (fun k => K39 a2 (nI k) u.1 u.2.1 u.2.2.1 u.2.2.2.1 u.2.2.2.2.1 (if a2 = 0 then fillN bo k u.2.2.2.2.2.2.1 else fillN bo k u.2.2.2.2.2.2.2) u.2.2.2.2.2.1 u.2.2.2.2.2.2.1 u.2.2.2.2.2.2.2) n (R39 _ _ _ _ _ _ _ _ _ _ _ ?_) (fun k hk ih => R39 _ _ _ _ _ _ _ _ _ _ _ ?_)
    · simp only [fillN_0, ite_self] at key
      exact key
    · refine ⟨fun _ => ⟨fun q => ?_, fun q => ?_⟩, fun h => absurd (nI_le (Nat.le_refl _) (by omega)) h⟩
      · rw [if_pos q, if_pos q]; exact ⟨rfl, rfl⟩
      · rw [if_neg q, if_neg q]; exact ⟨rfl, rfl⟩
    · refine ⟨fun h => absurd h (nI_ge hk (by omega)), fun _ => ?_⟩
      have ec : (nI k).toNatClampNeg = k := nI_clamp (by omega)
      have h6 : vp_in (nI k) 6 := vp_in_nI (by omega) (by omega)
      simp only [v_X4_take_71, nI_1, ec]
      refine ⟨fun q => ⟨h6, h6, ?_⟩, fun q => ⟨h6, h6, ?_⟩⟩
      · simpa only [if_pos q, fillN_succ] using ih
      · simpa only [if_neg q, fillN_succ] using ih
