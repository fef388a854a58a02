theorem h_X3_holds (a0 : Int32) (a1 : Int32) : v_X3_holds_0  (fun r _ => r = bI (hs a0 a1))  a0 a1 := by
  unfold v_X3_holds_0
  refine ⟨fun h => ?_, fun h => ?_⟩ <;> simp [hs, h, bI]
theorem h_X3_isSession (a0 : Int32) : v_X3_isSession_0  (fun r _ => r = bI (inB a0 2))  a0 := by
  unfold v_X3_isSession_0
  refine ⟨fun h => ?_, fun h => ⟨fun h2 => ?_, fun h2 => ?_⟩⟩ <;> simp only [inB, h, bI] <;> simp [*]
theorem h_X3_isTongue (a0 : Int32) : v_X3_isTongue_0  (fun r _ => r = bI (inB a0 5))  a0 := by
  unfold v_X3_isTongue_0
  refine ⟨fun h => ?_, fun h => ⟨fun h2 => ?_, fun h2 => ?_⟩⟩ <;> simp only [inB, h, bI] <;> simp [*]
theorem h_X3_isHalf (a0 : Int32) : v_X3_isHalf_0  (fun r _ => r = bI (inB a0 16))  a0 := by
  unfold v_X3_isHalf_0
  refine ⟨fun h => ?_, fun h => ⟨fun h2 => ?_, fun h2 => ?_⟩⟩ <;> simp only [inB, h, bI] <;> simp [*]
theorem h_X3_areTongues (a0 : Int32) : v_X3_areTongues_0  (fun r _ => r = bI (decide (a0 &&& (-32) = 0)))  a0 := by
  unfold v_X3_areTongues_0
  refine ⟨fun h => ?_, fun h => ?_⟩ <;> simp [bI, h]
theorem h_J7_fill_53178 (N : Nat) (f : Nat → Int32) (a1 : Int32) (h0 : N < 1000) (K5 : Int32 → Int32 → Int32 → (Nat → Int32) → Prop) (R5 : ∀ x1 x2 x3 f_, v_J7_fill_53178_5 N (fun u => u = fillA f N a1) K5 x1 x2 x3 f_ → K5 x1 x2 x3 f_) : v_J7_fill_53178_0 N (fun u => u = fillA f N a1) K5 a1 f := by
  unfold v_J7_fill_53178_0
  have key := up_ind (fun k => K5 a1 (nI k) (nI N) (fillA f k a1)) N (R5 _ _ _ _ ?_) (fun k hk ih => R5 _ _ _ _ ?_)
  rotate_left
  · exact ⟨fun _ => rfl, fun h => absurd (nI_le (Nat.le_refl _) (by omega)) h⟩
  · refine ⟨fun h => absurd h (nI_ge hk (by omega)), fun _ => ⟨vp_in_nI hk (by omega), ?_⟩⟩
    rw [nI_1, nI_clamp (by omega)]
    have e : upd (fillA f k a1) k a1 = fillA f (k + 1) a1 := by
      funext j
      simp only [upd, fillA]
      by_cases h1 : j = k
      · subst h1; simp
      · have h2 : (j < k + 1) = (j < k) := by apply propext; omega
        simp [h1, h2]
    rw [e]; exact ih
  · have e : fillA f 0 a1 = f := by funext j; simp [fillA]
    rw [e] at key; exact key
theorem h_X1_has (n : Nat) (il : Int32) (kn : Nat → Int32) (sp : Nat → Int32) (py : Nat → Int32) (bo : Nat → Int32) (a1 : Int32) (hn : n ≤ 6) : v_X1_has_0 n il kn sp py bo (fun r _ => r = bI (inB a1 (nI n)))  a1 := by
  unfold v_X1_has_0
  refine ⟨fun h => ?_, fun h => ⟨fun h2 => ?_, fun h2 => ?_⟩⟩ <;> simp only [inB, h, bI] <;> simp [*]
theorem h_X1_isIll (n : Nat) (il : Int32) (kn : Nat → Int32) (sp : Nat → Int32) (py : Nat → Int32) (bo : Nat → Int32) (a1 : Int32) (hn : n ≤ 6) : v_X1_isIll_0 n il kn sp py bo (fun r _ => r = bI (hs il a1))  a1 := by
  unfold v_X1_isIll_0
  rfl
theorem h_X1_payOf (n : Nat) (il : Int32) (kn : Nat → Int32) (sp : Nat → Int32) (py : Nat → Int32) (bo : Nat → Int32) (a1 : Int32) (hn : n ≤ 6) : v_X1_payOf_0 n il kn sp py bo (fun r _ => r = atP n py 0 a1)  a1 := by
  unfold v_X1_payOf_0
  refine ⟨fun h => ?_, fun h => ?_⟩
  · rw [bI_0] at h; simp [atP, h]
  · rw [bI_n0] at h; exact ⟨inB_in h hn (by omega), by simp [atP, h]⟩
theorem h_X1_knownBy (n : Nat) (il : Int32) (kn : Nat → Int32) (sp : Nat → Int32) (py : Nat → Int32) (bo : Nat → Int32) (a1 : Int32) (hn : n ≤ 6) : v_X1_knownBy_0 n il kn sp py bo (fun r _ => r = atP n kn 0 a1)  a1 := by
  unfold v_X1_knownBy_0
  refine ⟨fun h => ?_, fun h => ?_⟩
  · rw [bI_0] at h; simp [atP, h]
  · rw [bI_n0] at h; exact ⟨inB_in h hn (by omega), by simp [atP, h]⟩
theorem h_X1_boothOf (n : Nat) (il : Int32) (kn : Nat → Int32) (sp : Nat → Int32) (py : Nat → Int32) (bo : Nat → Int32) (a1 : Int32) (hn : n ≤ 6) : v_X1_boothOf_0 n il kn sp py bo (fun r _ => r = atP n bo 5 a1)  a1 := by
  unfold v_X1_boothOf_0
  refine ⟨fun h => ?_, fun h => ?_⟩
  · rw [bI_0] at h; simp [atP, h]
  · rw [bI_n0] at h; exact ⟨inB_in h hn (by omega), by simp [atP, h]⟩
theorem h_X1_canTurnInto (n : Nat) (il : Int32) (kn : Nat → Int32) (sp : Nat → Int32) (py : Nat → Int32) (bo : Nat → Int32) (a1 : Int32) (a2 : Int32) (hn : n ≤ 6) : v_X1_canTurnInto_0 n il kn sp py bo (fun r _ => r = bI (canT n il sp a1 a2))  a1 a2 := by
  unfold v_X1_canTurnInto_0
  simp only [bI_0, Bool.not_eq_false]
  refine ⟨fun h => ?_, fun h => ⟨fun h2 => ⟨inB_in h hn (by omega), fun h3 => ?_, fun h3 => ?_⟩, fun h2 => ?_⟩⟩ <;> simp [canT, *, bI]
theorem h_X1_ableToTurnInto (n : Nat) (il : Int32) (kn : Nat → Int32) (sp : Nat → Int32) (py : Nat → Int32) (bo : Nat → Int32) (a1 : Int32) (hn : n ≤ 6) (K4 : Int32 → Int32 → Int32 → Prop) (R4 : ∀ x1 x2 x3, v_X1_ableToTurnInto_4 n il kn sp py bo (fun r _ => r = sI (fun k => bI (canT n il sp (nI k) a1)) n) K4 x1 x2 x3 → K4 x1 x2 x3) : v_X1_ableToTurnInto_0 n il kn sp py bo (fun r _ => r = sI (fun k => bI (canT n il sp (nI k) a1)) n) K4 a1 := by
  unfold v_X1_ableToTurnInto_0
  refine up_ind (fun k => K4 a1 (sI (fun k => bI (canT n il sp (nI k) a1)) k) (nI k)) n (R4 _ _ _ ?_) (fun k hk ih => R4 _ _ _ ?_)
  · exact ⟨fun _ => rfl, fun h => absurd (nI_le (Nat.le_refl _) (by omega)) h⟩
  · refine ⟨fun h => absurd h (nI_ge hk (by omega)), fun _ => ?_⟩
    simp only [bI_0, Bool.not_eq_false, v_X1_ableToTurnInto_24, nI_1]
    refine ⟨fun h => ?_, fun h => ?_⟩ <;> simpa [sI, h, bI] using ih
theorem h_X1_seated (n : Nat) (il : Int32) (kn : Nat → Int32) (sp : Nat → Int32) (py : Nat → Int32) (bo : Nat → Int32) (hn : n ≤ 6) (K4 : Int32 → Int32 → Prop) (R4 : ∀ x1 x2, v_X1_seated_4 n il kn sp py bo (fun r _ => r = sI (fun k => bI (!decide (bo k = 5))) n) K4 x1 x2 → K4 x1 x2) : v_X1_seated_0 n il kn sp py bo (fun r _ => r = sI (fun k => bI (!decide (bo k = 5))) n) K4 := by
  unfold v_X1_seated_0
  refine up_ind (fun k => K4 (sI (fun k => bI (!decide (bo k = 5))) k) (nI k)) n (R4 _ _ ?_) (fun k hk ih => R4 _ _ ?_)
  · exact ⟨fun _ => rfl, fun h => absurd (nI_le (Nat.le_refl _) (by omega)) h⟩
  · refine ⟨fun h => absurd h (nI_ge hk (by omega)), fun _ => ?_⟩
    simp only [v_X1_seated_24, nI_1, atP_nI hk (by omega : n < 2 ^ 31)]
    refine ⟨fun h => ?_, fun h => ?_⟩ <;> simpa [sI, h, bI] using ih
theorem h_X1_unseatAll (n : Nat) (il : Int32) (kn : Nat → Int32) (sp : Nat → Int32) (py : Nat → Int32) (bo : Nat → Int32) (hn : n ≤ 6) : v_X1_unseatAll_0 n il kn sp py (fun u => u = fillA bo 6 5)   bo := by
  unfold v_X1_unseatAll_0
  exact ⟨by omega, rfl⟩
theorem h_X1_seatAs (n : Nat) (il : Int32) (kn : Nat → Int32) (sp : Nat → Int32) (py : Nat → Int32) (tm : Nat → Int32) (bo : Nat → Int32) (hn : n ≤ 6) : v_X1_seatAs_0 n il kn sp py tm (fun u => u = va_cpy tm bo 0 0 6)   bo := by
  unfold v_X1_seatAs_0
  exact ⟨fun _ => rfl, fun h => absurd rfl h⟩
theorem h_X1_add (n : Nat) (il : Int32) (kn : Nat → Int32) (sp : Nat → Int32) (py : Nat → Int32) (bo : Nat → Int32) (a1 : Int32) (a2 : Int32) (a3 : Int32) (hn : n ≤ 6) : v_X1_add_0 n il (fun r u => r = (if n < 6 then nI n else (-5)) ∧ u = (nI (if n < 6 then n + 1 else n), (if n < 6 then upd kn n a1 else kn), (if n < 6 then upd sp n a2 else sp), (if n < 6 then upd py n a3 else py), (if n < 6 then upd bo n 5 else bo)))  a1 a2 a3 kn sp py bo := by
  unfold v_X1_add_0
  have e6 : (6 : Int32) = nI 6 := rfl
  refine ⟨fun h => ?_, fun h => ?_⟩
  · rw [e6, nI_ltI (by omega) (by omega)] at h
    have hv : vp_in (nI n) 6 := vp_in_nI h (by omega)
    refine ⟨hv, hv, hv, hv, ?_⟩
    rw [nI_1, nI_pred, nI_clamp (by omega)]
    simp [h]
  · rw [e6, nI_ltI (by omega) (by omega)] at h
    simp [h]
theorem h_X1_setIll (n : Nat) (kn : Nat → Int32) (sp : Nat → Int32) (py : Nat → Int32) (bo : Nat → Int32) (il : Int32) (a1 : Int32) (a2 : Int32) (hn : n ≤ 6) : v_X1_setIll_0 n kn sp py bo (fun u => u = (if a2 = 0 then il &&& (((1 : Int32) <<< (a1 &&& 31)) ^^^ (-1)) else il ||| ((1 : Int32) <<< (a1 &&& 31))))  a1 a2 il := by
  unfold v_X1_setIll_0
  refine ⟨fun h => ?_, fun h => ?_⟩ <;> simp [h]
