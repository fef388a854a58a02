set_option maxHeartbeats 2000000 in
theorem h_X4_findOn (n : Nat) (se : Int32) (li : Int32) (wm : Int32) (ch : Int32) (ne : Int32) (np : Int32) (al : Int32) (wo : Int32) (kn : Nat → Int32) (sp : Nat → Int32) (py : Nat → Int32) (il : Nat → Int32) (fl : Nat → Int32) (wa : Nat → Int32) (bo : Nat → Int32) (so : Nat → Int32) (sd : Nat → Int32) (ro : Nat → Int32) (cp : Nat → Int32) (nr : Nat → Int32) (ti : Nat → Int32) (la : Nat → Int32) (on : Nat → Int32) (he : Nat → Int32) (a1 : Int32) (hn : n ≤ 6) (h0 : inB a1 16 = true) (K2 : Int32 → Int32 → (Nat → Int32) → (Nat → Int32) → Prop) (K16 : Int32 → Int32 → Int32 → (Nat → Int32) → (Nat → Int32) → Prop) (K101 : Int32 → Int32 → (Nat → Int32) → (Nat → Int32) → Prop) (K136 : Int32 → Int32 → Int32 → (Nat → Int32) → (Nat → Int32) → Prop) (R2 : ∀ x1 x2 on_ he_, v_X4_findOn_2 n se li wm ch ne np al wo kn sp py il fl wa bo so sd ro cp nr ti la (fun u => u = (chO n bo ti on n, heF n kn (chO n bo ti on n) (so a1.toNatClampNeg) he 5)) K2 K16 K101 K136 x1 x2 on_ he_ → K2 x1 x2 on_ he_) (R16 : ∀ x1 x2 x3 on_ he_, v_X4_findOn_16 n se li wm ch ne np al wo kn sp py il fl wa bo so sd ro cp nr ti la (fun u => u = (chO n bo ti on n, heF n kn (chO n bo ti on n) (so a1.toNatClampNeg) he 5)) K2 K16 K101 K136 x1 x2 x3 on_ he_ → K16 x1 x2 x3 on_ he_) (R101 : ∀ x2 x3 on_ he_, v_X4_findOn_101 n se li wm ch ne np al wo kn sp py il fl wa bo so sd ro cp nr ti la (fun u => u = (chO n bo ti on n, heF n kn (chO n bo ti on n) (so a1.toNatClampNeg) he 5)) K2 K16 K101 K136 x2 x3 on_ he_ → K101 x2 x3 on_ he_) (R136 : ∀ x2 x3 x4 on_ he_, v_X4_findOn_136 n se li wm ch ne np al wo kn sp py il fl wa bo so sd ro cp nr ti la (fun u => u = (chO n bo ti on n, heF n kn (chO n bo ti on n) (so a1.toNatClampNeg) he 5)) K2 K16 K101 K136 x2 x3 x4 on_ he_ → K136 x2 x3 x4 on_ he_) : v_X4_findOn_0 n se li wm ch ne np al wo kn sp py il fl wa bo so sd ro cp nr ti la (fun u => u = (chO n bo ti on n, heF n kn (chO n bo ti on n) (so a1.toNatClampNeg) he 5)) K2 K16 K101 K136 a1 on he := by
  unfold v_X4_findOn_0
  have hv : vp_in a1 16 := inB_in (n := 16) h0 (Nat.le_refl _) (by omega)
  generalize hf0 : so a1.toNatClampNeg = f at *
  -- the second loop: how each booth is heard
  have second : K101 f (nI 0) (chO n bo ti on n) he := by
    have key := up_ind (fun t => K101 f (nI t) (chO n bo ti on n) (heF n kn (chO n bo ti on n) f he t)) 5 (R101 _ _ _ _ ?_) (fun t ht ih => R101 _ _ _ _ ?_)
    · exact key
    · exact ⟨fun _ => rfl, fun h => absurd (nI_le (a := 5) (b := 5) (Nat.le_refl _) (by omega)) h⟩
    · have ec : (nI t).toNatClampNeg = t := nI_clamp (by omega)
      have h5 : vp_in (nI t) 5 := vp_in_nI ht (by omega)
      refine ⟨fun h => absurd h (nI_ge (b := 5) ht (by omega)), fun _ => ⟨h5, ?_⟩⟩
      simp only [v_X4_findOn_244, nI_1, ec]
      rw [heF] at ih
      refine ⟨fun g => ?_, fun g => ⟨fun g2 => ?_, fun g2 => ⟨h5, fun g3 => ?_, fun g3 => ?_⟩⟩⟩
      · have e : wyF n kn (chO n bo ti on n) f (nI t) = -1 := by simp [wyF, g]
        rw [e] at ih; exact ih
      · have e : wyF n kn (chO n bo ti on n) f (nI t) = -1 := by simp [wyF, g2]
        rw [e] at ih; exact ih
      · have e : wyF n kn (chO n bo ti on n) f (nI t) = -1 := by rw [wyF, ec, if_pos g3]; simp
        rw [e] at ih; exact ih
      · obtain ⟨hon6, j, hj, hjo⟩ := on_in n bo ti on hn ht g3
        have ekt : atP n kn 0 (chO n bo ti on n t) = kn (chO n bo ti on n t).toNatClampNeg := by rw [hjo, atP_nI hj (by omega), nI_clamp (by omega)]
        have hvo : vp_in (chO n bo ti on n t) 6 := inB_in (n := 6) hon6 (Nat.le_refl _) (by omega)
        have g2b : ¬ f = nI t := fun q => g2 q.symm
        have ewy : wyF n kn (chO n bo ti on n) f (nI t) = if hs (kn (chO n bo ti on n t).toNatClampNeg) f = true then nI t else wyL (wyC n kn (chO n bo ti on n) f (nI t) (kn (chO n bo ti on n t).toNatClampNeg)) 5 0 := by
          rw [wyF, ec, if_neg g, if_neg g2b, if_neg g3, ekt]
        rw [ewy] at ih
        have dn : ∀ r, r ≤ 5 → K136 f (nI t) (nI r - 1) (chO n bo ti on n) (upd (heF n kn (chO n bo ti on n) f he t) t (wyL (wyC n kn (chO n bo ti on n) f (nI t) (kn (chO n bo ti on n t).toNatClampNeg)) (5 - r) r)) := by
          intro r
          induction r with
          | zero =>
            intro _
            refine R136 _ _ _ _ _ ⟨fun _ => ⟨h5, ?_⟩, fun h => absurd (by decide) h⟩
            simp only [ec, bI_0, Bool.not_eq_false, v_X4_findOn_243, v_X4_findOn_244, nI_1, upd_at, upd_upd]
            refine ⟨hvo, fun q => ⟨h5, h5, ?_⟩, fun q => ⟨h5, ?_⟩⟩
            · rw [q, if_neg (by decide)] at ih; exact ih
            · rw [q, if_pos rfl] at ih; exact ih
          | succ r ihr =>
            intro hr
            have er : (nI r).toNatClampNeg = r := nI_clamp (by omega)
            have hr5 : vp_in (nI r) 5 := vp_in_nI (by omega) (by omega)
            have em : nI r + (-1) = nI r - 1 := (Int32.sub_eq_add_neg _ _).symm
            have ihr2 := ihr (by omega)
            have e5 : 5 - r = (5 - (r + 1)) + 1 := by omega
            have eL : wyL (wyC n kn (chO n bo ti on n) f (nI t) (kn (chO n bo ti on n t).toNatClampNeg)) (5 - r) r = if wyC n kn (chO n bo ti on n) f (nI t) (kn (chO n bo ti on n t).toNatClampNeg) r = true then nI r else wyL (wyC n kn (chO n bo ti on n) f (nI t) (kn (chO n bo ti on n t).toNatClampNeg)) (5 - (r + 1)) (r + 1) := by rw [e5, wyL]
            rw [eL] at ihr2
            rw [nI_pred]
            refine R136 _ _ _ _ _ ⟨fun h => absurd h (nI_pos (by omega)), fun _ => ?_⟩
            simp only [ec, er, em, bI_0, Bool.not_eq_false, v_X4_findOn_197, v_X4_findOn_203, upd_at, upd_upd]
            have ekr := kn_at n kn bo ti on hn f (t := r) (by omega)
            have no : wyC n kn (chO n bo ti on n) f (nI t) (kn (chO n bo ti on n t).toNatClampNeg) r = false → K136 f (nI t) (nI r - 1) (chO n bo ti on n) (upd (heF n kn (chO n bo ti on n) f he t) t (wyL (wyC n kn (chO n bo ti on n) f (nI t) (kn (chO n bo ti on n t).toNatClampNeg)) (5 - (r + 1)) (r + 1))) := fun q => by
              rw [q, if_neg (by decide)] at ihr2; exact ihr2
            have hor : chO n bo ti on n r = -1 ∨ inB (chO n bo ti on n r) 6 = true := by
              by_cases q : chO n bo ti on n r = -1
              · exact Or.inl q
              · exact Or.inr (on_in n bo ti on hn (by omega) q).1
            refine ⟨fun q => ⟨h5, h5, no (by simp [wyC, q])⟩, fun q => ⟨fun q2 => ⟨h5, h5, no (by simp [wyC, q2])⟩, fun q2 => ⟨hr5, hor, fun q3 => ⟨h5, h5, no ?_⟩, fun q3 => ⟨h5, hvo, fun q4 => ⟨h5, h5, no (by simp [wyC, q4])⟩, fun q4 => ⟨h5, ?_⟩⟩⟩⟩⟩
            · rw [wyC, ekr, q3]; simp
            · have ey : wyC n kn (chO n bo ti on n) f (nI t) (kn (chO n bo ti on n t).toNatClampNeg) r = true := by
                rw [wyC, ekr, q3, q4]; simp [q, q2]
              rw [ey, if_pos rfl] at ihr2; exact ihr2
        exact dn 5 (Nat.le_refl _)
  have key := up_ind (fun t => K2 a1 (nI t) (fillN on t (chO n bo ti on n)) he) 5 (R2 _ _ _ _ ?_) (fun t ht ih => R2 _ _ _ _ ?_)
  · have k2 : K2 a1 (nI 0) (fillN on 0 (chO n bo ti on n)) he := key
    rw [fillN_0] at k2
    exact k2
  · refine ⟨fun _ => ⟨hv, ?_⟩, fun h => absurd (nI_le (a := 5) (b := 5) (Nat.le_refl _) (by omega)) h⟩
    rw [hf0, chO_fill]
    exact second
  · have ec : (nI t).toNatClampNeg = t := nI_clamp (by omega)
    have h5 : vp_in (nI t) 5 := vp_in_nI ht (by omega)
    refine ⟨fun h => absurd h (nI_ge (b := 5) ht (by omega)), fun _ => ⟨h5, ?_⟩⟩
    rw [ec]
    have k2 := up_ind (fun k => K16 a1 (nI t) (nI k) (upd (fillN on t (chO n bo ti on n)) t (chO n bo ti on k t)) he) n (R16 _ _ _ _ _ ?_) (fun k hk ih2 => R16 _ _ _ _ _ ?_)
    · have k3 : K16 a1 (nI t) (nI 0) (upd (fillN on t (chO n bo ti on n)) t (chO n bo ti on 0 t)) he := k2
      have e0 : chO n bo ti on 0 t = -1 := by simp [chO, fillA, ht]
      rw [e0] at k3
      exact k3
    · refine ⟨fun _ => ?_, fun h => absurd (nI_le (Nat.le_refl _) (by omega)) h⟩
      rw [nI_1, fillN_succ]
      exact ih
    · have ek : (nI k).toNatClampNeg = k := nI_clamp (by omega)
      have h6 : vp_in (nI k) 6 := vp_in_nI (by omega) (by omega)
      refine ⟨fun h => absurd h (nI_ge hk (by omega)), fun _ => ⟨h6, ?_⟩⟩
      rw [chO_step n bo ti on hn hk ht] at ih2
      simp only [ec, ek, v_X4_findOn_69, v_X4_findOn_73, v_X4_findOn_79, nI_1, upd_at, upd_upd]
      refine ⟨fun g => ⟨h5, fun g2 => ⟨h5, ?_⟩, fun g2 => ⟨h6, h5, ?_, fun g3 => ⟨h5, h5, ?_⟩, fun g3 => ⟨h5, ?_⟩⟩⟩, fun g => ⟨h5, h5, ?_⟩⟩
      · rw [if_pos g, if_pos (Or.inl g2)] at ih2; exact ih2
      · rcases chO_val n bo ti on hn k (by omega) t ht with q | ⟨j, h1, h2, h3⟩
        · exact absurd q g2
        · rw [h2]; exact vp_in_nI (by omega) (by omega)
      · rw [if_pos g, if_neg (fun q => q.elim g2 (fun q2 => q2 g3))] at ih2; exact ih2
      · rw [if_pos g, if_pos (Or.inr g3)] at ih2; exact ih2
      · rw [if_neg g] at ih2; exact ih2
set_option maxHeartbeats 2000000 in
theorem h_X4_goTo (n : Nat) (se : Int32) (li : Int32) (wm : Int32) (ch : Int32) (ne : Int32) (np : Int32) (al : Int32) (kn : Nat → Int32) (sp : Nat → Int32) (py : Nat → Int32) (il : Nat → Int32) (fl : Nat → Int32) (wa : Nat → Int32) (bo : Nat → Int32) (so : Nat → Int32) (sd : Nat → Int32) (ro : Nat → Int32) (cp : Nat → Int32) (nr : Nat → Int32) (wo : Int32) (ti : Nat → Int32) (on : Nat → Int32) (he : Nat → Int32) (la : Nat → Int32) (a1 : Int32) (hn : n ≤ 6) (h0 : inB a1 16 = true) (h1 : ∀ h, h < 16 → inR (sd h) 0 9 = true) (K7 : Int32 → Int32 → Int32 → (Nat → Int32) → (Nat → Int32) → (Nat → Int32) → (Nat → Int32) → Prop) (K28 : Int32 → Int32 → Int32 → (Nat → Int32) → (Nat → Int32) → (Nat → Int32) → (Nat → Int32) → Prop) (K48 : Int32 → Int32 → Int32 → (Nat → Int32) → (Nat → Int32) → (Nat → Int32) → (Nat → Int32) → Prop) (K60 : Int32 → Int32 → Int32 → Int32 → (Nat → Int32) → (Nat → Int32) → (Nat → Int32) → (Nat → Int32) → Prop) (K74 : Int32 → Int32 → Int32 → Int32 → Int32 → Int32 → (Nat → Int32) → (Nat → Int32) → (Nat → Int32) → (Nat → Int32) → Prop) (K206 : Int32 → Int32 → Int32 → Int32 → (Nat → Int32) → (Nat → Int32) → (Nat → Int32) → (Nat → Int32) → Prop) (R7 : ∀ x1 x2 wo_ ti_ on_ he_ la_, v_X4_goTo_7 n se li wm ch ne np al kn sp py il fl wa bo so sd ro cp nr (fun u => u = gtF n kn bo so sd li (ti, on, he) la (a1.toNatClampNeg + 1)) K7 K28 K48 K60 K74 K206 x1 x2 wo_ ti_ on_ he_ la_ → K7 x1 x2 wo_ ti_ on_ he_ la_) (R28 : ∀ x1 x2 wo_ ti_ on_ he_ la_, v_X4_goTo_28 n se li wm ch ne np al kn sp py il fl wa bo so sd ro cp nr (fun u => u = gtF n kn bo so sd li (ti, on, he) la (a1.toNatClampNeg + 1)) K7 K28 K48 K60 K74 K206 x1 x2 wo_ ti_ on_ he_ la_ → K28 x1 x2 wo_ ti_ on_ he_ la_) (R48 : ∀ x1 x2 wo_ ti_ on_ he_ la_, v_X4_goTo_48 n se li wm ch ne np al kn sp py il fl wa bo so sd ro cp nr (fun u => u = gtF n kn bo so sd li (ti, on, he) la (a1.toNatClampNeg + 1)) K7 K28 K48 K60 K74 K206 x1 x2 wo_ ti_ on_ he_ la_ → K48 x1 x2 wo_ ti_ on_ he_ la_) (R60 : ∀ x1 x2 x3 wo_ ti_ on_ he_ la_, v_X4_goTo_60 n se li wm ch ne np al kn sp py il fl wa bo so sd ro cp nr (fun u => u = gtF n kn bo so sd li (ti, on, he) la (a1.toNatClampNeg + 1)) K7 K28 K48 K60 K74 K206 x1 x2 x3 wo_ ti_ on_ he_ la_ → K60 x1 x2 x3 wo_ ti_ on_ he_ la_) (R74 : ∀ x1 x2 x3 x4 x5 wo_ ti_ on_ he_ la_, v_X4_goTo_74 n se li wm ch ne np al kn sp py il fl wa bo so sd ro cp nr (fun u => u = gtF n kn bo so sd li (ti, on, he) la (a1.toNatClampNeg + 1)) K7 K28 K48 K60 K74 K206 x1 x2 x3 x4 x5 wo_ ti_ on_ he_ la_ → K74 x1 x2 x3 x4 x5 wo_ ti_ on_ he_ la_) (R206 : ∀ x1 x2 x3 wo_ ti_ on_ he_ la_, v_X4_goTo_206 n se li wm ch ne np al kn sp py il fl wa bo so sd ro cp nr (fun u => u = gtF n kn bo so sd li (ti, on, he) la (a1.toNatClampNeg + 1)) K7 K28 K48 K60 K74 K206 x1 x2 x3 wo_ ti_ on_ he_ la_ → K206 x1 x2 x3 wo_ ti_ on_ he_ la_) : v_X4_goTo_0 n se li wm ch ne np al kn sp py il fl wa bo so sd ro cp nr (fun u => u = gtF n kn bo so sd li (ti, on, he) la (a1.toNatClampNeg + 1)) K7 K28 K48 K60 K74 K206 a1 wo ti on he la := by
  unfold v_X4_goTo_0
  obtain ⟨hq, hhq, rfl⟩ := (inB_iff (n := 16) (by omega)).mp h0
  have eh : (nI hq).toNatClampNeg = hq := nI_clamp (by omega)
  rw [eh] at R7 R28 R48 R60 R74 R206
  generalize hpost : gtF n kn bo so sd li (ti, on, he) la (hq + 1) = T at *
  have main := up_ind (fun h => K48 (nI hq) (nI h) (woO n kn bo so sd (ti, on, he) li h) (plT n kn bo so sd (ti, on, he) h).1 (plT n kn bo so sd (ti, on, he) h).2.1 (plT n kn bo so sd (ti, on, he) h).2.2 (fillN la 5 (fun t => laO n kn bo so sd (ti, on, he) (nI t) h))) (hq + 1) (R48 _ _ _ _ _ _ _ ?_) (fun h hh ih => R48 _ _ _ _ _ _ _ ?_)
  · have e0 : fillN la 5 (fun t => laO n kn bo so sd (ti, on, he) (nI t) 0) = fillA la 5 0 := rfl
    have m0 : K48 (nI hq) (nI 0) 0 (fillA ti 6 0) on he (fillN la 5 (fun t => laO n kn bo so sd (ti, on, he) (nI t) 0)) := main
    rw [e0] at m0
    have k28 := up_ind (fun t => K28 (nI hq) (nI t) 0 (fillA ti 6 0) on he (fillA la t 0)) 5 (R28 _ _ _ _ _ _ _ ?_) (fun t ht ih => R28 _ _ _ _ _ _ _ ?_)
    · have k28b : K28 (nI hq) (nI 0) 0 (fillA ti 6 0) on he (fillA la 0 0) := k28
      have f0 : fillA la 0 0 = la := by funext j; simp [fillA]
      rw [f0] at k28b
      have k7 := up_ind (fun k => K7 (nI hq) (nI k) 0 (fillA ti k 0) on he la) 6 (R7 _ _ _ _ _ _ _ ?_) (fun k hk ih => R7 _ _ _ _ _ _ _ ?_)
      · have k7b : K7 (nI hq) (nI 0) 0 (fillA ti 0 0) on he la := k7
        have f1 : fillA ti 0 0 = ti := by funext j; simp [fillA]
        rw [f1] at k7b
        exact k7b
      · exact ⟨fun _ => k28b, fun h => absurd (nI_le (a := 6) (b := 6) (Nat.le_refl _) (by omega)) h⟩
      · refine ⟨fun h => absurd h (nI_ge (b := 6) hk (by omega)), fun _ => ⟨vp_in_nI hk (by omega), ?_⟩⟩
        rw [nI_1, nI_clamp (by omega), fillA_succ]
        exact ih
    · exact ⟨fun _ => m0, fun h => absurd (nI_le (a := 5) (b := 5) (Nat.le_refl _) (by omega)) h⟩
    · refine ⟨fun h => absurd h (nI_ge (b := 5) ht (by omega)), fun _ => ⟨vp_in_nI ht (by omega), ?_⟩⟩
      rw [nI_1, nI_clamp (by omega), fillA_succ]
      exact ih
  · exact ⟨fun _ => hpost, fun h => absurd (nI_lt (Nat.lt_succ_self hq) (by omega)) h⟩
  · have hb : ∀ k, k < 6 → ∃ a, a ≤ 9 * h ∧ (plT n kn bo so sd (ti, on, he) h).1 k = nI a := plT_bd n kn bo so sd (ti, on, he) hn h1 h (by omega)
    have ec : (nI h).toNatClampNeg = h := nI_clamp (by omega)
    have i16 : inB (nI h) 16 = true := inB_nI (n := 16) (by omega) (by omega)
    have v16 : vp_in (nI h) 16 := vp_in_nI (by omega) (by omega)
    have ep : plT n kn bo so sd (ti, on, he) (h + 1) = plG n kn bo (so h) (sd h) (plT n kn bo so sd (ti, on, he) h) := by rw [plT, plH, if_pos i16, ec]
    have ew : woO n kn bo so sd (ti, on, he) li (h + 1) = woO n kn bo so sd (ti, on, he) li h ||| taF (plT n kn bo so sd (ti, on, he) (h + 1)).1 li n := rfl
    have el : ∀ t, laO n kn bo so sd (ti, on, he) (nI t) (h + 1) = laO n kn bo so sd (ti, on, he) (nI t) h + laF sd (plT n kn bo so sd (ti, on, he) (h + 1)).2.2 (nI h) (nI t) := fun t => rfl
    simp only [el] at ih
    rw [ew, ep] at ih
    generalize woO n kn bo so sd (ti, on, he) li h = w0 at ih ⊢
    generalize hA : (fun t => laO n kn bo so sd (ti, on, he) (nI t) h) = A at ih ⊢
    have ihA : ∀ t, laO n kn bo so sd (ti, on, he) (nI t) h = A t := fun t => by rw [← hA]
    simp only [ihA] at ih
    generalize plT n kn bo so sd (ti, on, he) h = x at ih hb ep ⊢
    obtain ⟨T0, O0, E0⟩ := x
    simp only [plG] at ih
    dsimp only at ih hb ⊢
    refine ⟨fun g => absurd g (nI_nlt (by omega) (by omega)), fun _ => ⟨i16, ?_⟩⟩
    rw [ec]
    generalize hO1 : chO n bo T0 O0 n = O1 at ih ⊢
    generalize hE1 : heF n kn O1 (so h) E0 5 = E1 at ih ⊢
    rw [tiF_eq] at ih
    -- the persons' loop
    have k60 := up_ind (fun k => K60 (nI hq) (nI h) (nI k) (w0 ||| taF (fillN T0 n (tiV n bo O1 E1 (sd h) T0)) li k) (fillN T0 k (tiV n bo O1 E1 (sd h) T0)) O1 E1 (fillN la 5 A)) n (R60 _ _ _ _ _ _ _ _ ?_) (fun k hk ih60 => R60 _ _ _ _ _ _ _ _ ?_)
    · have k0 : K60 (nI hq) (nI h) (nI 0) (w0 ||| 0) (fillN T0 0 (tiV n bo O1 E1 (sd h) T0)) O1 E1 (fillN la 5 A) := k60
      rw [fillN_0, Int32.or_zero] at k0
      exact k0
    · refine ⟨fun _ => ?_, fun g => absurd (nI_le (Nat.le_refl _) (by omega)) g⟩
      have k206 := up_ind (fun t => K206 (nI hq) (nI h) (nI t) (w0 ||| taF (fillN T0 n (tiV n bo O1 E1 (sd h) T0)) li n) (fillN T0 n (tiV n bo O1 E1 (sd h) T0)) O1 E1 (fillN (fillN la 5 A) t (fun t => A t + laF sd E1 (nI h) (nI t)))) 5 (R206 _ _ _ _ _ _ _ _ ?_) (fun t ht ih6 => R206 _ _ _ _ _ _ _ _ ?_)
      · have k0 : K206 (nI hq) (nI h) (nI 0) (w0 ||| taF (fillN T0 n (tiV n bo O1 E1 (sd h) T0)) li n) (fillN T0 n (tiV n bo O1 E1 (sd h) T0)) O1 E1 (fillN (fillN la 5 A) 0 (fun t => A t + laF sd E1 (nI h) (nI t))) := k206
        rw [fillN_0] at k0
        exact k0
      · refine ⟨fun _ => ?_, fun g => absurd (nI_le (a := 5) (b := 5) (Nat.le_refl _) (by omega)) g⟩
        have ef : fillN (fillN la 5 A) 5 (fun t => A t + laF sd E1 (nI h) (nI t)) = fillN la 5 (fun t => A t + laF sd E1 (nI h) (nI t)) := by
          funext j
          by_cases hj : j < 5 <;> simp [fillN, hj]
        rw [nI_1, ef]
        exact ih
      · have et : (nI t).toNatClampNeg = t := nI_clamp (by omega)
        have h5 : vp_in (nI t) 5 := vp_in_nI ht (by omega)
        have i5 : inB (nI t) 5 = true := inB_nI (n := 5) ht (by omega)
        have e0 : fillN (fillN la 5 A) t (fun t => A t + laF sd E1 (nI h) (nI t)) t = A t := by simp [fillN, ht]
        have es : ∀ v, A t + v = A t + laF sd E1 (nI h) (nI t) → upd (fillN (fillN la 5 A) t (fun t => A t + laF sd E1 (nI h) (nI t))) t (A t + v) = fillN (fillN la 5 A) (t + 1) (fun t => A t + laF sd E1 (nI h) (nI t)) := fun v hv => by
          rw [hv]; exact fillN_succ (fillN la 5 A) (fun t => A t + laF sd E1 (nI h) (nI t)) t
        have eLa : laF sd E1 (nI h) (nI t) = if E1 t = -1 then 0 else if E1 t = nI t then (if sd h ≤ 5 then 1 else 2) else 2 * (if sd h ≤ 5 then 1 else 2) + 1 := by
          rw [laF, i16, i5, et, ec, Bool.and_self, if_pos rfl]
        refine ⟨fun g => absurd g (nI_ge (b := 5) ht (by omega)), fun _ => ⟨v16, ?_⟩⟩
        simp only [ec, et, v_X4_goTo_226, v_X4_goTo_270, nI_1, e0]
        refine ⟨fun g => ⟨h5, h5, fun g2 => ⟨h5, ?_⟩, fun g2 => ⟨h5, fun g3 => ⟨h5, ?_⟩, fun g3 => ⟨h5, ?_⟩⟩⟩, fun g => ⟨h5, h5, fun g2 => ⟨h5, ?_⟩, fun g2 => ⟨h5, fun g3 => ⟨h5, ?_⟩, fun g3 => ⟨h5, ?_⟩⟩⟩⟩
        · rw [es 0 (by rw [eLa, if_pos g2])]; exact ih6
        · rw [es 1 (by rw [eLa, if_neg g2, if_pos g3, if_pos g])]; exact ih6
        · rw [es _ (by rw [eLa, if_neg g2, if_neg g3, if_pos g])]; exact ih6
        · rw [es 0 (by rw [eLa, if_pos g2])]; exact ih6
        · rw [es 2 (by rw [eLa, if_neg g2, if_pos g3, if_neg g])]; exact ih6
        · rw [es _ (by rw [eLa, if_neg g2, if_neg g3, if_neg g])]; exact ih6
    · refine ⟨fun g => absurd g (nI_ge hk (by omega)), fun _ => ?_⟩
      have ek : (nI k).toNatClampNeg = k := nI_clamp (by omega)
      have h6 : vp_in (nI k) 6 := vp_in_nI (by omega) (by omega)
      obtain ⟨a, ha, eTa⟩ := hb k (by omega)
      have eTk : fillN T0 k (tiV n bo O1 E1 (sd h) T0) k = T0 k := by simp [fillN]
      have eTn : fillN T0 n (tiV n bo O1 E1 (sd h) T0) k = tiV n bo O1 E1 (sd h) T0 k := by simp [fillN, hk]
      rw [taF, eTn] at ih60
      have last : ∀ v, v = tiV n bo O1 E1 (sd h) T0 k → v_X4_goTo_168 n se li wm ch ne np al kn sp py il fl wa bo so sd ro cp nr (fun u => u = T) K7 K28 K48 K60 K74 K206 (nI hq) (nI h) (nI k) v (nI k) (w0 ||| taF (fillN T0 n (tiV n bo O1 E1 (sd h) T0)) li k) (fillN T0 k (tiV n bo O1 E1 (sd h) T0)) O1 E1 (fillN la 5 A) := by
        intro v hv
        subst hv
        unfold v_X4_goTo_168
        simp only [ek, upd_at, v_X4_goTo_194, nI_1, fillN_succ]
        refine ⟨h6, h6, fun g => ?_, fun g => ?_⟩
        · rw [if_pos g] at ih60
          rw [Int32.or_zero]; exact ih60
        · rw [if_neg g] at ih60
          rw [Int32.or_assoc]; exact ih60
      have k74 := up_ind (fun t => K74 (nI hq) (nI h) (nI k) (bI (wkF O1 E1 k t)) (nI t) (w0 ||| taF (fillN T0 n (tiV n bo O1 E1 (sd h) T0)) li k) (fillN T0 k (tiV n bo O1 E1 (sd h) T0)) O1 E1 (fillN la 5 A)) 5 (R74 _ _ _ _ _ _ _ _ _ _ ?_) (fun t ht ih74 => R74 _ _ _ _ _ _ _ _ _ _ ?_)
      · exact k74
      · refine ⟨fun _ => ?_, fun g => absurd (nI_le (a := 5) (b := 5) (Nat.le_refl _) (by omega)) g⟩
        have etu : wkF O1 E1 k 5 = tuF n bo O1 E1 (nI k) := by rw [← hO1]; exact wk_tu n bo T0 O0 E1 hn hk
        rw [etu]
        simp only [bI_0, Bool.not_eq_false, ek, ec, eTk]
        refine ⟨fun g => ⟨h6, fun g2 => last _ ?_, fun g2 => ⟨h6, last _ ?_⟩⟩, fun g => ⟨h6, v16, last _ ?_⟩⟩
        · rw [eTa] at g2
          rw [tiV, g, if_neg (by decide), eTa, ti_low (by omega), if_pos g2]
        · rw [eTa] at g2
          rw [tiV, g, if_neg (by decide), eTa, ti_low (by omega), if_neg g2]
        · rw [tiV, g, if_pos rfl]
      · have et : (nI t).toNatClampNeg = t := nI_clamp (by omega)
        have h5 : vp_in (nI t) 5 := vp_in_nI ht (by omega)
        refine ⟨fun g => absurd g (nI_ge (b := 5) ht (by omega)), fun _ => ?_⟩
        rw [wkF] at ih74
        simp only [bI_0, Bool.not_eq_false, et, v_X4_goTo_107, v_X4_goTo_111, v_X4_goTo_112, nI_1]
        refine ⟨fun g => ⟨h5, fun g2 => ⟨h5, fun g3 => ?_, fun g3 => ?_⟩, fun g2 => ?_⟩, fun g => ?_⟩
        · have e : (wkF O1 E1 k t || (decide (O1 t = nI k) && !decide (E1 t = -1))) = false := by simp [g, g3]
          rw [e] at ih74; exact ih74
        · have e : (wkF O1 E1 k t || (decide (O1 t = nI k) && !decide (E1 t = -1))) = true := by simp [g2, g3]
          rw [e] at ih74; exact ih74
        · have e : (wkF O1 E1 k t || (decide (O1 t = nI k) && !decide (E1 t = -1))) = false := by simp [g, g2]
          rw [e] at ih74; exact ih74
        · have e : (wkF O1 E1 k t || (decide (O1 t = nI k) && !decide (E1 t = -1))) = true := by simp [g]
          rw [e] at ih74; exact ih74
theorem h_X4_on (n : Nat) (se : Int32) (li : Int32) (wm : Int32) (ch : Int32) (ne : Int32) (np : Int32) (al : Int32) (kn : Nat → Int32) (sp : Nat → Int32) (py : Nat → Int32) (il : Nat → Int32) (fl : Nat → Int32) (wa : Nat → Int32) (bo : Nat → Int32) (so : Nat → Int32) (sd : Nat → Int32) (ro : Nat → Int32) (cp : Nat → Int32) (nr : Nat → Int32) (wo : Int32) (ti : Nat → Int32) (on : Nat → Int32) (he : Nat → Int32) (la : Nat → Int32) (a1 : Int32) (a2 : Int32) (hn : n ≤ 6) (h0 : ∀ h, h < 16 → inR (sd h) 0 9 = true) : v_X4_on_0 n se li wm ch ne np al kn sp py il fl wa bo so sd ro cp nr (fun r u => r = (if (inR a1 0 4 && inR a2 0 15) = true then (gtF n kn bo so sd li (ti, on, he) la (a2.toNatClampNeg + 1)).2.2.1 a1.toNatClampNeg else (-2)) ∧ u = (if (inR a1 0 4 && inR a2 0 15) = true then (gtF n kn bo so sd li (ti, on, he) la (a2.toNatClampNeg + 1)) else (wo, ti, on, he, la)))  a1 a2 wo ti on he la := by
  unfold v_X4_on_0
  simp only [bI_0, Bool.not_eq_false]
  refine ⟨fun h => ?_, fun h => ⟨fun h2 => ?_, fun h2 => ⟨by rw [← inR_16]; exact h2, h0, fun u hu => ⟨inB_in (n := 5) (by rw [← inR_b (m := 4) (by omega)]; exact h) (Nat.le_refl _) (by omega), ?_⟩⟩⟩⟩
  · simp [h]
  · simp [h2]
  · have hc : (inR a1 0 4 && inR a2 0 15) = true := by simp [h, h2]
    rw [if_pos hc, if_pos hc, hu]
    exact ⟨rfl, rfl⟩
theorem h_X4_heard (n : Nat) (se : Int32) (li : Int32) (wm : Int32) (ch : Int32) (ne : Int32) (np : Int32) (al : Int32) (kn : Nat → Int32) (sp : Nat → Int32) (py : Nat → Int32) (il : Nat → Int32) (fl : Nat → Int32) (wa : Nat → Int32) (bo : Nat → Int32) (so : Nat → Int32) (sd : Nat → Int32) (ro : Nat → Int32) (cp : Nat → Int32) (nr : Nat → Int32) (wo : Int32) (ti : Nat → Int32) (on : Nat → Int32) (he : Nat → Int32) (la : Nat → Int32) (a1 : Int32) (a2 : Int32) (hn : n ≤ 6) (h0 : ∀ h, h < 16 → inR (sd h) 0 9 = true) : v_X4_heard_0 n se li wm ch ne np al kn sp py il fl wa bo so sd ro cp nr (fun r u => r = (if (inR a1 0 4 && inR a2 0 15) = true then (gtF n kn bo so sd li (ti, on, he) la (a2.toNatClampNeg + 1)).2.2.2.1 a1.toNatClampNeg else (-2)) ∧ u = (if (inR a1 0 4 && inR a2 0 15) = true then (gtF n kn bo so sd li (ti, on, he) la (a2.toNatClampNeg + 1)) else (wo, ti, on, he, la)))  a1 a2 wo ti on he la := by
  unfold v_X4_heard_0
  simp only [bI_0, Bool.not_eq_false]
  refine ⟨fun h => ?_, fun h => ⟨fun h2 => ?_, fun h2 => ⟨by rw [← inR_16]; exact h2, h0, fun u hu => ⟨inB_in (n := 5) (by rw [← inR_b (m := 4) (by omega)]; exact h) (Nat.le_refl _) (by omega), ?_⟩⟩⟩⟩
  · simp [h]
  · simp [h2]
  · have hc : (inR a1 0 4 && inR a2 0 15) = true := by simp [h, h2]
    rw [if_pos hc, if_pos hc, hu]
    exact ⟨rfl, rfl⟩
theorem h_X4_tired (n : Nat) (se : Int32) (li : Int32) (wm : Int32) (ch : Int32) (ne : Int32) (np : Int32) (al : Int32) (kn : Nat → Int32) (sp : Nat → Int32) (py : Nat → Int32) (il : Nat → Int32) (fl : Nat → Int32) (wa : Nat → Int32) (bo : Nat → Int32) (so : Nat → Int32) (sd : Nat → Int32) (ro : Nat → Int32) (cp : Nat → Int32) (nr : Nat → Int32) (wo : Int32) (ti : Nat → Int32) (on : Nat → Int32) (he : Nat → Int32) (la : Nat → Int32) (a1 : Int32) (a2 : Int32) (hn : n ≤ 6) (h0 : ∀ h, h < 16 → inR (sd h) 0 9 = true) : v_X4_tired_0 n se li wm ch ne np al kn sp py il fl wa bo so sd ro cp nr (fun r u => r = (if (inR a1 0 (nI n - 1) && inR a2 0 15) = true then (gtF n kn bo so sd li (ti, on, he) la (a2.toNatClampNeg + 1)).2.1 a1.toNatClampNeg else (-2)) ∧ u = (if (inR a1 0 (nI n - 1) && inR a2 0 15) = true then (gtF n kn bo so sd li (ti, on, he) la (a2.toNatClampNeg + 1)) else (wo, ti, on, he, la)))  a1 a2 wo ti on he la := by
  unfold v_X4_tired_0
  simp only [bI_0, Bool.not_eq_false]
  refine ⟨fun h => ?_, fun h => ⟨fun h2 => ?_, fun h2 => ⟨by rw [← inR_16]; exact h2, h0, fun u hu => ⟨inB_in (n := n) (by rw [← inR_p hn]; exact h) hn (by omega), ?_⟩⟩⟩⟩
  · simp [h]
  · simp [h2]
  · have hc : (inR a1 0 (nI n - 1) && inR a2 0 15) = true := by simp [h, h2]
    rw [if_pos hc, if_pos hc, hu]
    exact ⟨rfl, rfl⟩
theorem h_X4_late (n : Nat) (se : Int32) (li : Int32) (wm : Int32) (ch : Int32) (ne : Int32) (np : Int32) (al : Int32) (kn : Nat → Int32) (sp : Nat → Int32) (py : Nat → Int32) (il : Nat → Int32) (fl : Nat → Int32) (wa : Nat → Int32) (bo : Nat → Int32) (so : Nat → Int32) (sd : Nat → Int32) (ro : Nat → Int32) (cp : Nat → Int32) (nr : Nat → Int32) (wo : Int32) (ti : Nat → Int32) (on : Nat → Int32) (he : Nat → Int32) (la : Nat → Int32) (a1 : Int32) (hn : n ≤ 6) (h0 : ∀ h, h < 16 → inR (sd h) 0 9 = true) : v_X4_late_0 n se li wm ch ne np al kn sp py il fl wa bo so sd ro cp nr (fun r u => r = (if inR a1 0 4 = true then (gtF n kn bo so sd li (ti, on, he) la 16).2.2.2.2 a1.toNatClampNeg else (-2)) ∧ u = (if inR a1 0 4 = true then (gtF n kn bo so sd li (ti, on, he) la 16) else (wo, ti, on, he, la)))  a1 wo ti on he la := by
  unfold v_X4_late_0
  simp only [bI_0, Bool.not_eq_false]
  refine ⟨fun h => ?_, fun h => ⟨by decide, h0, fun u hu => ⟨inB_in (n := 5) (by rw [← inR_b (m := 4) (by omega)]; exact h) (Nat.le_refl _) (by omega), ?_⟩⟩⟩
  · simp [h]
  · rw [if_pos h, if_pos h, hu]
    exact ⟨rfl, rfl⟩
theorem h_X4_worn (n : Nat) (se : Int32) (li : Int32) (wm : Int32) (ch : Int32) (ne : Int32) (np : Int32) (al : Int32) (kn : Nat → Int32) (sp : Nat → Int32) (py : Nat → Int32) (il : Nat → Int32) (fl : Nat → Int32) (wa : Nat → Int32) (bo : Nat → Int32) (so : Nat → Int32) (sd : Nat → Int32) (ro : Nat → Int32) (cp : Nat → Int32) (nr : Nat → Int32) (wo : Int32) (ti : Nat → Int32) (on : Nat → Int32) (he : Nat → Int32) (la : Nat → Int32) (hn : n ≤ 6) (h0 : ∀ h, h < 16 → inR (sd h) 0 9 = true) : v_X4_worn_0 n se li wm ch ne np al kn sp py il fl wa bo so sd ro cp nr (fun r u => r = (gtF n kn bo so sd li (ti, on, he) la 16).1 ∧ u = (gtF n kn bo so sd li (ti, on, he) la 16))   wo ti on he la := by
  unfold v_X4_worn_0
  refine ⟨by decide, h0, fun u hu => ?_⟩
  rw [hu]
  exact ⟨rfl, rfl⟩
theorem h_X4_count (n : Nat) (se : Int32) (li : Int32) (wm : Int32) (ch : Int32) (ne : Int32) (np : Int32) (al : Int32) (wo : Int32) (kn : Nat → Int32) (sp : Nat → Int32) (py : Nat → Int32) (il : Nat → Int32) (fl : Nat → Int32) (wa : Nat → Int32) (bo : Nat → Int32) (so : Nat → Int32) (sd : Nat → Int32) (ro : Nat → Int32) (cp : Nat → Int32) (nr : Nat → Int32) (ti : Nat → Int32) (on : Nat → Int32) (he : Nat → Int32) (la : Nat → Int32) (a1 : Int32) (hn : n ≤ 6) (K43 : Int32 → Int32 → Prop) (K83 : Int32 → Int32 → Prop) (R43 : ∀ x2 x3, v_X4_count_43 n se li wm ch ne np al wo kn sp py il fl wa bo so sd ro cp nr ti on he la (fun r _ => r = rcO n il bo so se a1) K43 K83 x2 x3 → K43 x2 x3) (R83 : ∀ x2 x3, v_X4_count_83 n se li wm ch ne np al wo kn sp py il fl wa bo so sd ro cp nr ti on he la (fun r _ => r = rcO n il bo so se a1) K43 K83 x2 x3 → K83 x2 x3) : v_X4_count_0 n se li wm ch ne np al wo kn sp py il fl wa bo so sd ro cp nr ti on he la (fun r _ => r = rcO n il bo so se a1) K43 K83 a1 := by
  unfold v_X4_count_0
  refine ⟨fun h => ?_, fun h => ?_, fun h => ?_, fun h => ?_, fun h => ?_, fun h => ?_⟩
  · subst h; rfl
  · subst h
    have key := up_ind (fun k => K43 (sI (fun k => if il k = 0 then 0 else 1) k) (nI k)) n (R43 _ _ ?_) (fun k hk ih => R43 _ _ ?_)
    · exact key
    · exact ⟨fun _ => rfl, fun h => absurd (nI_le (Nat.le_refl _) (by omega)) h⟩
    · refine ⟨fun h => absurd h (nI_ge hk (by omega)), fun _ => ⟨vp_in_nI (by omega) (by omega), ?_⟩⟩
      have ek : (nI k).toNatClampNeg = k := nI_clamp (by omega)
      simp only [ek, v_X4_count_66, nI_1]
      refine ⟨fun g => ?_, fun g => ?_⟩
      · simpa only [sI, if_pos g] using ih
      · simpa only [sI, if_neg g] using ih
  · subst h; rfl
  · subst h
    have key := up_ind (fun k => K83 (sI (fun k => bI (!decide (so k = -1))) k) (nI k)) 16 (R83 _ _ ?_) (fun k hk ih => R83 _ _ ?_)
    · exact key
    · exact ⟨fun _ => rfl, fun h => absurd (nI_le (a := 16) (b := 16) (Nat.le_refl _) (by omega)) h⟩
    · refine ⟨fun h => absurd h (nI_ge (b := 16) hk (by omega)), fun _ => ⟨vp_in_nI (by omega) (by omega), ?_⟩⟩
      have ek : (nI k).toNatClampNeg = k := nI_clamp (by omega)
      simp only [ek, v_X4_count_105, nI_1]
      refine ⟨fun g => ?_, fun g => ?_⟩
      · simpa [sI, g, bI] using ih
      · simpa [sI, g, bI] using ih
  · subst h; rfl
  · obtain ⟨g0, g1, g2, g3, g4⟩ := h
    rw [rcO, if_neg g0, if_neg g1, if_neg g2, if_neg g3, if_neg g4]
