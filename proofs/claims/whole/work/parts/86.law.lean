theorem nwl_in : ∀ w ∈ nwl, w ∈ lw_tbl := by decide +kernel
set_option maxHeartbeats 4000000 in
set_option maxRecDepth 100000 in
theorem lw_loop {p : Program} {l : Launch} {e : Env} {s : State} {m : MethodId} {below : List Frame} {meth : Method} {c : Code} {b L : Nat} {xs : Nat → Int32} {D : va_G} {cI cZ : ClassId} {q z : Nat → Nat} (hL : L ≤ 2048) (C0 : lw_At p s m meth c b L xs) (hK : va_K D vwCl (ty2 cI cZ) s) (hN : nst s) : ∀ (f i : Nat), i ≤ L → L + 1 ≤ i + f → LK p l e s m below meth c b (nI i) D cI cZ q z 18 := by
  have C1 := C0
  obtain ⟨hx, hb, hr, hml, hown, hts0, hXs, hbl, hlocks, hgv⟩ := C0
  have hbA : ¬ (fun a : Nat => s.heap.size ≤ a) b := Nat.not_le.mpr hbl
  intro f
  induction f with
  | zero => intro i h1 h2; exact absurd h2 (by omega)
  | succ f ih =>
    intro i hi hif
    intro n il se wo os fl wa fo sb lp fm pn wm ch ne np al wr fO wI tr fs sk ct nt so sd ti on he kn sp py bo iz bz sz ro cp nr tz oz hz la hR H locs ls hl hP hD hS
    refine lv_iload_n hx hb dL_law_18 rfl (lv_at hl 3 rfl) ?_
    refine lv_aload_n hx hb dL_law_19 rfl (lv_at hl 0 rfl) ?_
    refine va_slen hx hb hXs hbl hbA hS dL_law_20 ?_
    refine lv_iconst (v := (4 : Int32)) hx hb dL_law_21 (by decide) ?_
    refine lv_isub hx hb dL_law_22 ?_
    refine lv_icmp_gt (tgt := 737) hx hb dL_law_23 (by decide) (fun hc => ?_) (fun hc => ?_)
    · refine lv_iconst (v := 1) hx hb dL_law_737 (by decide) ?_
      refine va_forget (fun a ha => hS.2.2 a ha) ?_
      refine W.widen (k := 614567) (n := 7258546) (Nat.le_of_ble_eq_true rfl) (Nat.le_of_ble_eq_true rfl) ?_
      exact lw_ret hx hb hr hlocks dL_law_738
    · have h4 : i + 4 ≤ L := by
        rcases Nat.lt_or_ge L (i + 4) with w | w
        · exfalso
          apply hc
          show nI L - nI 4 < nI i
          rw [Int32.lt_iff_toInt_lt, pk_sub_toInt (by omega) (by omega), nI_toInt (by omega)]
          omega
        · exact w
      have v0 : vp_in (nI i) L := vp_in_nI (by omega) (by omega)
      have v1 : vp_in (nI i + 1) L := by rw [nI_1]; exact vp_in_nI (by omega) (by omega)
      have v2 : vp_in (nI i + 2) L := by rw [show nI i + 2 = nI (i + 2) from nI_add i 2]; exact vp_in_nI (by omega) (by omega)
      have v3 : vp_in (nI i + 3) L := by rw [show nI i + 3 = nI (i + 3) from nI_add i 3]; exact vp_in_nI (by omega) (by omega)
      have nx : LK p l e s m below meth c b (nI i) D cI cZ q z 731 := by
        intro n il se wo os fl wa fo sb lp fm pn wm ch ne np al wr fO wI tr fs sk ct nt so sd ti on he kn sp py bo iz bz sz ro cp nr tz oz hz la hR H locs ls hl hP hD hS
        refine lv_iinc (v := nI (i + 4)) (lv' := [(3, .int (nI (i + 4))), (0, .ref b), (1, .ref (q 17)), (2, .ref (z 0))]) hx hb dL_law_731 hl (k := 3) rfl (nI_add i 4) (by decide) rfl (fun ls hl => ?_)
        refine lv_goto (tgt := 18) hx hb dL_law_734 (by decide) ?_
        exact ih (i + 4) h4 (by omega) n il se wo os fl wa fo sb lp fm pn wm ch ne np al wr fO wI tr fs sk ct nt so sd ti on he kn sp py bo iz bz sz ro cp nr tz oz hz la hR H locs ls (lv_sub hl [1, 2, 3, 0] rfl) hP hD hS
      refine lv_aload_n hx hb dL_law_26 rfl (lv_at hl 0 rfl) ?_
      refine lv_iload_n hx hb dL_law_27 rfl (lv_at hl 3 rfl) ?_
      refine va_sld hx hb hXs hbl hbA hS v0 dL_law_28 ?_
      refine lv_bipush (v := (31 : Int32)) hx hb dL_law_29 (by decide) ?_
      refine lv_iand hx hb dL_law_31 ?_
      obtain ⟨j, hj, ej⟩ := pk_andE (xs (nI i).toNatClampNeg) (m := 31) 5 (by decide)
      rw [ej]
      rcases (show j = 0 ∨ j = 1 ∨ j = 2 ∨ j = 3 ∨ j = 4 ∨ j = 5 ∨ j = 6 ∨ j = 7 ∨ j = 8 ∨ j = 9 ∨ j = 10 ∨ j = 11 ∨ j = 12 ∨ j = 13 ∨ j = 14 ∨ j = 15 ∨ j = 16 ∨ j = 17 ∨ j = 18 ∨ j = 19 ∨ j = 20 ∨ 21 ≤ j by omega) with rfl | rfl | rfl | rfl | rfl | rfl | rfl | rfl | rfl | rfl | rfl | rfl | rfl | rfl | rfl | rfl | rfl | rfl | rfl | rfl | rfl | h21
      · refine lv_tableIn (tgt := 132) hx hb dL_law_32 (by decide) (by decide) (by rfl) (by decide) ?_
        exact lc_person C1 hK hN v1 v2 v3 nx n il se wo os fl wa fo sb lp fm pn wm ch ne np al wr fO wI tr fs sk ct nt so sd ti on he kn sp py bo iz bz sz ro cp nr tz oz hz la hR H locs ls hl hP hD hS
      · refine lv_tableIn (tgt := 175) hx hb dL_law_32 (by decide) (by decide) (by rfl) (by decide) ?_
        exact lc_ill C1 hK hN v1 v2 v3 nx n il se wo os fl wa fo sb lp fm pn wm ch ne np al wr fO wI tr fs sk ct nt so sd ti on he kn sp py bo iz bz sz ro cp nr tz oz hz la hR H locs ls hl hP hD hS
      · refine lv_tableIn (tgt := 224) hx hb dL_law_32 (by decide) (by decide) (by rfl) (by decide) ?_
        exact lc_session C1 hK hN v1 v2 v3 nx n il se wo os fl wa fo sb lp fm pn wm ch ne np al wr fO wI tr fs sk ct nt so sd ti on he kn sp py bo iz bz sz ro cp nr tz oz hz la hR H locs ls hl hP hD hS
      · refine lv_tableIn (tgt := 267) hx hb dL_law_32 (by decide) (by decide) (by rfl) (by decide) ?_
        exact lc_seats C1 hK hN v1 v2 v3 nx n il se wo os fl wa fo sb lp fm pn wm ch ne np al wr fO wI tr fs sk ct nt so sd ti on he kn sp py bo iz bz sz ro cp nr tz oz hz la hR H locs ls hl hP hD hS
      · refine lv_tableIn (tgt := 290) hx hb dL_law_32 (by decide) (by decide) (by rfl) (by decide) ?_
        exact lc_whole C1 hK hN v1 v2 v3 nx n il se wo os fl wa fo sb lp fm pn wm ch ne np al wr fO wI tr fs sk ct nt so sd ti on he kn sp py bo iz bz sz ro cp nr tz oz hz la hR H locs ls hl hP hD hS
      · refine lv_tableIn (tgt := 313) hx hb dL_law_32 (by decide) (by decide) (by rfl) (by decide) ?_
        exact lc_cheapest C1 hK hN v1 v2 v3 nx n il se wo os fl wa fo sb lp fm pn wm ch ne np al wr fO wI tr fs sk ct nt so sd ti on he kn sp py bo iz bz sz ro cp nr tz oz hz la hR H locs ls hl hP hD hS
      · refine lv_tableIn (tgt := 336) hx hb dL_law_32 (by decide) (by decide) (by rfl) (by decide) ?_
        exact lc_nearest C1 hK hN v1 v2 v3 nx n il se wo os fl wa fo sb lp fm pn wm ch ne np al wr fO wI tr fs sk ct nt so sd ti on he kn sp py bo iz bz sz ro cp nr tz oz hz la hR H locs ls hl hP hD hS
      · refine lv_tableIn (tgt := 359) hx hb dL_law_32 (by decide) (by decide) (by rfl) (by decide) ?_
        exact lc_take C1 hK hN v1 v2 v3 nx n il se wo os fl wa fo sb lp fm pn wm ch ne np al wr fO wI tr fs sk ct nt so sd ti on he kn sp py bo iz bz sz ro cp nr tz oz hz la hR H locs ls hl hP hD hS
      · refine lv_tableIn (tgt := 392) hx hb dL_law_32 (by decide) (by decide) (by rfl) (by decide) ?_
        exact lc_leave C1 hK hN v1 v2 v3 nx n il se wo os fl wa fo sb lp fm pn wm ch ne np al wr fO wI tr fs sk ct nt so sd ti on he kn sp py bo iz bz sz ro cp nr tz oz hz la hR H locs ls hl hP hD hS
      · refine lv_tableIn (tgt := 405) hx hb dL_law_32 (by decide) (by decide) (by rfl) (by decide) ?_
        exact lc_booth C1 hK hN v1 v2 v3 nx n il se wo os fl wa fo sb lp fm pn wm ch ne np al wr fO wI tr fs sk ct nt so sd ti on he kn sp py bo iz bz sz ro cp nr tz oz hz la hR H locs ls hl hP hD hS
      · refine lv_tableIn (tgt := 428) hx hb dL_law_32 (by decide) (by decide) (by rfl) (by decide) ?_
        exact lc_lacking C1 hK hN v1 v2 v3 nx n il se wo os fl wa fo sb lp fm pn wm ch ne np al wr fO wI tr fs sk ct nt so sd ti on he kn sp py bo iz bz sz ro cp nr tz oz hz la hR H locs ls hl hP hD hS
      · refine lv_tableIn (tgt := 451) hx hb dL_law_32 (by decide) (by decide) (by rfl) (by decide) ?_
        exact lc_needed C1 hK hN v1 v2 v3 nx n il se wo os fl wa fo sb lp fm pn wm ch ne np al wr fO wI tr fs sk ct nt so sd ti on he kn sp py bo iz bz sz ro cp nr tz oz hz la hR H locs ls hl hP hD hS
      · refine lv_tableIn (tgt := 484) hx hb dL_law_32 (by decide) (by decide) (by rfl) (by decide) ?_
        exact lc_speak C1 hK hN v1 v2 v3 nx n il se wo os fl wa fo sb lp fm pn wm ch ne np al wr fO wI tr fs sk ct nt so sd ti on he kn sp py bo iz bz sz ro cp nr tz oz hz la hR H locs ls hl hP hD hS
      · refine lv_tableIn (tgt := 527) hx hb dL_law_32 (by decide) (by decide) (by rfl) (by decide) ?_
        exact lc_silence C1 hK hN v1 v2 v3 nx n il se wo os fl wa fo sb lp fm pn wm ch ne np al wr fO wI tr fs sk ct nt so sd ti on he kn sp py bo iz bz sz ro cp nr tz oz hz la hR H locs ls hl hP hD hS
      · refine lv_tableIn (tgt := 550) hx hb dL_law_32 (by decide) (by decide) (by rfl) (by decide) ?_
        exact lc_limit C1 hK hN v1 v2 v3 nx n il se wo os fl wa fo sb lp fm pn wm ch ne np al wr fO wI tr fs sk ct nt so sd ti on he kn sp py bo iz bz sz ro cp nr tz oz hz la hR H locs ls hl hP hD hS
      · refine lv_tableIn (tgt := 573) hx hb dL_law_32 (by decide) (by decide) (by rfl) (by decide) ?_
        exact lc_on C1 hK hN v1 v2 v3 nx n il se wo os fl wa fo sb lp fm pn wm ch ne np al wr fO wI tr fs sk ct nt so sd ti on he kn sp py bo iz bz sz ro cp nr tz oz hz la hR H locs ls hl hP hD hS
      · refine lv_tableIn (tgt := 606) hx hb dL_law_32 (by decide) (by decide) (by rfl) (by decide) ?_
        exact lc_heard C1 hK hN v1 v2 v3 nx n il se wo os fl wa fo sb lp fm pn wm ch ne np al wr fO wI tr fs sk ct nt so sd ti on he kn sp py bo iz bz sz ro cp nr tz oz hz la hR H locs ls hl hP hD hS
      · refine lv_tableIn (tgt := 639) hx hb dL_law_32 (by decide) (by decide) (by rfl) (by decide) ?_
        exact lc_tired C1 hK hN v1 v2 v3 nx n il se wo os fl wa fo sb lp fm pn wm ch ne np al wr fO wI tr fs sk ct nt so sd ti on he kn sp py bo iz bz sz ro cp nr tz oz hz la hR H locs ls hl hP hD hS
      · refine lv_tableIn (tgt := 672) hx hb dL_law_32 (by decide) (by decide) (by rfl) (by decide) ?_
        exact lc_late C1 hK hN v1 v2 v3 nx n il se wo os fl wa fo sb lp fm pn wm ch ne np al wr fO wI tr fs sk ct nt so sd ti on he kn sp py bo iz bz sz ro cp nr tz oz hz la hR H locs ls hl hP hD hS
      · refine lv_tableIn (tgt := 695) hx hb dL_law_32 (by decide) (by decide) (by rfl) (by decide) ?_
        exact lc_worn C1 hK hN v1 v2 v3 nx n il se wo os fl wa fo sb lp fm pn wm ch ne np al wr fO wI tr fs sk ct nt so sd ti on he kn sp py bo iz bz sz ro cp nr tz oz hz la hR H locs ls hl hP hD hS
      · refine lv_tableIn (tgt := 708) hx hb dL_law_32 (by decide) (by decide) (by rfl) (by decide) ?_
        exact lc_count C1 hK hN v1 v2 v3 nx n il se wo os fl wa fo sb lp fm pn wm ch ne np al wr fO wI tr fs sk ct nt so sd ti on he kn sp py bo iz bz sz ro cp nr tz oz hz la hR H locs ls hl hP hD hS
      · refine lv_tableOut (tgt := 731) hx hb dL_law_32 (Or.inr (by rw [nI_toInt (by omega)]; omega)) (by decide) ?_
        exact nx n il se wo os fl wa fo sb lp fm pn wm ch ne np al wr fO wI tr fs sk ct nt so sd ti on he kn sp py bo iz bz sz ro cp nr tz oz hz la hR H locs ls hl hP hD hS
set_option maxHeartbeats 4000000 in
set_option maxRecDepth 100000 in
/-- from the entry, for every script of at most 2048 ints, the law comes to its end with true -/
theorem whole_start {p : Program} {e : Env} {s : State} {m : MethodId} {below : List Frame} {meth : Method} {c : Code} (l : Launch) {b L : Nat} {xs : Nat → Int32} (hL : L ≤ 2048) (C0 : lw_At p s m meth c b L xs) : W p l e room_1 s m #[Value.ref b] below meth c s.heap [] 0 0 (lw_Z below #[Value.ref b] s) (entryFrame m ([Value.ref b] : List Value).toArray 4) := by
  obtain ⟨hx, hb, hr, hml, hown, hts, hX, hbl, hlocks, hgv⟩ := id C0
  have htsL : ∀ w ∈ wsL_law, w.before #[Value.ref b] s = true := fun w h => hts w (wsL_law_in w h)
  have hown : s.vm.findClass RL = some m.cls := hown
  have hA : ∀ a : Nat, s.heap.size ≤ a → (fun a : Nat => s.heap.size ≤ a) a := fun _ h => h
  have hbA : ¬ (fun a : Nat => s.heap.size ≤ a) b := Nat.not_le.mpr hbl
  obtain ⟨c0, iS0, hKn0⟩ := u_known (C := RX0) (T := TX0) (N := 6) (n := 6) hts inX0 (hts (.instantiable RX0 6) (by decide +kernel))
  obtain ⟨c1, iS1, hKn1⟩ := u_known (C := RX1) (T := TX1) (N := 6) (n := 6) hts inX1 (hts (.instantiable RX1 6) (by decide +kernel))
  obtain ⟨c2, iS2, hKn2⟩ := u_known (C := RX2) (T := TX2) (N := 14) (n := 14) hts inX2 (hts (.instantiable RX2 14) (by decide +kernel))
  obtain ⟨c3, iS3, hKn3⟩ := u_known (C := RX3) (T := TX3) (N := 7) (n := 7) hts inX3 (hts (.instantiable RX3 7) (by decide +kernel))
  obtain ⟨c4, iS4, hKn4⟩ := u_known (C := RX4) (T := TX4) (N := 25) (n := 25) hts inX4 (hts (.instantiable RX4 25) (by decide +kernel))
  obtain ⟨dC, dI, hKc⟩ : ∃ (dC : Nat → ClassId) (dI : Nat → Nat → Nat), ∀ (k : Nat) (r : vw_C), vwCl[k]? = some r → u_Kn s r.1 r.2.1 r.2.2 (dC k) (dI k) := by
    refine ⟨fun k => match k with | 0 => c0 | 1 => c1 | 2 => c2 | 3 => c3 | _ => c4, fun k => match k with | 0 => iS0 | 1 => iS1 | 2 => iS2 | 3 => iS3 | _ => iS4, ?_⟩
    intro k r hr
    match k, hr with
    | 0, hr => cases hr; exact hKn0
    | 1, hr => cases hr; exact hKn1
    | 2, hr => cases hr; exact hKn2
    | 3, hr => cases hr; exact hKn3
    | 4, hr => cases hr; exact hKn4
    | k + 5, hr => simp [vwCl] at hr
  obtain ⟨cI, kI, coI, i1, i2, i3⟩ := Cond.arrayClass_spec (hts (.arrayClass .int) (by decide +kernel))
  obtain ⟨cZ, kZ, coZ, j1, j2, j3⟩ := Cond.arrayClass_spec (hts (.arrayClass .boolean) (by decide +kernel))
  have hAI : ArrOfT s cI .int := fun n z => ⟨fun k h => (by cases h), kI, i2, coI, i3⟩
  have hAZ : ArrOfT s cZ .boolean := fun n z => ⟨fun k h => (by cases h), kZ, j2, coZ, j3⟩
  have hN : nst s := nst.of (A := #[Value.ref b]) (fun w hw => hts w (nwl_in w hw))
  have hS : va_S (fun a : Nat => s.heap.size ≤ a) s.heap s.heap [] := va_S.rf
  have hK : va_K (dC, dI) vwCl (ty2 cI cZ) s := ⟨hKc, fun k r h => by
    match k, h with
    | 0, h => cases h; exact ⟨hAI, i1⟩
    | 1, h => cases h; exact ⟨hAZ, j1⟩
    | k + 2, h => simp at h⟩
  have hP : va_P (dC, dI) vwCl [] s.heap := fun k r h => by simp at h
  have hD : va_D (fun a : Nat => s.heap.size ≤ a) [] := ⟨fun i j p q h => by simp at h, fun k r h => by simp at h⟩
  have hl := lv_entry ([.ref b]) (n := 4) (Nat.le_of_ble_eq_true rfl)
  rw [lg_entry_eq]
  generalize (lg_sl ([.ref b]) ++ List.replicate (4 - (lg_sl ([.ref b])).length) Slot.unset).toArray = ls at hl ⊢
  have hl : lv_has ls 4 [(0, .ref b)] := hl
  obtain ⟨H, hH⟩ : ∃ H, H = s.heap := ⟨_, rfl⟩
  have hP : va_P (dC, dI) vwCl [] H := by rw [hH]; exact hP
  have hS : va_S (fun a : Nat => s.heap.size ≤ a) s.heap H [] := by rw [hH]; exact hS
  rw [← hH]
  refine va_new (D := (dC, dI)) (ci := 3) (fs := [.null, .null, .null, .null, .null, .int 0, .int 0]) (C := RX3) (T := TX3) (N := 7) hx hb hts inX3 tyX3 tyX3_ok hown (hts (.classLink RL 7 RX3) (by decide +kernel)) (hts (.instantiable RX3 7) (by decide +kernel)) (hts (.initialized RX3) (by decide +kernel)) hK hP hD hS hA rfl (fun j hj => by rcases (show j = 0 ∨ j = 1 ∨ j = 2 ∨ j = 3 ∨ j = 4 ∨ j = 5 ∨ j = 6 by omega) with rfl | rfl | rfl | rfl | rfl | rfl | rfl <;> rfl) (Nat.le_of_ble_eq_true rfl) (Nat.le_of_ble_eq_true rfl) dL_law_0 (fun a3 H hP hD hS => ?_)
  have hP : va_P (dC, dI) vwCl ([(a3, .inr (3, [.null, .null, .null, .null, .null, .int 0, .int 0]))]) H := hP
  have hD : va_D (fun a : Nat => s.heap.size ≤ a) ([(a3, .inr (3, [.null, .null, .null, .null, .null, .int 0, .int 0]))]) := hD
  refine W.widen (k := 1) (n := 7) (Nat.le_of_ble_eq_true rfl) (Nat.le_of_ble_eq_true rfl) ?_
  refine lv_dup hx hb dL_law_3 rfl ?_
  refine zc_n (fun q : Nat → Nat => (wM cI q 1 20 z0 z0 ++ wS cI q 0 0 0 0 0 0 0 0 (fillA z0 6 5) z0 z0 z0 z0 ++ wD cI q (fillA z0 16 (-1)) z0 z0 z0 z0 ++ wP cI q 0 0 z0 z0 z0 z0)) [0] [] [0, 1, 2, 3, 4, 5, 6, 7, 8, 9, 10, 11, 12, 13, 14, 15, 16, 17, 18, 19] (va_runI (As := []) (rest := [.ref a3]) ⟨hx, hb, hml, hown, htsL⟩ ((c_X3_init l (dC, dI) cI cZ a3) H.size) (cwI 0 htsL gL_law_X3_init rfl rfl rfl (hts (.initialized RX3) (by decide +kernel)) (hts (.methodLink RL 9 yX3_init) (by decide +kernel)) (hts (.instanceMethod yX3_init) (by decide +kernel)) rfl (by decide +kernel) ⟨(Nat.le_of_ble_eq_true rfl), (Nat.le_of_ble_eq_true rfl)⟩) (ps_of (As := [.ref a3]) hK hN hP hD [0] rfl rfl) rfl rfl hl.1 rfl (lv_room (Nat.le_of_ble_eq_true rfl)) dL_law_4 ⟨(Nat.le_of_ble_eq_true rfl), (Nat.le_of_ble_eq_true rfl)⟩) hP hD hS hA rfl rfl rfl (by decide) (fun _ => rfl) rfl (fun q H locs hu hP9 hD9 hS9 => ?_)
  subst hu
  have hS := hS9
  have hP : va_P (dC, dI) vwCl (wM cI q 1 20 z0 z0 ++ wS cI q 0 0 0 0 0 0 0 0 (fillA z0 6 5) z0 z0 z0 z0 ++ wD cI q (fillA z0 16 (-1)) z0 z0 z0 z0 ++ wP cI q 0 0 z0 z0 z0 z0) H := hP9
  have hD : va_D (fun a : Nat => s.heap.size ≤ a) (wM cI q 1 20 z0 z0 ++ wS cI q 0 0 0 0 0 0 0 0 (fillA z0 6 5) z0 z0 z0 z0 ++ wD cI q (fillA z0 16 (-1)) z0 z0 z0 z0 ++ wP cI q 0 0 z0 z0 z0 z0) := hD9
  refine W.widen (k := 20) (n := 137) (Nat.le_of_ble_eq_true rfl) (Nat.le_of_ble_eq_true rfl) ?_
  refine lv_astore_n (lv' := [(1, .ref (q 17)), (0, .ref b)]) hx hb dL_law_7 rfl hl (by decide) rfl (fun ls hl => ?_)
  refine va_new (D := (dC, dI)) (ci := 4) (fs := [.int 0, .null, .null, .null, .null, .null, .null, .int 0, .null, .null, .null, .int 0, .null, .int 0, .int 0, .null, .int 0, .int 0, .null, .int 0, .null, .null, .null, .int 0, .null]) (C := RX4) (T := TX4) (N := 25) hx hb hts inX4 tyX4 tyX4_ok hown (hts (.classLink RL 10 RX4) (by decide +kernel)) (hts (.instantiable RX4 25) (by decide +kernel)) (hts (.initialized RX4) (by decide +kernel)) hK hP hD hS hA rfl (fun j hj => by rcases (show j = 0 ∨ j = 1 ∨ j = 2 ∨ j = 3 ∨ j = 4 ∨ j = 5 ∨ j = 6 ∨ j = 7 ∨ j = 8 ∨ j = 9 ∨ j = 10 ∨ j = 11 ∨ j = 12 ∨ j = 13 ∨ j = 14 ∨ j = 15 ∨ j = 16 ∨ j = 17 ∨ j = 18 ∨ j = 19 ∨ j = 20 ∨ j = 21 ∨ j = 22 ∨ j = 23 ∨ j = 24 by omega) with rfl | rfl | rfl | rfl | rfl | rfl | rfl | rfl | rfl | rfl | rfl | rfl | rfl | rfl | rfl | rfl | rfl | rfl | rfl | rfl | rfl | rfl | rfl | rfl | rfl <;> rfl) (Nat.le_of_ble_eq_true rfl) (Nat.le_of_ble_eq_true rfl) dL_law_8 (fun a4 H hP hD hS => ?_)
  have hP : va_P (dC, dI) vwCl ((wM cI q 1 20 z0 z0 ++ wS cI q 0 0 0 0 0 0 0 0 (fillA z0 6 5) z0 z0 z0 z0 ++ wD cI q (fillA z0 16 (-1)) z0 z0 z0 z0 ++ wP cI q 0 0 z0 z0 z0 z0) ++ [(a4, .inr (4, [.int 0, .null, .null, .null, .null, .null, .null, .int 0, .null, .null, .null, .int 0, .null, .int 0, .int 0, .null, .int 0, .int 0, .null, .int 0, .null, .null, .null, .int 0, .null]))]) H := hP
  have hD : va_D (fun a : Nat => s.heap.size ≤ a) ((wM cI q 1 20 z0 z0 ++ wS cI q 0 0 0 0 0 0 0 0 (fillA z0 6 5) z0 z0 z0 z0 ++ wD cI q (fillA z0 16 (-1)) z0 z0 z0 z0 ++ wP cI q 0 0 z0 z0 z0 z0) ++ [(a4, .inr (4, [.int 0, .null, .null, .null, .null, .null, .null, .int 0, .null, .null, .null, .int 0, .null, .int 0, .int 0, .null, .int 0, .int 0, .null, .int 0, .null, .null, .null, .int 0, .null]))]) := hD
  refine W.widen (k := 21) (n := 162) (Nat.le_of_ble_eq_true rfl) (Nat.le_of_ble_eq_true rfl) ?_
  refine lv_dup hx hb dL_law_11 rfl ?_
  refine zc_n (fun z : Nat → Nat => ((wM cI q 1 20 z0 z0 ++ wS cI q 0 0 0 0 0 0 0 0 (fillA z0 6 5) z0 z0 z0 z0 ++ wD cI q (fillA z0 16 (-1)) z0 z0 z0 z0 ++ wP cI q 0 0 z0 z0 z0 z0) ++ wR cI cZ z 0 1 20 0 0 0 0 0 0 z0 z0 z0 z0 z0 z0 (fillA z0 6 5) (fillA z0 16 (-1)) z0 z0 z0 z0 z0 z0 z0 z0)) [20] [0, 1, 2, 3, 4, 5, 6, 7, 8, 9, 10, 11, 12, 13, 14, 15, 16, 17, 18, 19] [0, 1, 2, 3, 4, 5, 6, 7, 8, 9, 10, 11, 12, 13, 14, 15, 16, 17, 18, 19, 20, 21, 22, 23, 24, 25, 26, 27, 28, 29, 30, 31, 32, 33, 34, 35, 36] (va_runI (As := []) (rest := [.ref a4]) ⟨hx, hb, hml, hown, htsL⟩ ((c_X4_init l (dC, dI) cI cZ a4) H.size) (cwI 0 htsL gL_law_X4_init rfl rfl rfl (hts (.initialized RX4) (by decide +kernel)) (hts (.methodLink RL 12 yX4_init) (by decide +kernel)) (hts (.instanceMethod yX4_init) (by decide +kernel)) rfl (by decide +kernel) ⟨(Nat.le_of_ble_eq_true rfl), (Nat.le_of_ble_eq_true rfl)⟩) (ps_of (As := [.ref a4]) hK hN hP hD [20] rfl rfl) rfl rfl hl.1 rfl (lv_room (Nat.le_of_ble_eq_true rfl)) dL_law_12 ⟨(Nat.le_of_ble_eq_true rfl), (Nat.le_of_ble_eq_true rfl)⟩) hP hD hS hA rfl rfl rfl (by decide) (fun _ => rfl) rfl (fun z H locs hu hP9 hD9 hS9 => ?_)
  subst hu
  have hS := hS9
  have hP : va_P (dC, dI) vwCl ((wM cI q 1 20 z0 z0 ++ wS cI q 0 0 0 0 0 0 0 0 (fillA z0 6 5) z0 z0 z0 z0 ++ wD cI q (fillA z0 16 (-1)) z0 z0 z0 z0 ++ wP cI q 0 0 z0 z0 z0 z0) ++ wR cI cZ z 0 1 20 0 0 0 0 0 0 z0 z0 z0 z0 z0 z0 (fillA z0 6 5) (fillA z0 16 (-1)) z0 z0 z0 z0 z0 z0 z0 z0) H := hP9
  have hD : va_D (fun a : Nat => s.heap.size ≤ a) ((wM cI q 1 20 z0 z0 ++ wS cI q 0 0 0 0 0 0 0 0 (fillA z0 6 5) z0 z0 z0 z0 ++ wD cI q (fillA z0 16 (-1)) z0 z0 z0 z0 ++ wP cI q 0 0 z0 z0 z0 z0) ++ wR cI cZ z 0 1 20 0 0 0 0 0 0 z0 z0 z0 z0 z0 z0 (fillA z0 6 5) (fillA z0 16 (-1)) z0 z0 z0 z0 z0 z0 z0 z0) := hD9
  refine W.widen (k := 37) (n := 267) (Nat.le_of_ble_eq_true rfl) (Nat.le_of_ble_eq_true rfl) ?_
  refine lv_astore_n (lv' := [(2, .ref (z 0)), (1, .ref (q 17)), (0, .ref b)]) hx hb dL_law_15 rfl hl (by decide) rfl (fun ls hl => ?_)
  refine lv_iconst (v := (0 : Int32)) hx hb dL_law_16 (by decide) ?_
  refine lv_istore_n (lv' := [(3, .int 0), (2, .ref (z 0)), (1, .ref (q 17)), (0, .ref b)]) hx hb dL_law_17 rfl hl (by decide) rfl (fun ls hl => ?_)
  exact lw_loop hL C0 hK hN (L + 1) 0 (Nat.zero_le _) (by omega) 0 0 1 20 0 0 0 0 0 0 0 0 0 0 0 0 0 0 z0 z0 (fillA z0 6 5) z0 z0 z0 z0 (fillA z0 16 (-1)) z0 z0 z0 z0 z0 z0 z0 z0 z0 (fillA z0 6 5) z0 z0 z0 z0 z0 z0 z0 z0 Rel_0 H locs ls (lv_sub hl [3, 2, 1, 0] rfl) hP hD hS
set_option maxHeartbeats 4000000 in
theorem lw_walk (l : Launch) (b : Addr) (xs : List Int32) : MetFree l x (headSpec (Jvm.Cond.code x code maxLocals ret :: tables_1) room_1) (lw_P b xs) (fun _ _ _ _ _ => True) lw_Q := by
  refine MetFree.of_bodyS (code := code) (maxLocals := maxLocals) (ret := ret) (by decide) ?_ ?_
  · intro args s m h hn
    obtain ⟨meth, c, h1, h2, h3, h4, h5, h6, -, -⟩ := Cond.code_spec hn (atoms_spec (ws := Jvm.Cond.code x code maxLocals ret :: tables_1) h _ List.mem_cons_self)
    exact ⟨meth, c, h1, h2, h3, h4, h5, h6⟩
  · intro p e s m args below meth c s₁ B hml0 hP _
    obtain ⟨rfl, hx, hbd, hgv⟩ := hP
    obtain ⟨scr, harrAt, hlist, hof, hsmall⟩ := hx
    obtain ⟨hcb, hkn, -, -⟩ := State.arrayAt?_spec harrAt
    have hown : s.vm.findClass R_law = some m.cls := findClass_of_methodNamed B.named
    have hts0 : ∀ c ∈ (Jvm.Cond.code x code maxLocals ret :: tables_1), c.before #[Value.ref b] s = true := atoms_spec (ws := Jvm.Cond.code x code maxLocals ret :: tables_1) B.pre
    have hts : ∀ w ∈ lw_tbl, w.before #[Value.ref b] s = true := k2_hts_sels lw_privs (fun w hw => hts0 w (List.mem_cons_of_mem _ hw)) lw_privs_ok
    have hml : c.maxLocals = 4 := B.maxLocals_eq (hts0 _ List.mem_cons_self)
    have X₀ : Stand p l e room_1 s m #[Value.ref b] below meth c s₁ [] 0 0 := Stand.of_body B
    have hh0 : s₁.heap = s.heap := by rw [B.state]; rfl
    have hsz : scr.slots.size = xs.length := by rw [← Array.length_toList, hlist, List.length_map]
    have hval : ∀ j : Nat, j < xs.length → scr.slots[j]? = some (.int (xs.getD j 0)) := fun j hj => by
      rw [← Array.getElem?_toList, hlist]
      simp [hj]
    have hbl : b < s.heap.size := (Array.getElem?_eq_some_iff.mp hcb).1
    have hX : va_X b xs.length (fun j => xs.getD j 0) s s.heap := ⟨scr, hcb, hof, hkn, hsz, hval⟩
    have K : W p l e room_1 s m #[Value.ref b] below meth c s₁.heap [] 0 0 (lw_Z below #[Value.ref b] s) (entryFrame m ([Value.ref b] : List Value).toArray 4) := by
      rw [hh0]
      exact whole_start l hbd ⟨B.exec, B.bytes, B.returns, hml, hown, hts, hX, hbl, B.notSynchronized, hgv⟩
    obtain ⟨t, a1, o, b1, b2, b3⟩ := K s₁ rfl X₀
    exact ⟨t, o, a1, b1, b2, b3⟩
theorem lw_pre_spec {args : Array Value} {s : State} (h : (Jvm.Cond.and given_1 narrow_1).before args s = true) (hr : rest_1_c.before args s = true) : ∃ (b : Addr) (xs : List Int32), lw_P b xs args s := by
  have hs := flat_of_before _ h
  have hq := flat_of_before _ hr
  have hc : (Cond.count 1).before args s = true := hs _ (by decide +kernel)
  have harr : (Cond.arrayOf (.arg 0) .int).before args s = true := hs _ (by decide +kernel)
  have hle : (Cond.le (.length (.arg 0)) (.int 2048)).before args s = true := hs _ (by decide +kernel)
  have hlen : (Cond.isInt (.length (.arg 0))).before args s = true := hq _ (by decide +kernel)
  have hall : (Cond.all (.arg 0) (.isInt (.elem (.arg 0) (.index 0)))).before args s = true := hq _ (by decide +kernel)
  obtain ⟨b, xs, hb, hx⟩ := State.ints_of_pre rfl harr hlen hall
  have hsm : xs.length < 2 ^ 31 := hx.choose_spec.2.2.2
  have hev : (Term.length (.arg 0)).eval args s none [] s = some (.int xs.length.toInt32) := hx.length_eval hb
  have hv := Cond.le_ints hev (show (Term.int 2048).eval args s none [] s = some (.int 2048) from rfl)
  have hd : xs.length.toInt32 ≤ 2048 := by
    simpa [Cond.before, Cond.holds, hv] using hle
  have hN : xs.length ≤ 2048 := (Int32.ofNat_le_ofNat hsm (by decide)).mp (show Int32.ofNat xs.length ≤ Int32.ofNat 2048 from hd)
  exact ⟨b, xs, Cond.one_arg hc (show args[0]? = some (.ref b) from hb), hx, hN, h⟩
theorem lw_comes (l : Launch) : Comes l x (Jvm.Cond.code x code maxLocals ret :: tables_1) room_1 (fun tb e args s => Calls_1 tb e args s ∧ rest_1 tb e args s ∧ Pre_1 tb e args s)
    (fun _ _ args s o t => lw_Q args s o t) := by
  intro p e ha hc hk s m args below hf hfit hheap happ hpre
  obtain ⟨b, xs, hP⟩ := lw_pre_spec hpre.2.2 hpre.2.1
  obtain ⟨k, o, h1, h2, h3, hQ⟩ := lw_walk l b xs p e ha hc hk s m args below hf ((Spec.applies_iff_loose hf).mp happ).1 hP trivial
  exact ⟨k, o, h1, h2, h3, hQ⟩
theorem lw_frame {s t : State} {o : Outcome} {args : Array Value} (h : Framed s o t [] 614567 7258546) :
    Framed s o t (fieldLocs frame_1_writes args s ++ arrayLocs frame_1_arrays args s ++ staticLocs frame_1_statics s) 614567 7258546 := h
theorem lw_limb (L : Cond) (hL : ∀ (args : Array Value) (s t : State), L.after args s (.returned (some (.int 1))) t = true) :
    ArmFor flags0 classFile x code maxLocals ret World_1 tables_1 room_1 Calls_1 rest_1 Pre_1
      (fun tb e a s o t => postC L tb e a s o t ∧ Framed s o t (fieldLocs frame_1_writes a s ++ arrayLocs frame_1_arrays a s ++ staticLocs frame_1_statics s) 614567 7258546) := by
  intro l _ _ _ p e ha hc hk s m args below hf hfit hheap happ hpre
  obtain ⟨k, o, h1, h2, h3, rfl, hF⟩ := lw_comes l p e ha hc hk s m args below hf hfit hheap happ hpre
  exact ⟨k, _, h1, h2, h3, hL args s _, lw_frame hF⟩
theorem i_vc : Claimed_1_1 ∧ Claimed_1_2 := ⟨lw_limb limb_1_1 (fun args s t => by simp [limb_1_1, Cond.after, Cond.holds, Cond.value]), lw_limb limb_1_2 (fun args s t => Cond.after_iff.mpr (by
  first | (rw [show limb_1_2 = Cond.eq .result (.int 1) from rfl, Cond.eq_ints (x := 1) (y := 1) rfl rfl]; simp; done) | (simp [limb_1_2, Cond.value, Term.eval]; done)))⟩
