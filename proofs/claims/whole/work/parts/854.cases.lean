set_option maxHeartbeats 4000000 in
set_option maxRecDepth 100000 in
theorem lc_speak {p : Program} {l : Launch} {e : Env} {s : State} {m : MethodId} {below : List Frame} {meth : Method} {c : Code} {b L : Nat} {xs : Nat → Int32} {x3 : Int32} {D : va_G} {cI cZ : ClassId} {q z : Nat → Nat} (C0 : lw_At p s m meth c b L xs) (hK : va_K D vwCl (ty2 cI cZ) s) (hN : nst s) (v1 : vp_in (x3 + 1) L) (v2 : vp_in (x3 + 2) L) (v3 : vp_in (x3 + 3) L) (hX : LK p l e s m below meth c b x3 D cI cZ q z 731) : LK p l e s m below meth c b x3 D cI cZ q z 484 := by
  obtain ⟨hx, hb, hr, hml, hown, hts0, hXs, hbl, hlocks, hgv⟩ := C0
  have hts : ∀ w ∈ wsL_law, w.before #[Value.ref b] s = true := fun w h => hts0 w (wsL_law_in w h)
  have hown : s.vm.findClass RL = some m.cls := hown
  have hA : ∀ a : Nat, s.heap.size ≤ a → (fun a : Nat => s.heap.size ≤ a) a := fun _ h => h
  have hbA : ¬ (fun a : Nat => s.heap.size ≤ a) b := Nat.not_le.mpr hbl
  intro n il se wo os fl wa fo sb lp fm pn wm ch ne np al wr fO wI tr fs sk ct nt so sd ti on he kn sp py bo iz bz sz ro cp nr tz oz hz la hR H locs ls hl hP hD hS
  have hn := hR.1
  have hsz := hR.2.2.2.2.2.2.2.2.2.2
  refine lv_aload_n hx hb dL_law_484 rfl (lv_at hl 1 rfl) ?_
  refine lv_aload_n hx hb dL_law_485 rfl (lv_at hl 0 rfl) ?_
  refine lv_iload_n hx hb dL_law_486 rfl (lv_at hl 3 rfl) ?_
  refine lv_iconst (v := (1 : Int32)) hx hb dL_law_487 (by decide) ?_
  refine lv_iadd hx hb dL_law_488 ?_
  refine va_sld hx hb hXs hbl hbA hS v1 dL_law_489 ?_
  refine lv_aload_n hx hb dL_law_490 rfl (lv_at hl 0 rfl) ?_
  refine lv_iload_n hx hb dL_law_491 rfl (lv_at hl 3 rfl) ?_
  refine lv_iconst (v := (2 : Int32)) hx hb dL_law_492 (by decide) ?_
  refine lv_iadd hx hb dL_law_493 ?_
  refine va_sld hx hb hXs hbl hbA hS v2 dL_law_494 ?_
  refine lv_aload_n hx hb dL_law_495 rfl (lv_at hl 0 rfl) ?_
  refine lv_iload_n hx hb dL_law_496 rfl (lv_at hl 3 rfl) ?_
  refine lv_iconst (v := (3 : Int32)) hx hb dL_law_497 (by decide) ?_
  refine lv_iadd hx hb dL_law_498 ?_
  refine va_sld hx hb hXs hbl hbA hS v3 dL_law_499 ?_
  refine zc_L [0, 1, 2, 3, 4, 5, 6, 7, 8, 9, 10, 11, 12, 13, 14, 15, 16, 17, 18, 19] [20, 21, 22, 23, 24, 25, 26, 27, 28, 29, 30, 31, 32, 33, 34, 35, 36] rfl rfl rfl (by decide) (va_runV (As := [.int (xs (x3 + 1).toNatClampNeg), .int (xs (x3 + 2).toNatClampNeg), .int (xs (x3 + 3).toNatClampNeg)]) (rest := []) ⟨hx, hb, hml, hown, hts⟩ ((c_X3_speak l D cI cZ q se wo fO wI os fl wa fo sb lp fm pn tr fs sk ct nt so sd ti on he n il kn sp py bo (xs (x3 + 1).toNatClampNeg) (xs (x3 + 2).toNatClampNeg) (xs (x3 + 3).toNatClampNeg) hn ) H.size) (cwV 3 hts gL_law_X3_speak rfl rfl rfl (by decide +kernel) ⟨(Nat.le_of_ble_eq_true rfl), (Nat.le_of_ble_eq_true rfl)⟩) (pv_L hK hN hP hD [0, 1, 2, 3, 4, 5, 6, 7, 8, 9, 10, 11, 12, 13, 14, 15, 16, 17, 18, 19] rfl rfl 3 0 rfl rfl) rfl rfl hl.1 rfl (lv_room (Nat.le_of_ble_eq_true rfl)) dL_law_500 ⟨(Nat.le_of_ble_eq_true rfl), (Nat.le_of_ble_eq_true rfl)⟩) hP hD hS hA (fun r u H locs hu hP hD hS => ?_)
  obtain ⟨rfl, rfl⟩ := hu
  have hP : va_P D vwCl ((wR cI cZ z (nI n) se wo wm ch ne np al wr kn sp py iz fO wI bz so sz ro cp nr tz oz hz la) ++ (wM cI q se wo fO wI ++ wS cI q os fl wa fo sb lp fm pn tr fs sk ct nt ++ wD cI q (if (inB (xs (x3 + 1).toNatClampNeg) 16 && (inB (xs (x3 + 2).toNatClampNeg) 5 && (!decide ((xs (x3 + 3).toNatClampNeg) < 1) && !decide (9 < (xs (x3 + 3).toNatClampNeg))))) = true then upd so (xs (x3 + 1).toNatClampNeg).toNatClampNeg (xs (x3 + 2).toNatClampNeg) else so) (if (inB (xs (x3 + 1).toNatClampNeg) 16 && (inB (xs (x3 + 2).toNatClampNeg) 5 && (!decide ((xs (x3 + 3).toNatClampNeg) < 1) && !decide (9 < (xs (x3 + 3).toNatClampNeg))))) = true then upd sd (xs (x3 + 1).toNatClampNeg).toNatClampNeg (xs (x3 + 3).toNatClampNeg) else sd) ti on he ++ wP cI q (nI n) il kn sp py bo)) H := hP
  have hD : va_D (fun a : Nat => s.heap.size ≤ a) ((wR cI cZ z (nI n) se wo wm ch ne np al wr kn sp py iz fO wI bz so sz ro cp nr tz oz hz la) ++ (wM cI q se wo fO wI ++ wS cI q os fl wa fo sb lp fm pn tr fs sk ct nt ++ wD cI q (if (inB (xs (x3 + 1).toNatClampNeg) 16 && (inB (xs (x3 + 2).toNatClampNeg) 5 && (!decide ((xs (x3 + 3).toNatClampNeg) < 1) && !decide (9 < (xs (x3 + 3).toNatClampNeg))))) = true then upd so (xs (x3 + 1).toNatClampNeg).toNatClampNeg (xs (x3 + 2).toNatClampNeg) else so) (if (inB (xs (x3 + 1).toNatClampNeg) 16 && (inB (xs (x3 + 2).toNatClampNeg) 5 && (!decide ((xs (x3 + 3).toNatClampNeg) < 1) && !decide (9 < (xs (x3 + 3).toNatClampNeg))))) = true then upd sd (xs (x3 + 1).toNatClampNeg).toNatClampNeg (xs (x3 + 3).toNatClampNeg) else sd) ti on he ++ wP cI q (nI n) il kn sp py bo)) := hD
  refine lv_aload_n hx hb dL_law_503 rfl (lv_at hl 2 rfl) ?_
  refine lv_aload_n hx hb dL_law_504 rfl (lv_at hl 0 rfl) ?_
  refine lv_iload_n hx hb dL_law_505 rfl (lv_at hl 3 rfl) ?_
  refine lv_iconst (v := (1 : Int32)) hx hb dL_law_506 (by decide) ?_
  refine lv_iadd hx hb dL_law_507 ?_
  refine va_sld hx hb hXs hbl hbA hS v1 dL_law_508 ?_
  refine lv_aload_n hx hb dL_law_509 rfl (lv_at hl 0 rfl) ?_
  refine lv_iload_n hx hb dL_law_510 rfl (lv_at hl 3 rfl) ?_
  refine lv_iconst (v := (2 : Int32)) hx hb dL_law_511 (by decide) ?_
  refine lv_iadd hx hb dL_law_512 ?_
  refine va_sld hx hb hXs hbl hbA hS v2 dL_law_513 ?_
  refine lv_aload_n hx hb dL_law_514 rfl (lv_at hl 0 rfl) ?_
  refine lv_iload_n hx hb dL_law_515 rfl (lv_at hl 3 rfl) ?_
  refine lv_iconst (v := (3 : Int32)) hx hb dL_law_516 (by decide) ?_
  refine lv_iadd hx hb dL_law_517 ?_
  refine va_sld hx hb hXs hbl hbA hS v3 dL_law_518 ?_
  refine zc_L [0, 1, 2, 3, 4, 5, 6, 7, 8, 9, 10, 11, 12, 13, 14, 15, 16] [17, 18, 19, 20, 21, 22, 23, 24, 25, 26, 27, 28, 29, 30, 31, 32, 33, 34, 35, 36] rfl rfl rfl (by decide) (va_runV (As := [.int (xs (x3 + 1).toNatClampNeg), .int (xs (x3 + 2).toNatClampNeg), .int (xs (x3 + 3).toNatClampNeg)]) (rest := [.int (if (inB (xs (x3 + 1).toNatClampNeg) 16 && inB (xs (x3 + 2).toNatClampNeg) 5) = true then (if (!decide ((xs (x3 + 3).toNatClampNeg) < 1) && !decide (9 < (xs (x3 + 3).toNatClampNeg))) = true then 1 else (-3)) else (-2))]) ⟨hx, hb, hml, hown, hts⟩ ((c_X4_speak l D cI cZ z n se wo wm ch ne np al wr kn sp py iz fO wI bz so sz ro cp nr tz oz hz la (xs (x3 + 1).toNatClampNeg) (xs (x3 + 2).toNatClampNeg) (xs (x3 + 3).toNatClampNeg) hn ) H.size) (cwV 3 hts gL_law_X4_speak rfl rfl rfl (by decide +kernel) ⟨(Nat.le_of_ble_eq_true rfl), (Nat.le_of_ble_eq_true rfl)⟩) (pv_L hK hN hP hD [0, 1, 2, 3, 4, 5, 6, 7, 8, 9, 10, 11, 12, 13, 14, 15, 16] rfl rfl 4 0 rfl rfl) rfl rfl hl.1 rfl (lv_room (Nat.le_of_ble_eq_true rfl)) dL_law_519 ⟨(Nat.le_of_ble_eq_true rfl), (Nat.le_of_ble_eq_true rfl)⟩) hP hD hS hA (fun r u H locs hu hP hD hS => ?_)
  obtain ⟨rfl, rfl⟩ := hu
  have hP : va_P D vwCl ((wM cI q se wo fO wI ++ wS cI q os fl wa fo sb lp fm pn tr fs sk ct nt ++ wD cI q (if (inB (xs (x3 + 1).toNatClampNeg) 16 && (inB (xs (x3 + 2).toNatClampNeg) 5 && (!decide ((xs (x3 + 3).toNatClampNeg) < 1) && !decide (9 < (xs (x3 + 3).toNatClampNeg))))) = true then upd so (xs (x3 + 1).toNatClampNeg).toNatClampNeg (xs (x3 + 2).toNatClampNeg) else so) (if (inB (xs (x3 + 1).toNatClampNeg) 16 && (inB (xs (x3 + 2).toNatClampNeg) 5 && (!decide ((xs (x3 + 3).toNatClampNeg) < 1) && !decide (9 < (xs (x3 + 3).toNatClampNeg))))) = true then upd sd (xs (x3 + 1).toNatClampNeg).toNatClampNeg (xs (x3 + 3).toNatClampNeg) else sd) ti on he ++ wP cI q (nI n) il kn sp py bo) ++ wR cI cZ z (nI n) se wo wm ch ne np al wr kn sp py iz fO wI bz (if (inR (xs (x3 + 1).toNatClampNeg) 0 15 && (inR (xs (x3 + 2).toNatClampNeg) 0 4 && inR (xs (x3 + 3).toNatClampNeg) 1 9)) = true then upd so (xs (x3 + 1).toNatClampNeg).toNatClampNeg (xs (x3 + 2).toNatClampNeg) else so) (if (inR (xs (x3 + 1).toNatClampNeg) 0 15 && (inR (xs (x3 + 2).toNatClampNeg) 0 4 && inR (xs (x3 + 3).toNatClampNeg) 1 9)) = true then upd sz (xs (x3 + 1).toNatClampNeg).toNatClampNeg (xs (x3 + 3).toNatClampNeg) else sz) ro cp nr tz oz hz la) H := hP
  have hD : va_D (fun a : Nat => s.heap.size ≤ a) ((wM cI q se wo fO wI ++ wS cI q os fl wa fo sb lp fm pn tr fs sk ct nt ++ wD cI q (if (inB (xs (x3 + 1).toNatClampNeg) 16 && (inB (xs (x3 + 2).toNatClampNeg) 5 && (!decide ((xs (x3 + 3).toNatClampNeg) < 1) && !decide (9 < (xs (x3 + 3).toNatClampNeg))))) = true then upd so (xs (x3 + 1).toNatClampNeg).toNatClampNeg (xs (x3 + 2).toNatClampNeg) else so) (if (inB (xs (x3 + 1).toNatClampNeg) 16 && (inB (xs (x3 + 2).toNatClampNeg) 5 && (!decide ((xs (x3 + 3).toNatClampNeg) < 1) && !decide (9 < (xs (x3 + 3).toNatClampNeg))))) = true then upd sd (xs (x3 + 1).toNatClampNeg).toNatClampNeg (xs (x3 + 3).toNatClampNeg) else sd) ti on he ++ wP cI q (nI n) il kn sp py bo) ++ wR cI cZ z (nI n) se wo wm ch ne np al wr kn sp py iz fO wI bz (if (inR (xs (x3 + 1).toNatClampNeg) 0 15 && (inR (xs (x3 + 2).toNatClampNeg) 0 4 && inR (xs (x3 + 3).toNatClampNeg) 1 9)) = true then upd so (xs (x3 + 1).toNatClampNeg).toNatClampNeg (xs (x3 + 2).toNatClampNeg) else so) (if (inR (xs (x3 + 1).toNatClampNeg) 0 15 && (inR (xs (x3 + 2).toNatClampNeg) 0 4 && inR (xs (x3 + 3).toNatClampNeg) 1 9)) = true then upd sz (xs (x3 + 1).toNatClampNeg).toNatClampNeg (xs (x3 + 3).toNatClampNeg) else sz) ro cp nr tz oz hz la) := hD
  have heq : ((if (inB (xs (x3 + 1).toNatClampNeg) 16 && inB (xs (x3 + 2).toNatClampNeg) 5) = true then (if (!decide ((xs (x3 + 3).toNatClampNeg) < 1) && !decide (9 < (xs (x3 + 3).toNatClampNeg))) = true then 1 else (-3)) else (-2)) : Int32) = (if (inR (xs (x3 + 1).toNatClampNeg) 0 15 && inR (xs (x3 + 2).toNatClampNeg) 0 4) = true then (if inR (xs (x3 + 3).toNatClampNeg) 1 9 = true then 1 else (-3)) else (-2)) := by rw [inR_16, inR_5]; first | rfl | done
  refine lv_icmp_eq (tgt := 731) hx hb dL_law_522 (by decide) (fun _ => ?_) (fun hc => absurd heq hc)
  rw [inR_16, inR_5] at hP hD
  exact hX n _ _ _ _ _ _ _ _ _ _ _ _ _ _ _ _ _ _ _ _ _ _ _ _ _ _ _ _ _ _ _ _ _ _ _ _ _ _ _ _ _ _ _ (o_speak hR (xs (x3 + 1).toNatClampNeg) (xs (x3 + 2).toNatClampNeg) (xs (x3 + 3).toNatClampNeg)) H locs ls hl hP hD hS
set_option maxHeartbeats 4000000 in
set_option maxRecDepth 100000 in
theorem lc_silence {p : Program} {l : Launch} {e : Env} {s : State} {m : MethodId} {below : List Frame} {meth : Method} {c : Code} {b L : Nat} {xs : Nat → Int32} {x3 : Int32} {D : va_G} {cI cZ : ClassId} {q z : Nat → Nat} (C0 : lw_At p s m meth c b L xs) (hK : va_K D vwCl (ty2 cI cZ) s) (hN : nst s) (v1 : vp_in (x3 + 1) L) (v2 : vp_in (x3 + 2) L) (v3 : vp_in (x3 + 3) L) (hX : LK p l e s m below meth c b x3 D cI cZ q z 731) : LK p l e s m below meth c b x3 D cI cZ q z 527 := by
  obtain ⟨hx, hb, hr, hml, hown, hts0, hXs, hbl, hlocks, hgv⟩ := C0
  have hts : ∀ w ∈ wsL_law, w.before #[Value.ref b] s = true := fun w h => hts0 w (wsL_law_in w h)
  have hown : s.vm.findClass RL = some m.cls := hown
  have hA : ∀ a : Nat, s.heap.size ≤ a → (fun a : Nat => s.heap.size ≤ a) a := fun _ h => h
  have hbA : ¬ (fun a : Nat => s.heap.size ≤ a) b := Nat.not_le.mpr hbl
  intro n il se wo os fl wa fo sb lp fm pn wm ch ne np al wr fO wI tr fs sk ct nt so sd ti on he kn sp py bo iz bz sz ro cp nr tz oz hz la hR H locs ls hl hP hD hS
  have hn := hR.1
  have hsz := hR.2.2.2.2.2.2.2.2.2.2
  refine lv_aload_n hx hb dL_law_527 rfl (lv_at hl 1 rfl) ?_
  refine lv_aload_n hx hb dL_law_528 rfl (lv_at hl 0 rfl) ?_
  refine lv_iload_n hx hb dL_law_529 rfl (lv_at hl 3 rfl) ?_
  refine lv_iconst (v := (1 : Int32)) hx hb dL_law_530 (by decide) ?_
  refine lv_iadd hx hb dL_law_531 ?_
  refine va_sld hx hb hXs hbl hbA hS v1 dL_law_532 ?_
  refine zc_L [0, 1, 2, 3, 4, 5, 6, 7, 8, 9, 10, 11, 12, 13, 14, 15, 16, 17, 18, 19] [20, 21, 22, 23, 24, 25, 26, 27, 28, 29, 30, 31, 32, 33, 34, 35, 36] rfl rfl rfl (by decide) (va_runV (As := [.int (xs (x3 + 1).toNatClampNeg)]) (rest := []) ⟨hx, hb, hml, hown, hts⟩ ((c_X3_silence l D cI cZ q se wo fO wI os fl wa fo sb lp fm pn tr fs sk ct nt so sd ti on he n il kn sp py bo (xs (x3 + 1).toNatClampNeg) hn ) H.size) (cwV 1 hts gL_law_X3_silence rfl rfl rfl (by decide +kernel) ⟨(Nat.le_of_ble_eq_true rfl), (Nat.le_of_ble_eq_true rfl)⟩) (pv_L hK hN hP hD [0, 1, 2, 3, 4, 5, 6, 7, 8, 9, 10, 11, 12, 13, 14, 15, 16, 17, 18, 19] rfl rfl 3 0 rfl rfl) rfl rfl hl.1 rfl (lv_room (Nat.le_of_ble_eq_true rfl)) dL_law_533 ⟨(Nat.le_of_ble_eq_true rfl), (Nat.le_of_ble_eq_true rfl)⟩) hP hD hS hA (fun r u H locs hu hP hD hS => ?_)
  obtain ⟨rfl, rfl⟩ := hu
  have hP : va_P D vwCl ((wR cI cZ z (nI n) se wo wm ch ne np al wr kn sp py iz fO wI bz so sz ro cp nr tz oz hz la) ++ (wM cI q se wo fO wI ++ wS cI q os fl wa fo sb lp fm pn tr fs sk ct nt ++ wD cI q (if inB (xs (x3 + 1).toNatClampNeg) 16 = true then upd so (xs (x3 + 1).toNatClampNeg).toNatClampNeg (-1) else so) (if inB (xs (x3 + 1).toNatClampNeg) 16 = true then upd sd (xs (x3 + 1).toNatClampNeg).toNatClampNeg 0 else sd) ti on he ++ wP cI q (nI n) il kn sp py bo)) H := hP
  have hD : va_D (fun a : Nat => s.heap.size ≤ a) ((wR cI cZ z (nI n) se wo wm ch ne np al wr kn sp py iz fO wI bz so sz ro cp nr tz oz hz la) ++ (wM cI q se wo fO wI ++ wS cI q os fl wa fo sb lp fm pn tr fs sk ct nt ++ wD cI q (if inB (xs (x3 + 1).toNatClampNeg) 16 = true then upd so (xs (x3 + 1).toNatClampNeg).toNatClampNeg (-1) else so) (if inB (xs (x3 + 1).toNatClampNeg) 16 = true then upd sd (xs (x3 + 1).toNatClampNeg).toNatClampNeg 0 else sd) ti on he ++ wP cI q (nI n) il kn sp py bo)) := hD
  refine lv_aload_n hx hb dL_law_536 rfl (lv_at hl 2 rfl) ?_
  refine lv_aload_n hx hb dL_law_537 rfl (lv_at hl 0 rfl) ?_
  refine lv_iload_n hx hb dL_law_538 rfl (lv_at hl 3 rfl) ?_
  refine lv_iconst (v := (1 : Int32)) hx hb dL_law_539 (by decide) ?_
  refine lv_iadd hx hb dL_law_540 ?_
  refine va_sld hx hb hXs hbl hbA hS v1 dL_law_541 ?_
  refine zc_L [0, 1, 2, 3, 4, 5, 6, 7, 8, 9, 10, 11, 12, 13, 14, 15, 16] [17, 18, 19, 20, 21, 22, 23, 24, 25, 26, 27, 28, 29, 30, 31, 32, 33, 34, 35, 36] rfl rfl rfl (by decide) (va_runV (As := [.int (xs (x3 + 1).toNatClampNeg)]) (rest := [.int (if inB (xs (x3 + 1).toNatClampNeg) 16 = true then bI (!decide (so (xs (x3 + 1).toNatClampNeg).toNatClampNeg = -1)) else (-2))]) ⟨hx, hb, hml, hown, hts⟩ ((c_X4_silence l D cI cZ z n se wo wm ch ne np al wr kn sp py iz fO wI bz so sz ro cp nr tz oz hz la (xs (x3 + 1).toNatClampNeg) hn ) H.size) (cwV 1 hts gL_law_X4_silence rfl rfl rfl (by decide +kernel) ⟨(Nat.le_of_ble_eq_true rfl), (Nat.le_of_ble_eq_true rfl)⟩) (pv_L hK hN hP hD [0, 1, 2, 3, 4, 5, 6, 7, 8, 9, 10, 11, 12, 13, 14, 15, 16] rfl rfl 4 0 rfl rfl) rfl rfl hl.1 rfl (lv_room (Nat.le_of_ble_eq_true rfl)) dL_law_542 ⟨(Nat.le_of_ble_eq_true rfl), (Nat.le_of_ble_eq_true rfl)⟩) hP hD hS hA (fun r u H locs hu hP hD hS => ?_)
  obtain ⟨rfl, rfl⟩ := hu
  have hP : va_P D vwCl ((wM cI q se wo fO wI ++ wS cI q os fl wa fo sb lp fm pn tr fs sk ct nt ++ wD cI q (if inB (xs (x3 + 1).toNatClampNeg) 16 = true then upd so (xs (x3 + 1).toNatClampNeg).toNatClampNeg (-1) else so) (if inB (xs (x3 + 1).toNatClampNeg) 16 = true then upd sd (xs (x3 + 1).toNatClampNeg).toNatClampNeg 0 else sd) ti on he ++ wP cI q (nI n) il kn sp py bo) ++ wR cI cZ z (nI n) se wo wm ch ne np al wr kn sp py iz fO wI bz (if inR (xs (x3 + 1).toNatClampNeg) 0 15 = true then upd so (xs (x3 + 1).toNatClampNeg).toNatClampNeg (-1) else so) sz ro cp nr tz oz hz la) H := hP
  have hD : va_D (fun a : Nat => s.heap.size ≤ a) ((wM cI q se wo fO wI ++ wS cI q os fl wa fo sb lp fm pn tr fs sk ct nt ++ wD cI q (if inB (xs (x3 + 1).toNatClampNeg) 16 = true then upd so (xs (x3 + 1).toNatClampNeg).toNatClampNeg (-1) else so) (if inB (xs (x3 + 1).toNatClampNeg) 16 = true then upd sd (xs (x3 + 1).toNatClampNeg).toNatClampNeg 0 else sd) ti on he ++ wP cI q (nI n) il kn sp py bo) ++ wR cI cZ z (nI n) se wo wm ch ne np al wr kn sp py iz fO wI bz (if inR (xs (x3 + 1).toNatClampNeg) 0 15 = true then upd so (xs (x3 + 1).toNatClampNeg).toNatClampNeg (-1) else so) sz ro cp nr tz oz hz la) := hD
  have heq : ((if inB (xs (x3 + 1).toNatClampNeg) 16 = true then bI (!decide (so (xs (x3 + 1).toNatClampNeg).toNatClampNeg = -1)) else (-2)) : Int32) = (if inR (xs (x3 + 1).toNatClampNeg) 0 15 = true then bI (!decide (so (xs (x3 + 1).toNatClampNeg).toNatClampNeg = -1)) else (-2)) := by rw [inR_16]
  refine lv_icmp_eq (tgt := 731) hx hb dL_law_545 (by decide) (fun _ => ?_) (fun hc => absurd heq hc)
  rw [inR_16] at hP hD
  exact hX n _ _ _ _ _ _ _ _ _ _ _ _ _ _ _ _ _ _ _ _ _ _ _ _ _ _ _ _ _ _ _ _ _ _ _ _ _ _ _ _ _ _ _ (o_silence hR (xs (x3 + 1).toNatClampNeg)) H locs ls hl hP hD hS
set_option maxHeartbeats 4000000 in
set_option maxRecDepth 100000 in
theorem lc_limit {p : Program} {l : Launch} {e : Env} {s : State} {m : MethodId} {below : List Frame} {meth : Method} {c : Code} {b L : Nat} {xs : Nat → Int32} {x3 : Int32} {D : va_G} {cI cZ : ClassId} {q z : Nat → Nat} (C0 : lw_At p s m meth c b L xs) (hK : va_K D vwCl (ty2 cI cZ) s) (hN : nst s) (v1 : vp_in (x3 + 1) L) (v2 : vp_in (x3 + 2) L) (v3 : vp_in (x3 + 3) L) (hX : LK p l e s m below meth c b x3 D cI cZ q z 731) : LK p l e s m below meth c b x3 D cI cZ q z 550 := by
  obtain ⟨hx, hb, hr, hml, hown, hts0, hXs, hbl, hlocks, hgv⟩ := C0
  have hts : ∀ w ∈ wsL_law, w.before #[Value.ref b] s = true := fun w h => hts0 w (wsL_law_in w h)
  have hown : s.vm.findClass RL = some m.cls := hown
  have hA : ∀ a : Nat, s.heap.size ≤ a → (fun a : Nat => s.heap.size ≤ a) a := fun _ h => h
  have hbA : ¬ (fun a : Nat => s.heap.size ≤ a) b := Nat.not_le.mpr hbl
  intro n il se wo os fl wa fo sb lp fm pn wm ch ne np al wr fO wI tr fs sk ct nt so sd ti on he kn sp py bo iz bz sz ro cp nr tz oz hz la hR H locs ls hl hP hD hS
  have hn := hR.1
  have hsz := hR.2.2.2.2.2.2.2.2.2.2
  refine lv_aload_n hx hb dL_law_550 rfl (lv_at hl 1 rfl) ?_
  refine lv_aload_n hx hb dL_law_551 rfl (lv_at hl 0 rfl) ?_
  refine lv_iload_n hx hb dL_law_552 rfl (lv_at hl 3 rfl) ?_
  refine lv_iconst (v := (1 : Int32)) hx hb dL_law_553 (by decide) ?_
  refine lv_iadd hx hb dL_law_554 ?_
  refine va_sld hx hb hXs hbl hbA hS v1 dL_law_555 ?_
  refine zc_L [0, 1, 2, 3, 4, 5, 6, 7, 8, 9, 10, 11, 12, 13, 14, 15, 16, 17, 18, 19] [20, 21, 22, 23, 24, 25, 26, 27, 28, 29, 30, 31, 32, 33, 34, 35, 36] rfl rfl rfl (by decide) (va_runV (As := [.int (xs (x3 + 1).toNatClampNeg)]) (rest := []) ⟨hx, hb, hml, hown, hts⟩ ((c_X3_limit l D cI cZ q se wo fO wI os fl wa fo sb lp fm pn tr fs sk ct nt so sd ti on he n il kn sp py bo (xs (x3 + 1).toNatClampNeg) hn ) H.size) (cwV 1 hts gL_law_X3_limit rfl rfl rfl (by decide +kernel) ⟨(Nat.le_of_ble_eq_true rfl), (Nat.le_of_ble_eq_true rfl)⟩) (pv_L hK hN hP hD [0, 1, 2, 3, 4, 5, 6, 7, 8, 9, 10, 11, 12, 13, 14, 15, 16, 17, 18, 19] rfl rfl 3 0 rfl rfl) rfl rfl hl.1 rfl (lv_room (Nat.le_of_ble_eq_true rfl)) dL_law_556 ⟨(Nat.le_of_ble_eq_true rfl), (Nat.le_of_ble_eq_true rfl)⟩) hP hD hS hA (fun r u H locs hu hP hD hS => ?_)
  obtain ⟨rfl, rfl⟩ := hu
  have hP : va_P D vwCl ((wR cI cZ z (nI n) se wo wm ch ne np al wr kn sp py iz fO wI bz so sz ro cp nr tz oz hz la) ++ (wM cI q se (if ((xs (x3 + 1).toNatClampNeg) < 5 ∨ 60 < (xs (x3 + 1).toNatClampNeg)) then wo else (xs (x3 + 1).toNatClampNeg)) fO wI ++ wS cI q os fl wa fo sb lp fm pn tr fs sk ct nt ++ wD cI q so sd ti on he ++ wP cI q (nI n) il kn sp py bo)) H := hP
  have hD : va_D (fun a : Nat => s.heap.size ≤ a) ((wR cI cZ z (nI n) se wo wm ch ne np al wr kn sp py iz fO wI bz so sz ro cp nr tz oz hz la) ++ (wM cI q se (if ((xs (x3 + 1).toNatClampNeg) < 5 ∨ 60 < (xs (x3 + 1).toNatClampNeg)) then wo else (xs (x3 + 1).toNatClampNeg)) fO wI ++ wS cI q os fl wa fo sb lp fm pn tr fs sk ct nt ++ wD cI q so sd ti on he ++ wP cI q (nI n) il kn sp py bo)) := hD
  refine lv_aload_n hx hb dL_law_559 rfl (lv_at hl 2 rfl) ?_
  refine lv_aload_n hx hb dL_law_560 rfl (lv_at hl 0 rfl) ?_
  refine lv_iload_n hx hb dL_law_561 rfl (lv_at hl 3 rfl) ?_
  refine lv_iconst (v := (1 : Int32)) hx hb dL_law_562 (by decide) ?_
  refine lv_iadd hx hb dL_law_563 ?_
  refine va_sld hx hb hXs hbl hbA hS v1 dL_law_564 ?_
  refine zc_L [0, 1, 2, 3, 4, 5, 6, 7, 8, 9, 10, 11, 12, 13, 14, 15, 16] [17, 18, 19, 20, 21, 22, 23, 24, 25, 26, 27, 28, 29, 30, 31, 32, 33, 34, 35, 36] rfl rfl rfl (by decide) (va_runV (As := [.int (xs (x3 + 1).toNatClampNeg)]) (rest := [.int (if ((xs (x3 + 1).toNatClampNeg) < 5 ∨ 60 < (xs (x3 + 1).toNatClampNeg)) then (-3) else wo)]) ⟨hx, hb, hml, hown, hts⟩ ((c_X4_limit l D cI cZ z n se wo wm ch ne np al wr kn sp py iz fO wI bz so sz ro cp nr tz oz hz la (xs (x3 + 1).toNatClampNeg) hn ) H.size) (cwV 1 hts gL_law_X4_limit rfl rfl rfl (by decide +kernel) ⟨(Nat.le_of_ble_eq_true rfl), (Nat.le_of_ble_eq_true rfl)⟩) (pv_L hK hN hP hD [0, 1, 2, 3, 4, 5, 6, 7, 8, 9, 10, 11, 12, 13, 14, 15, 16] rfl rfl 4 0 rfl rfl) rfl rfl hl.1 rfl (lv_room (Nat.le_of_ble_eq_true rfl)) dL_law_565 ⟨(Nat.le_of_ble_eq_true rfl), (Nat.le_of_ble_eq_true rfl)⟩) hP hD hS hA (fun r u H locs hu hP hD hS => ?_)
  obtain ⟨rfl, rfl⟩ := hu
  have hP : va_P D vwCl ((wM cI q se (if ((xs (x3 + 1).toNatClampNeg) < 5 ∨ 60 < (xs (x3 + 1).toNatClampNeg)) then wo else (xs (x3 + 1).toNatClampNeg)) fO wI ++ wS cI q os fl wa fo sb lp fm pn tr fs sk ct nt ++ wD cI q so sd ti on he ++ wP cI q (nI n) il kn sp py bo) ++ wR cI cZ z (nI n) se (if inR (xs (x3 + 1).toNatClampNeg) 5 60 = true then (xs (x3 + 1).toNatClampNeg) else wo) wm ch ne np al wr kn sp py iz fO wI bz so sz ro cp nr tz oz hz la) H := hP
  have hD : va_D (fun a : Nat => s.heap.size ≤ a) ((wM cI q se (if ((xs (x3 + 1).toNatClampNeg) < 5 ∨ 60 < (xs (x3 + 1).toNatClampNeg)) then wo else (xs (x3 + 1).toNatClampNeg)) fO wI ++ wS cI q os fl wa fo sb lp fm pn tr fs sk ct nt ++ wD cI q so sd ti on he ++ wP cI q (nI n) il kn sp py bo) ++ wR cI cZ z (nI n) se (if inR (xs (x3 + 1).toNatClampNeg) 5 60 = true then (xs (x3 + 1).toNatClampNeg) else wo) wm ch ne np al wr kn sp py iz fO wI bz so sz ro cp nr tz oz hz la) := hD
  have heq : ((if ((xs (x3 + 1).toNatClampNeg) < 5 ∨ 60 < (xs (x3 + 1).toNatClampNeg)) then (-3) else wo) : Int32) = (if inR (xs (x3 + 1).toNatClampNeg) 5 60 = true then wo else (-3)) := (inR_or _ _ _ _ _).symm
  refine lv_icmp_eq (tgt := 731) hx hb dL_law_568 (by decide) (fun _ => ?_) (fun hc => absurd heq hc)
  rw [inR_or] at hP hD
  exact hX n _ _ _ _ _ _ _ _ _ _ _ _ _ _ _ _ _ _ _ _ _ _ _ _ _ _ _ _ _ _ _ _ _ _ _ _ _ _ _ _ _ _ _ (hR) H locs ls hl hP hD hS
