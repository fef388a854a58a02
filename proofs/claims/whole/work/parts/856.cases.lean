set_option maxHeartbeats 4000000 in
set_option maxRecDepth 100000 in
theorem lc_late {p : Program} {l : Launch} {e : Env} {s : State} {m : MethodId} {below : List Frame} {meth : Method} {c : Code} {b L : Nat} {xs : Nat → Int32} {x3 : Int32} {D : va_G} {cI cZ : ClassId} {q z : Nat → Nat} (C0 : lw_At p s m meth c b L xs) (hK : va_K D vwCl (ty2 cI cZ) s) (hN : nst s) (v1 : vp_in (x3 + 1) L) (v2 : vp_in (x3 + 2) L) (v3 : vp_in (x3 + 3) L) (hX : LK p l e s m below meth c b x3 D cI cZ q z 731) : LK p l e s m below meth c b x3 D cI cZ q z 672 := by
  obtain ⟨hx, hb, hr, hml, hown, hts0, hXs, hbl, hlocks, hgv⟩ := C0
  have hts : ∀ w ∈ wsL_law, w.before #[Value.ref b] s = true := fun w h => hts0 w (wsL_law_in w h)
  have hown : s.vm.findClass RL = some m.cls := hown
  have hA : ∀ a : Nat, s.heap.size ≤ a → (fun a : Nat => s.heap.size ≤ a) a := fun _ h => h
  have hbA : ¬ (fun a : Nat => s.heap.size ≤ a) b := Nat.not_le.mpr hbl
  intro n il se wo os fl wa fo sb lp fm pn wm ch ne np al wr fO wI tr fs sk ct nt so sd ti on he kn sp py bo iz bz sz ro cp nr tz oz hz la hR H locs ls hl hP hD hS
  have hn := hR.1
  have hsz := hR.2.2.2.2.2.2.2.2.2.2
  refine lv_aload_n hx hb dL_law_672 rfl (lv_at hl 1 rfl) ?_
  refine lv_aload_n hx hb dL_law_673 rfl (lv_at hl 0 rfl) ?_
  refine lv_iload_n hx hb dL_law_674 rfl (lv_at hl 3 rfl) ?_
  refine lv_iconst (v := (1 : Int32)) hx hb dL_law_675 (by decide) ?_
  refine lv_iadd hx hb dL_law_676 ?_
  refine va_sld hx hb hXs hbl hbA hS v1 dL_law_677 ?_
  refine zc_L [0, 1, 2, 3, 4, 5, 6, 7, 8, 9, 10, 11, 12, 13, 14, 15, 16, 17, 18, 19] [20, 21, 22, 23, 24, 25, 26, 27, 28, 29, 30, 31, 32, 33, 34, 35, 36] rfl rfl rfl (by decide) (va_runV (As := [.int (xs (x3 + 1).toNatClampNeg)]) (rest := []) ⟨hx, hb, hml, hown, hts⟩ ((c_X3_late l D cI cZ q se wo fO wI os fl wa fo sb lp fm pn tr fs sk ct nt so sd ti on he n il kn sp py bo (xs (x3 + 1).toNatClampNeg) hn ) H.size) (cwV 1 hts gL_law_X3_late rfl rfl rfl (by decide +kernel) ⟨(Nat.le_of_ble_eq_true rfl), (Nat.le_of_ble_eq_true rfl)⟩) (pv_L hK hN hP hD [0, 1, 2, 3, 4, 5, 6, 7, 8, 9, 10, 11, 12, 13, 14, 15, 16, 17, 18, 19] rfl rfl 3 0 rfl rfl) rfl rfl hl.1 rfl (lv_room (Nat.le_of_ble_eq_true rfl)) dL_law_678 ⟨(Nat.le_of_ble_eq_true rfl), (Nat.le_of_ble_eq_true rfl)⟩) hP hD hS hA (fun r u H locs hu hP hD hS => ?_)
  obtain ⟨rfl, rfl⟩ := hu
  have hP : va_P D vwCl ((wR cI cZ z (nI n) se wo wm ch ne np al wr kn sp py iz fO wI bz so sz ro cp nr tz oz hz la) ++ (wM cI q se wo fO wI ++ wS cI q os fl wa fo sb lp fm pn tr fs sk ct nt ++ wD cI q so sd (((if inB (xs (x3 + 1).toNatClampNeg) 5 = true then (plT n kn bo so sd (ti, on, he) 16) else (ti, on, he))).1) (((if inB (xs (x3 + 1).toNatClampNeg) 5 = true then (plT n kn bo so sd (ti, on, he) 16) else (ti, on, he))).2.1) (((if inB (xs (x3 + 1).toNatClampNeg) 5 = true then (plT n kn bo so sd (ti, on, he) 16) else (ti, on, he))).2.2) ++ wP cI q (nI n) il kn sp py bo)) H := hP
  have hD : va_D (fun a : Nat => s.heap.size ≤ a) ((wR cI cZ z (nI n) se wo wm ch ne np al wr kn sp py iz fO wI bz so sz ro cp nr tz oz hz la) ++ (wM cI q se wo fO wI ++ wS cI q os fl wa fo sb lp fm pn tr fs sk ct nt ++ wD cI q so sd (((if inB (xs (x3 + 1).toNatClampNeg) 5 = true then (plT n kn bo so sd (ti, on, he) 16) else (ti, on, he))).1) (((if inB (xs (x3 + 1).toNatClampNeg) 5 = true then (plT n kn bo so sd (ti, on, he) 16) else (ti, on, he))).2.1) (((if inB (xs (x3 + 1).toNatClampNeg) 5 = true then (plT n kn bo so sd (ti, on, he) 16) else (ti, on, he))).2.2) ++ wP cI q (nI n) il kn sp py bo)) := hD
  refine lv_aload_n hx hb dL_law_681 rfl (lv_at hl 2 rfl) ?_
  refine lv_aload_n hx hb dL_law_682 rfl (lv_at hl 0 rfl) ?_
  refine lv_iload_n hx hb dL_law_683 rfl (lv_at hl 3 rfl) ?_
  refine lv_iconst (v := (1 : Int32)) hx hb dL_law_684 (by decide) ?_
  refine lv_iadd hx hb dL_law_685 ?_
  refine va_sld hx hb hXs hbl hbA hS v1 dL_law_686 ?_
  refine zc_L [0, 1, 2, 3, 4, 5, 6, 7, 8, 9, 10, 11, 12, 13, 14, 15, 16] [17, 18, 19, 20, 21, 22, 23, 24, 25, 26, 27, 28, 29, 30, 31, 32, 33, 34, 35, 36] rfl rfl rfl (by decide) (va_runV (As := [.int (xs (x3 + 1).toNatClampNeg)]) (rest := [.int (if inB (xs (x3 + 1).toNatClampNeg) 5 = true then laO n kn bo so sd (ti, on, he) (xs (x3 + 1).toNatClampNeg) 16 else (-2))]) ⟨hx, hb, hml, hown, hts⟩ ((c_X4_late l D cI cZ z n se wo wm ch ne np al wr kn sp py iz fO wI bz so sz ro cp nr tz oz hz la (xs (x3 + 1).toNatClampNeg) hn hsz) H.size) (cwV 1 hts gL_law_X4_late rfl rfl rfl (by decide +kernel) ⟨(Nat.le_of_ble_eq_true rfl), (Nat.le_of_ble_eq_true rfl)⟩) (pv_L hK hN hP hD [0, 1, 2, 3, 4, 5, 6, 7, 8, 9, 10, 11, 12, 13, 14, 15, 16] rfl rfl 4 0 rfl rfl) rfl rfl hl.1 rfl (lv_room (Nat.le_of_ble_eq_true rfl)) dL_law_687 ⟨(Nat.le_of_ble_eq_true rfl), (Nat.le_of_ble_eq_true rfl)⟩) hP hD hS hA (fun r u H locs hu hP hD hS => ?_)
  obtain ⟨rfl, rfl⟩ := hu
  have hP : va_P D vwCl ((wM cI q se wo fO wI ++ wS cI q os fl wa fo sb lp fm pn tr fs sk ct nt ++ wD cI q so sd (((if inB (xs (x3 + 1).toNatClampNeg) 5 = true then (plT n kn bo so sd (ti, on, he) 16) else (ti, on, he))).1) (((if inB (xs (x3 + 1).toNatClampNeg) 5 = true then (plT n kn bo so sd (ti, on, he) 16) else (ti, on, he))).2.1) (((if inB (xs (x3 + 1).toNatClampNeg) 5 = true then (plT n kn bo so sd (ti, on, he) 16) else (ti, on, he))).2.2) ++ wP cI q (nI n) il kn sp py bo) ++ wR cI cZ z (nI n) se wo wm ch ne np al (((if inR (xs (x3 + 1).toNatClampNeg) 0 4 = true then (gtF n kn bz so sz wo (tz, oz, hz) la 16) else (wr, tz, oz, hz, la))).1) kn sp py iz fO wI bz so sz ro cp nr (((if inR (xs (x3 + 1).toNatClampNeg) 0 4 = true then (gtF n kn bz so sz wo (tz, oz, hz) la 16) else (wr, tz, oz, hz, la))).2.1) (((if inR (xs (x3 + 1).toNatClampNeg) 0 4 = true then (gtF n kn bz so sz wo (tz, oz, hz) la 16) else (wr, tz, oz, hz, la))).2.2.1) (((if inR (xs (x3 + 1).toNatClampNeg) 0 4 = true then (gtF n kn bz so sz wo (tz, oz, hz) la 16) else (wr, tz, oz, hz, la))).2.2.2.1) (((if inR (xs (x3 + 1).toNatClampNeg) 0 4 = true then (gtF n kn bz so sz wo (tz, oz, hz) la 16) else (wr, tz, oz, hz, la))).2.2.2.2)) H := hP
  have hD : va_D (fun a : Nat => s.heap.size ≤ a) ((wM cI q se wo fO wI ++ wS cI q os fl wa fo sb lp fm pn tr fs sk ct nt ++ wD cI q so sd (((if inB (xs (x3 + 1).toNatClampNeg) 5 = true then (plT n kn bo so sd (ti, on, he) 16) else (ti, on, he))).1) (((if inB (xs (x3 + 1).toNatClampNeg) 5 = true then (plT n kn bo so sd (ti, on, he) 16) else (ti, on, he))).2.1) (((if inB (xs (x3 + 1).toNatClampNeg) 5 = true then (plT n kn bo so sd (ti, on, he) 16) else (ti, on, he))).2.2) ++ wP cI q (nI n) il kn sp py bo) ++ wR cI cZ z (nI n) se wo wm ch ne np al (((if inR (xs (x3 + 1).toNatClampNeg) 0 4 = true then (gtF n kn bz so sz wo (tz, oz, hz) la 16) else (wr, tz, oz, hz, la))).1) kn sp py iz fO wI bz so sz ro cp nr (((if inR (xs (x3 + 1).toNatClampNeg) 0 4 = true then (gtF n kn bz so sz wo (tz, oz, hz) la 16) else (wr, tz, oz, hz, la))).2.1) (((if inR (xs (x3 + 1).toNatClampNeg) 0 4 = true then (gtF n kn bz so sz wo (tz, oz, hz) la 16) else (wr, tz, oz, hz, la))).2.2.1) (((if inR (xs (x3 + 1).toNatClampNeg) 0 4 = true then (gtF n kn bz so sz wo (tz, oz, hz) la 16) else (wr, tz, oz, hz, la))).2.2.2.1) (((if inR (xs (x3 + 1).toNatClampNeg) 0 4 = true then (gtF n kn bz so sz wo (tz, oz, hz) la 16) else (wr, tz, oz, hz, la))).2.2.2.2)) := hD
  have heq : ((if inB (xs (x3 + 1).toNatClampNeg) 5 = true then laO n kn bo so sd (ti, on, he) (xs (x3 + 1).toNatClampNeg) 16 else (-2)) : Int32) = (if inR (xs (x3 + 1).toNatClampNeg) 0 4 = true then (gtF n kn bz so sz wo (tz, oz, hz) la 16).2.2.2.2 (xs (x3 + 1).toNatClampNeg).toNatClampNeg else (-2)) := by rw [inR_5]; exact o_late hR (ti, on, he) (tz, oz, hz) (xs (x3 + 1).toNatClampNeg)
  refine lv_icmp_eq (tgt := 731) hx hb dL_law_690 (by decide) (fun _ => ?_) (fun hc => absurd heq hc)
  exact hX n _ _ _ _ _ _ _ _ _ _ _ _ _ _ _ _ _ _ _ _ _ _ _ _ _ _ _ _ _ _ _ _ _ _ _ _ _ _ _ _ _ _ _ (hR) H locs ls hl hP hD hS
set_option maxHeartbeats 4000000 in
set_option maxRecDepth 100000 in
theorem lc_worn {p : Program} {l : Launch} {e : Env} {s : State} {m : MethodId} {below : List Frame} {meth : Method} {c : Code} {b L : Nat} {xs : Nat → Int32} {x3 : Int32} {D : va_G} {cI cZ : ClassId} {q z : Nat → Nat} (C0 : lw_At p s m meth c b L xs) (hK : va_K D vwCl (ty2 cI cZ) s) (hN : nst s) (v1 : vp_in (x3 + 1) L) (v2 : vp_in (x3 + 2) L) (v3 : vp_in (x3 + 3) L) (hX : LK p l e s m below meth c b x3 D cI cZ q z 731) : LK p l e s m below meth c b x3 D cI cZ q z 695 := by
  obtain ⟨hx, hb, hr, hml, hown, hts0, hXs, hbl, hlocks, hgv⟩ := C0
  have hts : ∀ w ∈ wsL_law, w.before #[Value.ref b] s = true := fun w h => hts0 w (wsL_law_in w h)
  have hown : s.vm.findClass RL = some m.cls := hown
  have hA : ∀ a : Nat, s.heap.size ≤ a → (fun a : Nat => s.heap.size ≤ a) a := fun _ h => h
  have hbA : ¬ (fun a : Nat => s.heap.size ≤ a) b := Nat.not_le.mpr hbl
  intro n il se wo os fl wa fo sb lp fm pn wm ch ne np al wr fO wI tr fs sk ct nt so sd ti on he kn sp py bo iz bz sz ro cp nr tz oz hz la hR H locs ls hl hP hD hS
  have hn := hR.1
  have hsz := hR.2.2.2.2.2.2.2.2.2.2
  refine lv_aload_n hx hb dL_law_695 rfl (lv_at hl 1 rfl) ?_
  refine zc_L [0, 1, 2, 3, 4, 5, 6, 7, 8, 9, 10, 11, 12, 13, 14, 15, 16, 17, 18, 19] [20, 21, 22, 23, 24, 25, 26, 27, 28, 29, 30, 31, 32, 33, 34, 35, 36] rfl rfl rfl (by decide) (va_runV (As := []) (rest := []) ⟨hx, hb, hml, hown, hts⟩ ((c_X3_worn l D cI cZ q se wo fO wI os fl wa fo sb lp fm pn tr fs sk ct nt so sd ti on he n il kn sp py bo  hn ) H.size) (cwV 0 hts gL_law_X3_worn rfl rfl rfl (by decide +kernel) ⟨(Nat.le_of_ble_eq_true rfl), (Nat.le_of_ble_eq_true rfl)⟩) (pv_L hK hN hP hD [0, 1, 2, 3, 4, 5, 6, 7, 8, 9, 10, 11, 12, 13, 14, 15, 16, 17, 18, 19] rfl rfl 3 0 rfl rfl) rfl rfl hl.1 rfl (lv_room (Nat.le_of_ble_eq_true rfl)) dL_law_696 ⟨(Nat.le_of_ble_eq_true rfl), (Nat.le_of_ble_eq_true rfl)⟩) hP hD hS hA (fun r u H locs hu hP hD hS => ?_)
  obtain ⟨rfl, rfl⟩ := hu
  have hP : va_P D vwCl ((wR cI cZ z (nI n) se wo wm ch ne np al wr kn sp py iz fO wI bz so sz ro cp nr tz oz hz la) ++ (wM cI q se wo fO wI ++ wS cI q os fl wa fo sb lp fm pn tr fs sk ct nt ++ wD cI q so sd (((plT n kn bo so sd (ti, on, he) 16)).1) (((plT n kn bo so sd (ti, on, he) 16)).2.1) (((plT n kn bo so sd (ti, on, he) 16)).2.2) ++ wP cI q (nI n) il kn sp py bo)) H := hP
  have hD : va_D (fun a : Nat => s.heap.size ≤ a) ((wR cI cZ z (nI n) se wo wm ch ne np al wr kn sp py iz fO wI bz so sz ro cp nr tz oz hz la) ++ (wM cI q se wo fO wI ++ wS cI q os fl wa fo sb lp fm pn tr fs sk ct nt ++ wD cI q so sd (((plT n kn bo so sd (ti, on, he) 16)).1) (((plT n kn bo so sd (ti, on, he) 16)).2.1) (((plT n kn bo so sd (ti, on, he) 16)).2.2) ++ wP cI q (nI n) il kn sp py bo)) := hD
  refine lv_aload_n hx hb dL_law_699 rfl (lv_at hl 2 rfl) ?_
  refine zc_L [0, 1, 2, 3, 4, 5, 6, 7, 8, 9, 10, 11, 12, 13, 14, 15, 16] [17, 18, 19, 20, 21, 22, 23, 24, 25, 26, 27, 28, 29, 30, 31, 32, 33, 34, 35, 36] rfl rfl rfl (by decide) (va_runV (As := []) (rest := [.int (woO n kn bo so sd (ti, on, he) wo 16)]) ⟨hx, hb, hml, hown, hts⟩ ((c_X4_worn l D cI cZ z n se wo wm ch ne np al wr kn sp py iz fO wI bz so sz ro cp nr tz oz hz la  hn hsz) H.size) (cwV 0 hts gL_law_X4_worn rfl rfl rfl (by decide +kernel) ⟨(Nat.le_of_ble_eq_true rfl), (Nat.le_of_ble_eq_true rfl)⟩) (pv_L hK hN hP hD [0, 1, 2, 3, 4, 5, 6, 7, 8, 9, 10, 11, 12, 13, 14, 15, 16] rfl rfl 4 0 rfl rfl) rfl rfl hl.1 rfl (lv_room (Nat.le_of_ble_eq_true rfl)) dL_law_700 ⟨(Nat.le_of_ble_eq_true rfl), (Nat.le_of_ble_eq_true rfl)⟩) hP hD hS hA (fun r u H locs hu hP hD hS => ?_)
  obtain ⟨rfl, rfl⟩ := hu
  have hP : va_P D vwCl ((wM cI q se wo fO wI ++ wS cI q os fl wa fo sb lp fm pn tr fs sk ct nt ++ wD cI q so sd (((plT n kn bo so sd (ti, on, he) 16)).1) (((plT n kn bo so sd (ti, on, he) 16)).2.1) (((plT n kn bo so sd (ti, on, he) 16)).2.2) ++ wP cI q (nI n) il kn sp py bo) ++ wR cI cZ z (nI n) se wo wm ch ne np al (((gtF n kn bz so sz wo (tz, oz, hz) la 16)).1) kn sp py iz fO wI bz so sz ro cp nr (((gtF n kn bz so sz wo (tz, oz, hz) la 16)).2.1) (((gtF n kn bz so sz wo (tz, oz, hz) la 16)).2.2.1) (((gtF n kn bz so sz wo (tz, oz, hz) la 16)).2.2.2.1) (((gtF n kn bz so sz wo (tz, oz, hz) la 16)).2.2.2.2)) H := hP
  have hD : va_D (fun a : Nat => s.heap.size ≤ a) ((wM cI q se wo fO wI ++ wS cI q os fl wa fo sb lp fm pn tr fs sk ct nt ++ wD cI q so sd (((plT n kn bo so sd (ti, on, he) 16)).1) (((plT n kn bo so sd (ti, on, he) 16)).2.1) (((plT n kn bo so sd (ti, on, he) 16)).2.2) ++ wP cI q (nI n) il kn sp py bo) ++ wR cI cZ z (nI n) se wo wm ch ne np al (((gtF n kn bz so sz wo (tz, oz, hz) la 16)).1) kn sp py iz fO wI bz so sz ro cp nr (((gtF n kn bz so sz wo (tz, oz, hz) la 16)).2.1) (((gtF n kn bz so sz wo (tz, oz, hz) la 16)).2.2.1) (((gtF n kn bz so sz wo (tz, oz, hz) la 16)).2.2.2.1) (((gtF n kn bz so sz wo (tz, oz, hz) la 16)).2.2.2.2)) := hD
  have heq : (woO n kn bo so sd (ti, on, he) wo 16 : Int32) = ((gtF n kn bz so sz wo (tz, oz, hz) la 16).1) := o_worn hR (ti, on, he) (tz, oz, hz)
  refine lv_icmp_eq (tgt := 731) hx hb dL_law_703 (by decide) (fun _ => ?_) (fun hc => absurd heq hc)
  exact hX n _ _ _ _ _ _ _ _ _ _ _ _ _ _ _ _ _ _ _ _ _ _ _ _ _ _ _ _ _ _ _ _ _ _ _ _ _ _ _ _ _ _ _ (hR) H locs ls hl hP hD hS
set_option maxHeartbeats 4000000 in
set_option maxRecDepth 100000 in
theorem lc_count {p : Program} {l : Launch} {e : Env} {s : State} {m : MethodId} {below : List Frame} {meth : Method} {c : Code} {b L : Nat} {xs : Nat → Int32} {x3 : Int32} {D : va_G} {cI cZ : ClassId} {q z : Nat → Nat} (C0 : lw_At p s m meth c b L xs) (hK : va_K D vwCl (ty2 cI cZ) s) (hN : nst s) (v1 : vp_in (x3 + 1) L) (v2 : vp_in (x3 + 2) L) (v3 : vp_in (x3 + 3) L) (hX : LK p l e s m below meth c b x3 D cI cZ q z 731) : LK p l e s m below meth c b x3 D cI cZ q z 708 := by
  obtain ⟨hx, hb, hr, hml, hown, hts0, hXs, hbl, hlocks, hgv⟩ := C0
  have hts : ∀ w ∈ wsL_law, w.before #[Value.ref b] s = true := fun w h => hts0 w (wsL_law_in w h)
  have hown : s.vm.findClass RL = some m.cls := hown
  have hA : ∀ a : Nat, s.heap.size ≤ a → (fun a : Nat => s.heap.size ≤ a) a := fun _ h => h
  have hbA : ¬ (fun a : Nat => s.heap.size ≤ a) b := Nat.not_le.mpr hbl
  intro n il se wo os fl wa fo sb lp fm pn wm ch ne np al wr fO wI tr fs sk ct nt so sd ti on he kn sp py bo iz bz sz ro cp nr tz oz hz la hR H locs ls hl hP hD hS
  have hn := hR.1
  have hsz := hR.2.2.2.2.2.2.2.2.2.2
  refine lv_aload_n hx hb dL_law_708 rfl (lv_at hl 1 rfl) ?_
  refine lv_aload_n hx hb dL_law_709 rfl (lv_at hl 0 rfl) ?_
  refine lv_iload_n hx hb dL_law_710 rfl (lv_at hl 3 rfl) ?_
  refine lv_iconst (v := (1 : Int32)) hx hb dL_law_711 (by decide) ?_
  refine lv_iadd hx hb dL_law_712 ?_
  refine va_sld hx hb hXs hbl hbA hS v1 dL_law_713 ?_
  refine zc_L [0, 1, 2, 3, 4, 5, 6, 7, 8, 9, 10, 11, 12, 13, 14, 15, 16, 17, 18, 19] [20, 21, 22, 23, 24, 25, 26, 27, 28, 29, 30, 31, 32, 33, 34, 35, 36] rfl rfl rfl (by decide) (va_runV (As := [.int (xs (x3 + 1).toNatClampNeg)]) (rest := []) ⟨hx, hb, hml, hown, hts⟩ ((c_X3_count l D cI cZ q se wo fO wI os fl wa fo sb lp fm pn tr fs sk ct nt so sd ti on he n il kn sp py bo (xs (x3 + 1).toNatClampNeg) hn ) H.size) (cwV 1 hts gL_law_X3_count rfl rfl rfl (by decide +kernel) ⟨(Nat.le_of_ble_eq_true rfl), (Nat.le_of_ble_eq_true rfl)⟩) (pv_L hK hN hP hD [0, 1, 2, 3, 4, 5, 6, 7, 8, 9, 10, 11, 12, 13, 14, 15, 16, 17, 18, 19] rfl rfl 3 0 rfl rfl) rfl rfl hl.1 rfl (lv_room (Nat.le_of_ble_eq_true rfl)) dL_law_714 ⟨(Nat.le_of_ble_eq_true rfl), (Nat.le_of_ble_eq_true rfl)⟩) hP hD hS hA (fun r u H locs hu hP hD hS => ?_)
  subst hu
  have hP : va_P D vwCl ((wR cI cZ z (nI n) se wo wm ch ne np al wr kn sp py iz fO wI bz so sz ro cp nr tz oz hz la) ++ (wM cI q se wo fO wI ++ wS cI q os fl wa fo sb lp fm pn tr fs sk ct nt ++ wD cI q so sd ti on he ++ wP cI q (nI n) il kn sp py bo)) H := hP
  have hD : va_D (fun a : Nat => s.heap.size ≤ a) ((wR cI cZ z (nI n) se wo wm ch ne np al wr kn sp py iz fO wI bz so sz ro cp nr tz oz hz la) ++ (wM cI q se wo fO wI ++ wS cI q os fl wa fo sb lp fm pn tr fs sk ct nt ++ wD cI q so sd ti on he ++ wP cI q (nI n) il kn sp py bo)) := hD
  refine lv_aload_n hx hb dL_law_717 rfl (lv_at hl 2 rfl) ?_
  refine lv_aload_n hx hb dL_law_718 rfl (lv_at hl 0 rfl) ?_
  refine lv_iload_n hx hb dL_law_719 rfl (lv_at hl 3 rfl) ?_
  refine lv_iconst (v := (1 : Int32)) hx hb dL_law_720 (by decide) ?_
  refine lv_iadd hx hb dL_law_721 ?_
  refine va_sld hx hb hXs hbl hbA hS v1 dL_law_722 ?_
  refine zc_L [0, 1, 2, 3, 4, 5, 6, 7, 8, 9, 10, 11, 12, 13, 14, 15, 16] [17, 18, 19, 20, 21, 22, 23, 24, 25, 26, 27, 28, 29, 30, 31, 32, 33, 34, 35, 36] rfl rfl rfl (by decide) (va_runV (As := [.int (xs (x3 + 1).toNatClampNeg)]) (rest := [.int (coR n il bo so se (xs (x3 + 1).toNatClampNeg))]) ⟨hx, hb, hml, hown, hts⟩ ((c_X4_count l D cI cZ z n se wo wm ch ne np al wr kn sp py iz fO wI bz so sz ro cp nr tz oz hz la (xs (x3 + 1).toNatClampNeg) hn ) H.size) (cwV 1 hts gL_law_X4_count rfl rfl rfl (by decide +kernel) ⟨(Nat.le_of_ble_eq_true rfl), (Nat.le_of_ble_eq_true rfl)⟩) (pv_L hK hN hP hD [0, 1, 2, 3, 4, 5, 6, 7, 8, 9, 10, 11, 12, 13, 14, 15, 16] rfl rfl 4 0 rfl rfl) rfl rfl hl.1 rfl (lv_room (Nat.le_of_ble_eq_true rfl)) dL_law_723 ⟨(Nat.le_of_ble_eq_true rfl), (Nat.le_of_ble_eq_true rfl)⟩) hP hD hS hA (fun r u H locs hu hP hD hS => ?_)
  subst hu
  have hP : va_P D vwCl ((wM cI q se wo fO wI ++ wS cI q os fl wa fo sb lp fm pn tr fs sk ct nt ++ wD cI q so sd ti on he ++ wP cI q (nI n) il kn sp py bo) ++ wR cI cZ z (nI n) se wo wm ch ne np al wr kn sp py iz fO wI bz so sz ro cp nr tz oz hz la) H := hP
  have hD : va_D (fun a : Nat => s.heap.size ≤ a) ((wM cI q se wo fO wI ++ wS cI q os fl wa fo sb lp fm pn tr fs sk ct nt ++ wD cI q so sd ti on he ++ wP cI q (nI n) il kn sp py bo) ++ wR cI cZ z (nI n) se wo wm ch ne np al wr kn sp py iz fO wI bz so sz ro cp nr tz oz hz la) := hD
  have heq : (coR n il bo so se (xs (x3 + 1).toNatClampNeg) : Int32) = (rcO n iz bz so se (xs (x3 + 1).toNatClampNeg)) := o_count hR (xs (x3 + 1).toNatClampNeg)
  refine lv_icmp_eq (tgt := 731) hx hb dL_law_726 (by decide) (fun _ => ?_) (fun hc => absurd heq hc)
  exact hX n _ _ _ _ _ _ _ _ _ _ _ _ _ _ _ _ _ _ _ _ _ _ _ _ _ _ _ _ _ _ _ _ _ _ _ _ _ _ _ _ _ _ _ (hR) H locs ls hl hP hD hS
