set_option maxHeartbeats 4000000 in
set_option maxRecDepth 100000 in
theorem lc_person {p : Program} {l : Launch} {e : Env} {s : State} {m : MethodId} {below : List Frame} {meth : Method} {c : Code} {b L : Nat} {xs : Nat → Int32} {x3 : Int32} {D : va_G} {cI cZ : ClassId} {q z : Nat → Nat} (C0 : lw_At p s m meth c b L xs) (hK : va_K D vwCl (ty2 cI cZ) s) (hN : nst s) (v1 : vp_in (x3 + 1) L) (v2 : vp_in (x3 + 2) L) (v3 : vp_in (x3 + 3) L) (hX : LK p l e s m below meth c b x3 D cI cZ q z 731) : LK p l e s m below meth c b x3 D cI cZ q z 132 := by
  obtain ⟨hx, hb, hr, hml, hown, hts0, hXs, hbl, hlocks, hgv⟩ := C0
  have hts : ∀ w ∈ wsL_law, w.before #[Value.ref b] s = true := fun w h => hts0 w (wsL_law_in w h)
  have hown : s.vm.findClass RL = some m.cls := hown
  have hA : ∀ a : Nat, s.heap.size ≤ a → (fun a : Nat => s.heap.size ≤ a) a := fun _ h => h
  have hbA : ¬ (fun a : Nat => s.heap.size ≤ a) b := Nat.not_le.mpr hbl
  intro n il se wo os fl wa fo sb lp fm pn wm ch ne np al wr fO wI tr fs sk ct nt so sd ti on he kn sp py bo iz bz sz ro cp nr tz oz hz la hR H locs ls hl hP hD hS
  have hn := hR.1
  have hsz := hR.2.2.2.2.2.2.2.2.2.2
  refine lv_aload_n hx hb dL_law_132 rfl (lv_at hl 1 rfl) ?_
  refine lv_aload_n hx hb dL_law_133 rfl (lv_at hl 0 rfl) ?_
  refine lv_iload_n hx hb dL_law_134 rfl (lv_at hl 3 rfl) ?_
  refine lv_iconst (v := (1 : Int32)) hx hb dL_law_135 (by decide) ?_
  refine lv_iadd hx hb dL_law_136 ?_
  refine va_sld hx hb hXs hbl hbA hS v1 dL_law_137 ?_
  refine lv_aload_n hx hb dL_law_138 rfl (lv_at hl 0 rfl) ?_
  refine lv_iload_n hx hb dL_law_139 rfl (lv_at hl 3 rfl) ?_
  refine lv_iconst (v := (2 : Int32)) hx hb dL_law_140 (by decide) ?_
  refine lv_iadd hx hb dL_law_141 ?_
  refine va_sld hx hb hXs hbl hbA hS v2 dL_law_142 ?_
  refine lv_aload_n hx hb dL_law_143 rfl (lv_at hl 0 rfl) ?_
  refine lv_iload_n hx hb dL_law_144 rfl (lv_at hl 3 rfl) ?_
  refine lv_iconst (v := (3 : Int32)) hx hb dL_law_145 (by decide) ?_
  refine lv_iadd hx hb dL_law_146 ?_
  refine va_sld hx hb hXs hbl hbA hS v3 dL_law_147 ?_
  refine zc_L [0, 1, 2, 3, 4, 5, 6, 7, 8, 9, 10, 11, 12, 13, 14, 15, 16, 17, 18, 19] [20, 21, 22, 23, 24, 25, 26, 27, 28, 29, 30, 31, 32, 33, 34, 35, 36] rfl rfl rfl (by decide) (va_runV (As := [.int (xs (x3 + 1).toNatClampNeg), .int (xs (x3 + 2).toNatClampNeg), .int (xs (x3 + 3).toNatClampNeg)]) (rest := []) ⟨hx, hb, hml, hown, hts⟩ ((c_X3_person l D cI cZ q se wo fO wI os fl wa fo sb lp fm pn tr fs sk ct nt so sd ti on he n il kn sp py bo (xs (x3 + 1).toNatClampNeg) (xs (x3 + 2).toNatClampNeg) (xs (x3 + 3).toNatClampNeg) hn ) H.size) (cwV 3 hts gL_law_X3_person rfl rfl rfl (by decide +kernel) ⟨(Nat.le_of_ble_eq_true rfl), (Nat.le_of_ble_eq_true rfl)⟩) (pv_L hK hN hP hD [0, 1, 2, 3, 4, 5, 6, 7, 8, 9, 10, 11, 12, 13, 14, 15, 16, 17, 18, 19] rfl rfl 3 0 rfl rfl) rfl rfl hl.1 rfl (lv_room (Nat.le_of_ble_eq_true rfl)) dL_law_148 ⟨(Nat.le_of_ble_eq_true rfl), (Nat.le_of_ble_eq_true rfl)⟩) hP hD hS hA (fun r u H locs hu hP hD hS => ?_)
  obtain ⟨rfl, rfl⟩ := hu
  have hP : va_P D vwCl ((wR cI cZ z (nI n) se wo wm ch ne np al wr kn sp py iz fO wI bz so sz ro cp nr tz oz hz la) ++ (wM cI q se wo fO wI ++ wS cI q os fl wa fo sb lp fm pn tr fs sk ct nt ++ wD cI q so sd ti on he ++ wP cI q (nI (if (pOk (xs (x3 + 1).toNatClampNeg) (xs (x3 + 2).toNatClampNeg) (xs (x3 + 3).toNatClampNeg) && decide (n < 6)) = true then n + 1 else n)) il (if (pOk (xs (x3 + 1).toNatClampNeg) (xs (x3 + 2).toNatClampNeg) (xs (x3 + 3).toNatClampNeg) && decide (n < 6)) = true then upd kn n (xs (x3 + 1).toNatClampNeg) else kn) (if (pOk (xs (x3 + 1).toNatClampNeg) (xs (x3 + 2).toNatClampNeg) (xs (x3 + 3).toNatClampNeg) && decide (n < 6)) = true then upd sp n (xs (x3 + 2).toNatClampNeg) else sp) (if (pOk (xs (x3 + 1).toNatClampNeg) (xs (x3 + 2).toNatClampNeg) (xs (x3 + 3).toNatClampNeg) && decide (n < 6)) = true then upd py n (xs (x3 + 3).toNatClampNeg) else py) (if (pOk (xs (x3 + 1).toNatClampNeg) (xs (x3 + 2).toNatClampNeg) (xs (x3 + 3).toNatClampNeg) && decide (n < 6)) = true then upd bo n 5 else bo))) H := hP
  have hD : va_D (fun a : Nat => s.heap.size ≤ a) ((wR cI cZ z (nI n) se wo wm ch ne np al wr kn sp py iz fO wI bz so sz ro cp nr tz oz hz la) ++ (wM cI q se wo fO wI ++ wS cI q os fl wa fo sb lp fm pn tr fs sk ct nt ++ wD cI q so sd ti on he ++ wP cI q (nI (if (pOk (xs (x3 + 1).toNatClampNeg) (xs (x3 + 2).toNatClampNeg) (xs (x3 + 3).toNatClampNeg) && decide (n < 6)) = true then n + 1 else n)) il (if (pOk (xs (x3 + 1).toNatClampNeg) (xs (x3 + 2).toNatClampNeg) (xs (x3 + 3).toNatClampNeg) && decide (n < 6)) = true then upd kn n (xs (x3 + 1).toNatClampNeg) else kn) (if (pOk (xs (x3 + 1).toNatClampNeg) (xs (x3 + 2).toNatClampNeg) (xs (x3 + 3).toNatClampNeg) && decide (n < 6)) = true then upd sp n (xs (x3 + 2).toNatClampNeg) else sp) (if (pOk (xs (x3 + 1).toNatClampNeg) (xs (x3 + 2).toNatClampNeg) (xs (x3 + 3).toNatClampNeg) && decide (n < 6)) = true then upd py n (xs (x3 + 3).toNatClampNeg) else py) (if (pOk (xs (x3 + 1).toNatClampNeg) (xs (x3 + 2).toNatClampNeg) (xs (x3 + 3).toNatClampNeg) && decide (n < 6)) = true then upd bo n 5 else bo))) := hD
  refine lv_aload_n hx hb dL_law_151 rfl (lv_at hl 2 rfl) ?_
  refine lv_aload_n hx hb dL_law_152 rfl (lv_at hl 0 rfl) ?_
  refine lv_iload_n hx hb dL_law_153 rfl (lv_at hl 3 rfl) ?_
  refine lv_iconst (v := (1 : Int32)) hx hb dL_law_154 (by decide) ?_
  refine lv_iadd hx hb dL_law_155 ?_
  refine va_sld hx hb hXs hbl hbA hS v1 dL_law_156 ?_
  refine lv_aload_n hx hb dL_law_157 rfl (lv_at hl 0 rfl) ?_
  refine lv_iload_n hx hb dL_law_158 rfl (lv_at hl 3 rfl) ?_
  refine lv_iconst (v := (2 : Int32)) hx hb dL_law_159 (by decide) ?_
  refine lv_iadd hx hb dL_law_160 ?_
  refine va_sld hx hb hXs hbl hbA hS v2 dL_law_161 ?_
  refine lv_aload_n hx hb dL_law_162 rfl (lv_at hl 0 rfl) ?_
  refine lv_iload_n hx hb dL_law_163 rfl (lv_at hl 3 rfl) ?_
  refine lv_iconst (v := (3 : Int32)) hx hb dL_law_164 (by decide) ?_
  refine lv_iadd hx hb dL_law_165 ?_
  refine va_sld hx hb hXs hbl hbA hS v3 dL_law_166 ?_
  refine zc_L [0, 1, 2, 3, 4, 5, 6, 7, 8, 9, 10, 11, 12, 13, 14, 15, 16] [17, 18, 19, 20, 21, 22, 23, 24, 25, 26, 27, 28, 29, 30, 31, 32, 33, 34, 35, 36] rfl rfl rfl (by decide) (va_runV (As := [.int (xs (x3 + 1).toNatClampNeg), .int (xs (x3 + 2).toNatClampNeg), .int (xs (x3 + 3).toNatClampNeg)]) (rest := [.int (if pOk (xs (x3 + 1).toNatClampNeg) (xs (x3 + 2).toNatClampNeg) (xs (x3 + 3).toNatClampNeg) = true then (if n < 6 then nI n else (-5)) else (-3))]) ⟨hx, hb, hml, hown, hts⟩ ((c_X4_person l D cI cZ z n se wo wm ch ne np al wr kn sp py iz fO wI bz so sz ro cp nr tz oz hz la (xs (x3 + 1).toNatClampNeg) (xs (x3 + 2).toNatClampNeg) (xs (x3 + 3).toNatClampNeg) hn ) H.size) (cwV 3 hts gL_law_X4_person rfl rfl rfl (by decide +kernel) ⟨(Nat.le_of_ble_eq_true rfl), (Nat.le_of_ble_eq_true rfl)⟩) (pv_L hK hN hP hD [0, 1, 2, 3, 4, 5, 6, 7, 8, 9, 10, 11, 12, 13, 14, 15, 16] rfl rfl 4 0 rfl rfl) rfl rfl hl.1 rfl (lv_room (Nat.le_of_ble_eq_true rfl)) dL_law_167 ⟨(Nat.le_of_ble_eq_true rfl), (Nat.le_of_ble_eq_true rfl)⟩) hP hD hS hA (fun r u H locs hu hP hD hS => ?_)
  obtain ⟨rfl, rfl⟩ := hu
  have hP : va_P D vwCl ((wM cI q se wo fO wI ++ wS cI q os fl wa fo sb lp fm pn tr fs sk ct nt ++ wD cI q so sd ti on he ++ wP cI q (nI (if (pOk (xs (x3 + 1).toNatClampNeg) (xs (x3 + 2).toNatClampNeg) (xs (x3 + 3).toNatClampNeg) && decide (n < 6)) = true then n + 1 else n)) il (if (pOk (xs (x3 + 1).toNatClampNeg) (xs (x3 + 2).toNatClampNeg) (xs (x3 + 3).toNatClampNeg) && decide (n < 6)) = true then upd kn n (xs (x3 + 1).toNatClampNeg) else kn) (if (pOk (xs (x3 + 1).toNatClampNeg) (xs (x3 + 2).toNatClampNeg) (xs (x3 + 3).toNatClampNeg) && decide (n < 6)) = true then upd sp n (xs (x3 + 2).toNatClampNeg) else sp) (if (pOk (xs (x3 + 1).toNatClampNeg) (xs (x3 + 2).toNatClampNeg) (xs (x3 + 3).toNatClampNeg) && decide (n < 6)) = true then upd py n (xs (x3 + 3).toNatClampNeg) else py) (if (pOk (xs (x3 + 1).toNatClampNeg) (xs (x3 + 2).toNatClampNeg) (xs (x3 + 3).toNatClampNeg) && decide (n < 6)) = true then upd bo n 5 else bo)) ++ wR cI cZ z (nI (if (rOk (xs (x3 + 1).toNatClampNeg) (xs (x3 + 2).toNatClampNeg) (xs (x3 + 3).toNatClampNeg) && decide (n < 6)) = true then n + 1 else n)) se wo wm ch ne np al wr (if (rOk (xs (x3 + 1).toNatClampNeg) (xs (x3 + 2).toNatClampNeg) (xs (x3 + 3).toNatClampNeg) && decide (n < 6)) = true then upd kn n (xs (x3 + 1).toNatClampNeg) else kn) (if (rOk (xs (x3 + 1).toNatClampNeg) (xs (x3 + 2).toNatClampNeg) (xs (x3 + 3).toNatClampNeg) && decide (n < 6)) = true then upd sp n (xs (x3 + 2).toNatClampNeg) else sp) (if (rOk (xs (x3 + 1).toNatClampNeg) (xs (x3 + 2).toNatClampNeg) (xs (x3 + 3).toNatClampNeg) && decide (n < 6)) = true then upd py n (xs (x3 + 3).toNatClampNeg) else py) iz fO wI bz so sz ro cp nr tz oz hz la) H := hP
  have hD : va_D (fun a : Nat => s.heap.size ≤ a) ((wM cI q se wo fO wI ++ wS cI q os fl wa fo sb lp fm pn tr fs sk ct nt ++ wD cI q so sd ti on he ++ wP cI q (nI (if (pOk (xs (x3 + 1).toNatClampNeg) (xs (x3 + 2).toNatClampNeg) (xs (x3 + 3).toNatClampNeg) && decide (n < 6)) = true then n + 1 else n)) il (if (pOk (xs (x3 + 1).toNatClampNeg) (xs (x3 + 2).toNatClampNeg) (xs (x3 + 3).toNatClampNeg) && decide (n < 6)) = true then upd kn n (xs (x3 + 1).toNatClampNeg) else kn) (if (pOk (xs (x3 + 1).toNatClampNeg) (xs (x3 + 2).toNatClampNeg) (xs (x3 + 3).toNatClampNeg) && decide (n < 6)) = true then upd sp n (xs (x3 + 2).toNatClampNeg) else sp) (if (pOk (xs (x3 + 1).toNatClampNeg) (xs (x3 + 2).toNatClampNeg) (xs (x3 + 3).toNatClampNeg) && decide (n < 6)) = true then upd py n (xs (x3 + 3).toNatClampNeg) else py) (if (pOk (xs (x3 + 1).toNatClampNeg) (xs (x3 + 2).toNatClampNeg) (xs (x3 + 3).toNatClampNeg) && decide (n < 6)) = true then upd bo n 5 else bo)) ++ wR cI cZ z (nI (if (rOk (xs (x3 + 1).toNatClampNeg) (xs (x3 + 2).toNatClampNeg) (xs (x3 + 3).toNatClampNeg) && decide (n < 6)) = true then n + 1 else n)) se wo wm ch ne np al wr (if (rOk (xs (x3 + 1).toNatClampNeg) (xs (x3 + 2).toNatClampNeg) (xs (x3 + 3).toNatClampNeg) && decide (n < 6)) = true then upd kn n (xs (x3 + 1).toNatClampNeg) else kn) (if (rOk (xs (x3 + 1).toNatClampNeg) (xs (x3 + 2).toNatClampNeg) (xs (x3 + 3).toNatClampNeg) && decide (n < 6)) = true then upd sp n (xs (x3 + 2).toNatClampNeg) else sp) (if (rOk (xs (x3 + 1).toNatClampNeg) (xs (x3 + 2).toNatClampNeg) (xs (x3 + 3).toNatClampNeg) && decide (n < 6)) = true then upd py n (xs (x3 + 3).toNatClampNeg) else py) iz fO wI bz so sz ro cp nr tz oz hz la) := hD
  have heq : ((if pOk (xs (x3 + 1).toNatClampNeg) (xs (x3 + 2).toNatClampNeg) (xs (x3 + 3).toNatClampNeg) = true then (if n < 6 then nI n else (-5)) else (-3)) : Int32) = (if rOk (xs (x3 + 1).toNatClampNeg) (xs (x3 + 2).toNatClampNeg) (xs (x3 + 3).toNatClampNeg) = true then (if n < 6 then nI n else (-5)) else (-3)) := by rw [rOk_eq]
  refine lv_icmp_eq (tgt := 731) hx hb dL_law_170 (by decide) (fun _ => ?_) (fun hc => absurd heq hc)
  rw [rOk_eq] at hP hD
  exact hX (if (pOk (xs (x3 + 1).toNatClampNeg) (xs (x3 + 2).toNatClampNeg) (xs (x3 + 3).toNatClampNeg) && decide (n < 6)) = true then n + 1 else n) _ _ _ _ _ _ _ _ _ _ _ _ _ _ _ _ _ _ _ _ _ _ _ _ _ _ _ _ _ _ _ _ _ _ _ _ _ _ _ _ _ _ _ (o_person (xs (x3 + 1).toNatClampNeg) (xs (x3 + 2).toNatClampNeg) (xs (x3 + 3).toNatClampNeg) hR) H locs ls hl hP hD hS
set_option maxHeartbeats 4000000 in
set_option maxRecDepth 100000 in
theorem lc_ill {p : Program} {l : Launch} {e : Env} {s : State} {m : MethodId} {below : List Frame} {meth : Method} {c : Code} {b L : Nat} {xs : Nat → Int32} {x3 : Int32} {D : va_G} {cI cZ : ClassId} {q z : Nat → Nat} (C0 : lw_At p s m meth c b L xs) (hK : va_K D vwCl (ty2 cI cZ) s) (hN : nst s) (v1 : vp_in (x3 + 1) L) (v2 : vp_in (x3 + 2) L) (v3 : vp_in (x3 + 3) L) (hX : LK p l e s m below meth c b x3 D cI cZ q z 731) : LK p l e s m below meth c b x3 D cI cZ q z 175 := by
  obtain ⟨hx, hb, hr, hml, hown, hts0, hXs, hbl, hlocks, hgv⟩ := C0
  have hts : ∀ w ∈ wsL_law, w.before #[Value.ref b] s = true := fun w h => hts0 w (wsL_law_in w h)
  have hown : s.vm.findClass RL = some m.cls := hown
  have hA : ∀ a : Nat, s.heap.size ≤ a → (fun a : Nat => s.heap.size ≤ a) a := fun _ h => h
  have hbA : ¬ (fun a : Nat => s.heap.size ≤ a) b := Nat.not_le.mpr hbl
  intro n il se wo os fl wa fo sb lp fm pn wm ch ne np al wr fO wI tr fs sk ct nt so sd ti on he kn sp py bo iz bz sz ro cp nr tz oz hz la hR H locs ls hl hP hD hS
  have hn := hR.1
  have hsz := hR.2.2.2.2.2.2.2.2.2.2
  refine lv_aload_n hx hb dL_law_175 rfl (lv_at hl 1 rfl) ?_
  refine lv_aload_n hx hb dL_law_176 rfl (lv_at hl 0 rfl) ?_
  refine lv_iload_n hx hb dL_law_177 rfl (lv_at hl 3 rfl) ?_
  refine lv_iconst (v := (1 : Int32)) hx hb dL_law_178 (by decide) ?_
  refine lv_iadd hx hb dL_law_179 ?_
  refine va_sld hx hb hXs hbl hbA hS v1 dL_law_180 ?_
  refine lv_aload_n hx hb dL_law_181 rfl (lv_at hl 0 rfl) ?_
  refine lv_iload_n hx hb dL_law_182 rfl (lv_at hl 3 rfl) ?_
  refine lv_iconst (v := (2 : Int32)) hx hb dL_law_183 (by decide) ?_
  refine lv_iadd hx hb dL_law_184 ?_
  refine va_sld hx hb hXs hbl hbA hS v2 dL_law_185 ?_
  refine lv_if_eq (tgt := 193) hx hb dL_law_186 (by decide) (fun hc0 => ?_) (fun hc0 => ?_)
  · refine lv_iconst (v := (0 : Int32)) hx hb dL_law_193 (by decide) ?_
    refine zc_L [0, 1, 2, 3, 4, 5, 6, 7, 8, 9, 10, 11, 12, 13, 14, 15, 16, 17, 18, 19] [20, 21, 22, 23, 24, 25, 26, 27, 28, 29, 30, 31, 32, 33, 34, 35, 36] rfl rfl rfl (by decide) (va_runV (As := [.int (xs (x3 + 1).toNatClampNeg), .int (0 : Int32)]) (rest := []) ⟨hx, hb, hml, hown, hts⟩ ((c_X3_ill l D cI cZ q se wo fO wI os fl wa fo sb lp fm pn tr fs sk ct nt so sd ti on he n il kn sp py bo (xs (x3 + 1).toNatClampNeg) (0 : Int32) hn ) H.size) (cwV 2 hts gL_law_X3_ill rfl rfl rfl (by decide +kernel) ⟨(Nat.le_of_ble_eq_true rfl), (Nat.le_of_ble_eq_true rfl)⟩) (pv_L hK hN hP hD [0, 1, 2, 3, 4, 5, 6, 7, 8, 9, 10, 11, 12, 13, 14, 15, 16, 17, 18, 19] rfl rfl 3 0 rfl rfl) rfl rfl hl.1 rfl (lv_room (Nat.le_of_ble_eq_true rfl)) dL_law_194 ⟨(Nat.le_of_ble_eq_true rfl), (Nat.le_of_ble_eq_true rfl)⟩) hP hD hS hA (fun r u H locs hu hP hD hS => ?_)
    obtain ⟨rfl, rfl⟩ := hu
    have hP : va_P D vwCl ((wR cI cZ z (nI n) se wo wm ch ne np al wr kn sp py iz fO wI bz so sz ro cp nr tz oz hz la) ++ (wM cI q se wo fO wI ++ wS cI q os fl wa fo sb lp fm pn tr fs sk ct nt ++ wD cI q so sd ti on he ++ wP cI q (nI n) (if inB (xs (x3 + 1).toNatClampNeg) (nI n) = true then (if (0 : Int32) = 0 then il &&& (((1 : Int32) <<< ((xs (x3 + 1).toNatClampNeg) &&& 31)) ^^^ (-1)) else il ||| ((1 : Int32) <<< ((xs (x3 + 1).toNatClampNeg) &&& 31))) else il) kn sp py bo)) H := hP
    have hD : va_D (fun a : Nat => s.heap.size ≤ a) ((wR cI cZ z (nI n) se wo wm ch ne np al wr kn sp py iz fO wI bz so sz ro cp nr tz oz hz la) ++ (wM cI q se wo fO wI ++ wS cI q os fl wa fo sb lp fm pn tr fs sk ct nt ++ wD cI q so sd ti on he ++ wP cI q (nI n) (if inB (xs (x3 + 1).toNatClampNeg) (nI n) = true then (if (0 : Int32) = 0 then il &&& (((1 : Int32) <<< ((xs (x3 + 1).toNatClampNeg) &&& 31)) ^^^ (-1)) else il ||| ((1 : Int32) <<< ((xs (x3 + 1).toNatClampNeg) &&& 31))) else il) kn sp py bo)) := hD
    refine lv_aload_n hx hb dL_law_197 rfl (lv_at hl 2 rfl) ?_
    refine lv_aload_n hx hb dL_law_198 rfl (lv_at hl 0 rfl) ?_
    refine lv_iload_n hx hb dL_law_199 rfl (lv_at hl 3 rfl) ?_
    refine lv_iconst (v := (1 : Int32)) hx hb dL_law_200 (by decide) ?_
    refine lv_iadd hx hb dL_law_201 ?_
    refine va_sld hx hb hXs hbl hbA hS v1 dL_law_202 ?_
    refine lv_aload_n hx hb dL_law_203 rfl (lv_at hl 0 rfl) ?_
    refine lv_iload_n hx hb dL_law_204 rfl (lv_at hl 3 rfl) ?_
    refine lv_iconst (v := (2 : Int32)) hx hb dL_law_205 (by decide) ?_
    refine lv_iadd hx hb dL_law_206 ?_
    refine va_sld hx hb hXs hbl hbA hS v2 dL_law_207 ?_
    refine lv_if_eq (tgt := 215) hx hb dL_law_208 (by decide) (fun _ => ?_) (fun hc1 => absurd hc0 hc1)
    refine lv_iconst (v := (0 : Int32)) hx hb dL_law_215 (by decide) ?_
    refine zc_L [0, 1, 2, 3, 4, 5, 6, 7, 8, 9, 10, 11, 12, 13, 14, 15, 16] [17, 18, 19, 20, 21, 22, 23, 24, 25, 26, 27, 28, 29, 30, 31, 32, 33, 34, 35, 36] rfl rfl rfl (by decide) (va_runV (As := [.int (xs (x3 + 1).toNatClampNeg), .int (0 : Int32)]) (rest := [.int (if inB (xs (x3 + 1).toNatClampNeg) (nI n) = true then bI (hs il (xs (x3 + 1).toNatClampNeg)) else (-2))]) ⟨hx, hb, hml, hown, hts⟩ ((c_X4_ill l D cI cZ z n se wo wm ch ne np al wr kn sp py iz fO wI bz so sz ro cp nr tz oz hz la (xs (x3 + 1).toNatClampNeg) (0 : Int32) hn ) H.size) (cwV 2 hts gL_law_X4_ill rfl rfl rfl (by decide +kernel) ⟨(Nat.le_of_ble_eq_true rfl), (Nat.le_of_ble_eq_true rfl)⟩) (pv_L hK hN hP hD [0, 1, 2, 3, 4, 5, 6, 7, 8, 9, 10, 11, 12, 13, 14, 15, 16] rfl rfl 4 0 rfl rfl) rfl rfl hl.1 rfl (lv_room (Nat.le_of_ble_eq_true rfl)) dL_law_216 ⟨(Nat.le_of_ble_eq_true rfl), (Nat.le_of_ble_eq_true rfl)⟩) hP hD hS hA (fun r u H locs hu hP hD hS => ?_)
    obtain ⟨rfl, rfl⟩ := hu
    have hP : va_P D vwCl ((wM cI q se wo fO wI ++ wS cI q os fl wa fo sb lp fm pn tr fs sk ct nt ++ wD cI q so sd ti on he ++ wP cI q (nI n) (if inB (xs (x3 + 1).toNatClampNeg) (nI n) = true then (if (0 : Int32) = 0 then il &&& (((1 : Int32) <<< ((xs (x3 + 1).toNatClampNeg) &&& 31)) ^^^ (-1)) else il ||| ((1 : Int32) <<< ((xs (x3 + 1).toNatClampNeg) &&& 31))) else il) kn sp py bo) ++ wR cI cZ z (nI n) se wo wm ch ne np al wr kn sp py (if inR (xs (x3 + 1).toNatClampNeg) 0 (nI n - 1) = true then upd iz (xs (x3 + 1).toNatClampNeg).toNatClampNeg (vp_nar .boolean (0 : Int32)) else iz) fO wI bz so sz ro cp nr tz oz hz la) H := hP
    have hD : va_D (fun a : Nat => s.heap.size ≤ a) ((wM cI q se wo fO wI ++ wS cI q os fl wa fo sb lp fm pn tr fs sk ct nt ++ wD cI q so sd ti on he ++ wP cI q (nI n) (if inB (xs (x3 + 1).toNatClampNeg) (nI n) = true then (if (0 : Int32) = 0 then il &&& (((1 : Int32) <<< ((xs (x3 + 1).toNatClampNeg) &&& 31)) ^^^ (-1)) else il ||| ((1 : Int32) <<< ((xs (x3 + 1).toNatClampNeg) &&& 31))) else il) kn sp py bo) ++ wR cI cZ z (nI n) se wo wm ch ne np al wr kn sp py (if inR (xs (x3 + 1).toNatClampNeg) 0 (nI n - 1) = true then upd iz (xs (x3 + 1).toNatClampNeg).toNatClampNeg (vp_nar .boolean (0 : Int32)) else iz) fO wI bz so sz ro cp nr tz oz hz la) := hD
    have heq : ((if inB (xs (x3 + 1).toNatClampNeg) (nI n) = true then bI (hs il (xs (x3 + 1).toNatClampNeg)) else (-2)) : Int32) = (if inR (xs (x3 + 1).toNatClampNeg) 0 (nI n - 1) = true then (if iz (xs (x3 + 1).toNatClampNeg).toNatClampNeg = 0 then 0 else 1) else (-2)) := by rw [inR_p hn]; exact (o_ill (xs (x3 + 1).toNatClampNeg) (0 : Int32) (Or.inl rfl) hR).1
    refine lv_icmp_eq (tgt := 731) hx hb dL_law_219 (by decide) (fun _ => ?_) (fun hc => absurd heq hc)
    rw [inR_p hn] at hP hD
    exact hX n _ _ _ _ _ _ _ _ _ _ _ _ _ _ _ _ _ _ _ _ _ _ _ _ _ _ _ _ _ _ _ _ _ _ _ _ _ _ _ _ _ _ _ ((o_ill (xs (x3 + 1).toNatClampNeg) (0 : Int32) (Or.inl rfl) hR).2) H locs ls hl hP hD hS
  · refine lv_iconst (v := (1 : Int32)) hx hb dL_law_189 (by decide) ?_
    refine lv_goto (tgt := 194) hx hb dL_law_190 (by decide) ?_
    refine zc_L [0, 1, 2, 3, 4, 5, 6, 7, 8, 9, 10, 11, 12, 13, 14, 15, 16, 17, 18, 19] [20, 21, 22, 23, 24, 25, 26, 27, 28, 29, 30, 31, 32, 33, 34, 35, 36] rfl rfl rfl (by decide) (va_runV (As := [.int (xs (x3 + 1).toNatClampNeg), .int (1 : Int32)]) (rest := []) ⟨hx, hb, hml, hown, hts⟩ ((c_X3_ill l D cI cZ q se wo fO wI os fl wa fo sb lp fm pn tr fs sk ct nt so sd ti on he n il kn sp py bo (xs (x3 + 1).toNatClampNeg) (1 : Int32) hn ) H.size) (cwV 2 hts gL_law_X3_ill rfl rfl rfl (by decide +kernel) ⟨(Nat.le_of_ble_eq_true rfl), (Nat.le_of_ble_eq_true rfl)⟩) (pv_L hK hN hP hD [0, 1, 2, 3, 4, 5, 6, 7, 8, 9, 10, 11, 12, 13, 14, 15, 16, 17, 18, 19] rfl rfl 3 0 rfl rfl) rfl rfl hl.1 rfl (lv_room (Nat.le_of_ble_eq_true rfl)) dL_law_194 ⟨(Nat.le_of_ble_eq_true rfl), (Nat.le_of_ble_eq_true rfl)⟩) hP hD hS hA (fun r u H locs hu hP hD hS => ?_)
    obtain ⟨rfl, rfl⟩ := hu
    have hP : va_P D vwCl ((wR cI cZ z (nI n) se wo wm ch ne np al wr kn sp py iz fO wI bz so sz ro cp nr tz oz hz la) ++ (wM cI q se wo fO wI ++ wS cI q os fl wa fo sb lp fm pn tr fs sk ct nt ++ wD cI q so sd ti on he ++ wP cI q (nI n) (if inB (xs (x3 + 1).toNatClampNeg) (nI n) = true then (if (1 : Int32) = 0 then il &&& (((1 : Int32) <<< ((xs (x3 + 1).toNatClampNeg) &&& 31)) ^^^ (-1)) else il ||| ((1 : Int32) <<< ((xs (x3 + 1).toNatClampNeg) &&& 31))) else il) kn sp py bo)) H := hP
    have hD : va_D (fun a : Nat => s.heap.size ≤ a) ((wR cI cZ z (nI n) se wo wm ch ne np al wr kn sp py iz fO wI bz so sz ro cp nr tz oz hz la) ++ (wM cI q se wo fO wI ++ wS cI q os fl wa fo sb lp fm pn tr fs sk ct nt ++ wD cI q so sd ti on he ++ wP cI q (nI n) (if inB (xs (x3 + 1).toNatClampNeg) (nI n) = true then (if (1 : Int32) = 0 then il &&& (((1 : Int32) <<< ((xs (x3 + 1).toNatClampNeg) &&& 31)) ^^^ (-1)) else il ||| ((1 : Int32) <<< ((xs (x3 + 1).toNatClampNeg) &&& 31))) else il) kn sp py bo)) := hD
    refine lv_aload_n hx hb dL_law_197 rfl (lv_at hl 2 rfl) ?_
    refine lv_aload_n hx hb dL_law_198 rfl (lv_at hl 0 rfl) ?_
    refine lv_iload_n hx hb dL_law_199 rfl (lv_at hl 3 rfl) ?_
    refine lv_iconst (v := (1 : Int32)) hx hb dL_law_200 (by decide) ?_
    refine lv_iadd hx hb dL_law_201 ?_
    refine va_sld hx hb hXs hbl hbA hS v1 dL_law_202 ?_
    refine lv_aload_n hx hb dL_law_203 rfl (lv_at hl 0 rfl) ?_
    refine lv_iload_n hx hb dL_law_204 rfl (lv_at hl 3 rfl) ?_
    refine lv_iconst (v := (2 : Int32)) hx hb dL_law_205 (by decide) ?_
    refine lv_iadd hx hb dL_law_206 ?_
    refine va_sld hx hb hXs hbl hbA hS v2 dL_law_207 ?_
    refine lv_if_eq (tgt := 215) hx hb dL_law_208 (by decide) (fun hc1 => absurd hc1 hc0) (fun _ => ?_)
    refine lv_iconst (v := (1 : Int32)) hx hb dL_law_211 (by decide) ?_
    refine lv_goto (tgt := 216) hx hb dL_law_212 (by decide) ?_
    refine zc_L [0, 1, 2, 3, 4, 5, 6, 7, 8, 9, 10, 11, 12, 13, 14, 15, 16] [17, 18, 19, 20, 21, 22, 23, 24, 25, 26, 27, 28, 29, 30, 31, 32, 33, 34, 35, 36] rfl rfl rfl (by decide) (va_runV (As := [.int (xs (x3 + 1).toNatClampNeg), .int (1 : Int32)]) (rest := [.int (if inB (xs (x3 + 1).toNatClampNeg) (nI n) = true then bI (hs il (xs (x3 + 1).toNatClampNeg)) else (-2))]) ⟨hx, hb, hml, hown, hts⟩ ((c_X4_ill l D cI cZ z n se wo wm ch ne np al wr kn sp py iz fO wI bz so sz ro cp nr tz oz hz la (xs (x3 + 1).toNatClampNeg) (1 : Int32) hn ) H.size) (cwV 2 hts gL_law_X4_ill rfl rfl rfl (by decide +kernel) ⟨(Nat.le_of_ble_eq_true rfl), (Nat.le_of_ble_eq_true rfl)⟩) (pv_L hK hN hP hD [0, 1, 2, 3, 4, 5, 6, 7, 8, 9, 10, 11, 12, 13, 14, 15, 16] rfl rfl 4 0 rfl rfl) rfl rfl hl.1 rfl (lv_room (Nat.le_of_ble_eq_true rfl)) dL_law_216 ⟨(Nat.le_of_ble_eq_true rfl), (Nat.le_of_ble_eq_true rfl)⟩) hP hD hS hA (fun r u H locs hu hP hD hS => ?_)
    obtain ⟨rfl, rfl⟩ := hu
    have hP : va_P D vwCl ((wM cI q se wo fO wI ++ wS cI q os fl wa fo sb lp fm pn tr fs sk ct nt ++ wD cI q so sd ti on he ++ wP cI q (nI n) (if inB (xs (x3 + 1).toNatClampNeg) (nI n) = true then (if (1 : Int32) = 0 then il &&& (((1 : Int32) <<< ((xs (x3 + 1).toNatClampNeg) &&& 31)) ^^^ (-1)) else il ||| ((1 : Int32) <<< ((xs (x3 + 1).toNatClampNeg) &&& 31))) else il) kn sp py bo) ++ wR cI cZ z (nI n) se wo wm ch ne np al wr kn sp py (if inR (xs (x3 + 1).toNatClampNeg) 0 (nI n - 1) = true then upd iz (xs (x3 + 1).toNatClampNeg).toNatClampNeg (vp_nar .boolean (1 : Int32)) else iz) fO wI bz so sz ro cp nr tz oz hz la) H := hP
    have hD : va_D (fun a : Nat => s.heap.size ≤ a) ((wM cI q se wo fO wI ++ wS cI q os fl wa fo sb lp fm pn tr fs sk ct nt ++ wD cI q so sd ti on he ++ wP cI q (nI n) (if inB (xs (x3 + 1).toNatClampNeg) (nI n) = true then (if (1 : Int32) = 0 then il &&& (((1 : Int32) <<< ((xs (x3 + 1).toNatClampNeg) &&& 31)) ^^^ (-1)) else il ||| ((1 : Int32) <<< ((xs (x3 + 1).toNatClampNeg) &&& 31))) else il) kn sp py bo) ++ wR cI cZ z (nI n) se wo wm ch ne np al wr kn sp py (if inR (xs (x3 + 1).toNatClampNeg) 0 (nI n - 1) = true then upd iz (xs (x3 + 1).toNatClampNeg).toNatClampNeg (vp_nar .boolean (1 : Int32)) else iz) fO wI bz so sz ro cp nr tz oz hz la) := hD
    have heq : ((if inB (xs (x3 + 1).toNatClampNeg) (nI n) = true then bI (hs il (xs (x3 + 1).toNatClampNeg)) else (-2)) : Int32) = (if inR (xs (x3 + 1).toNatClampNeg) 0 (nI n - 1) = true then (if iz (xs (x3 + 1).toNatClampNeg).toNatClampNeg = 0 then 0 else 1) else (-2)) := by rw [inR_p hn]; exact (o_ill (xs (x3 + 1).toNatClampNeg) (1 : Int32) (Or.inr rfl) hR).1
    refine lv_icmp_eq (tgt := 731) hx hb dL_law_219 (by decide) (fun _ => ?_) (fun hc => absurd heq hc)
    rw [inR_p hn] at hP hD
    exact hX n _ _ _ _ _ _ _ _ _ _ _ _ _ _ _ _ _ _ _ _ _ _ _ _ _ _ _ _ _ _ _ _ _ _ _ _ _ _ _ _ _ _ _ ((o_ill (xs (x3 + 1).toNatClampNeg) (1 : Int32) (Or.inr rfl) hR).2) H locs ls hl hP hD hS
set_option maxHeartbeats 4000000 in
set_option maxRecDepth 100000 in
theorem lc_session {p : Program} {l : Launch} {e : Env} {s : State} {m : MethodId} {below : List Frame} {meth : Method} {c : Code} {b L : Nat} {xs : Nat → Int32} {x3 : Int32} {D : va_G} {cI cZ : ClassId} {q z : Nat → Nat} (C0 : lw_At p s m meth c b L xs) (hK : va_K D vwCl (ty2 cI cZ) s) (hN : nst s) (v1 : vp_in (x3 + 1) L) (v2 : vp_in (x3 + 2) L) (v3 : vp_in (x3 + 3) L) (hX : LK p l e s m below meth c b x3 D cI cZ q z 731) : LK p l e s m below meth c b x3 D cI cZ q z 224 := by
  obtain ⟨hx, hb, hr, hml, hown, hts0, hXs, hbl, hlocks, hgv⟩ := C0
  have hts : ∀ w ∈ wsL_law, w.before #[Value.ref b] s = true := fun w h => hts0 w (wsL_law_in w h)
  have hown : s.vm.findClass RL = some m.cls := hown
  have hA : ∀ a : Nat, s.heap.size ≤ a → (fun a : Nat => s.heap.size ≤ a) a := fun _ h => h
  have hbA : ¬ (fun a : Nat => s.heap.size ≤ a) b := Nat.not_le.mpr hbl
  intro n il se wo os fl wa fo sb lp fm pn wm ch ne np al wr fO wI tr fs sk ct nt so sd ti on he kn sp py bo iz bz sz ro cp nr tz oz hz la hR H locs ls hl hP hD hS
  have hn := hR.1
  have hsz := hR.2.2.2.2.2.2.2.2.2.2
  refine lv_aload_n hx hb dL_law_224 rfl (lv_at hl 1 rfl) ?_
  refine lv_aload_n hx hb dL_law_225 rfl (lv_at hl 0 rfl) ?_
  refine lv_iload_n hx hb dL_law_226 rfl (lv_at hl 3 rfl) ?_
  refine lv_iconst (v := (1 : Int32)) hx hb dL_law_227 (by decide) ?_
  refine lv_iadd hx hb dL_law_228 ?_
  refine va_sld hx hb hXs hbl hbA hS v1 dL_law_229 ?_
  refine lv_aload_n hx hb dL_law_230 rfl (lv_at hl 0 rfl) ?_
  refine lv_iload_n hx hb dL_law_231 rfl (lv_at hl 3 rfl) ?_
  refine lv_iconst (v := (2 : Int32)) hx hb dL_law_232 (by decide) ?_
  refine lv_iadd hx hb dL_law_233 ?_
  refine va_sld hx hb hXs hbl hbA hS v2 dL_law_234 ?_
  refine lv_aload_n hx hb dL_law_235 rfl (lv_at hl 0 rfl) ?_
  refine lv_iload_n hx hb dL_law_236 rfl (lv_at hl 3 rfl) ?_
  refine lv_iconst (v := (3 : Int32)) hx hb dL_law_237 (by decide) ?_
  refine lv_iadd hx hb dL_law_238 ?_
  refine va_sld hx hb hXs hbl hbA hS v3 dL_law_239 ?_
  refine zc_L [0, 1, 2, 3, 4, 5, 6, 7, 8, 9, 10, 11, 12, 13, 14, 15, 16, 17, 18, 19] [20, 21, 22, 23, 24, 25, 26, 27, 28, 29, 30, 31, 32, 33, 34, 35, 36] rfl rfl rfl (by decide) (va_runV (As := [.int (xs (x3 + 1).toNatClampNeg), .int (xs (x3 + 2).toNatClampNeg), .int (xs (x3 + 3).toNatClampNeg)]) (rest := []) ⟨hx, hb, hml, hown, hts⟩ ((c_X3_session l D cI cZ q se wo fO wI os fl wa fo sb lp fm pn tr fs sk ct nt so sd ti on he n il kn sp py bo (xs (x3 + 1).toNatClampNeg) (xs (x3 + 2).toNatClampNeg) (xs (x3 + 3).toNatClampNeg) hn ) H.size) (cwV 3 hts gL_law_X3_session rfl rfl rfl (by decide +kernel) ⟨(Nat.le_of_ble_eq_true rfl), (Nat.le_of_ble_eq_true rfl)⟩) (pv_L hK hN hP hD [0, 1, 2, 3, 4, 5, 6, 7, 8, 9, 10, 11, 12, 13, 14, 15, 16, 17, 18, 19] rfl rfl 3 0 rfl rfl) rfl rfl hl.1 rfl (lv_room (Nat.le_of_ble_eq_true rfl)) dL_law_240 ⟨(Nat.le_of_ble_eq_true rfl), (Nat.le_of_ble_eq_true rfl)⟩) hP hD hS hA (fun r u H locs hu hP hD hS => ?_)
  obtain ⟨rfl, rfl⟩ := hu
  have hP : va_P D vwCl ((wR cI cZ z (nI n) se wo wm ch ne np al wr kn sp py iz fO wI bz so sz ro cp nr tz oz hz la) ++ (wM cI q se wo (if (inB (xs (x3 + 1).toNatClampNeg) 2 && (decide ((xs (x3 + 2).toNatClampNeg) &&& (-32) = 0) && decide ((xs (x3 + 3).toNatClampNeg) &&& (-32) = 0))) = true then upd fO (xs (x3 + 1).toNatClampNeg).toNatClampNeg (xs (x3 + 2).toNatClampNeg) else fO) (if (inB (xs (x3 + 1).toNatClampNeg) 2 && (decide ((xs (x3 + 2).toNatClampNeg) &&& (-32) = 0) && decide ((xs (x3 + 3).toNatClampNeg) &&& (-32) = 0))) = true then upd wI (xs (x3 + 1).toNatClampNeg).toNatClampNeg (xs (x3 + 3).toNatClampNeg) else wI) ++ wS cI q os fl wa fo sb lp fm pn tr fs sk ct nt ++ wD cI q so sd ti on he ++ wP cI q (nI n) il kn sp py bo)) H := hP
  have hD : va_D (fun a : Nat => s.heap.size ≤ a) ((wR cI cZ z (nI n) se wo wm ch ne np al wr kn sp py iz fO wI bz so sz ro cp nr tz oz hz la) ++ (wM cI q se wo (if (inB (xs (x3 + 1).toNatClampNeg) 2 && (decide ((xs (x3 + 2).toNatClampNeg) &&& (-32) = 0) && decide ((xs (x3 + 3).toNatClampNeg) &&& (-32) = 0))) = true then upd fO (xs (x3 + 1).toNatClampNeg).toNatClampNeg (xs (x3 + 2).toNatClampNeg) else fO) (if (inB (xs (x3 + 1).toNatClampNeg) 2 && (decide ((xs (x3 + 2).toNatClampNeg) &&& (-32) = 0) && decide ((xs (x3 + 3).toNatClampNeg) &&& (-32) = 0))) = true then upd wI (xs (x3 + 1).toNatClampNeg).toNatClampNeg (xs (x3 + 3).toNatClampNeg) else wI) ++ wS cI q os fl wa fo sb lp fm pn tr fs sk ct nt ++ wD cI q so sd ti on he ++ wP cI q (nI n) il kn sp py bo)) := hD
  refine lv_aload_n hx hb dL_law_243 rfl (lv_at hl 2 rfl) ?_
  refine lv_aload_n hx hb dL_law_244 rfl (lv_at hl 0 rfl) ?_
  refine lv_iload_n hx hb dL_law_245 rfl (lv_at hl 3 rfl) ?_
  refine lv_iconst (v := (1 : Int32)) hx hb dL_law_246 (by decide) ?_
  refine lv_iadd hx hb dL_law_247 ?_
  refine va_sld hx hb hXs hbl hbA hS v1 dL_law_248 ?_
  refine lv_aload_n hx hb dL_law_249 rfl (lv_at hl 0 rfl) ?_
  refine lv_iload_n hx hb dL_law_250 rfl (lv_at hl 3 rfl) ?_
  refine lv_iconst (v := (2 : Int32)) hx hb dL_law_251 (by decide) ?_
  refine lv_iadd hx hb dL_law_252 ?_
  refine va_sld hx hb hXs hbl hbA hS v2 dL_law_253 ?_
  refine lv_aload_n hx hb dL_law_254 rfl (lv_at hl 0 rfl) ?_
  refine lv_iload_n hx hb dL_law_255 rfl (lv_at hl 3 rfl) ?_
  refine lv_iconst (v := (3 : Int32)) hx hb dL_law_256 (by decide) ?_
  refine lv_iadd hx hb dL_law_257 ?_
  refine va_sld hx hb hXs hbl hbA hS v3 dL_law_258 ?_
  refine zc_L [0, 1, 2, 3, 4, 5, 6, 7, 8, 9, 10, 11, 12, 13, 14, 15, 16] [17, 18, 19, 20, 21, 22, 23, 24, 25, 26, 27, 28, 29, 30, 31, 32, 33, 34, 35, 36] rfl rfl rfl (by decide) (va_runV (As := [.int (xs (x3 + 1).toNatClampNeg), .int (xs (x3 + 2).toNatClampNeg), .int (xs (x3 + 3).toNatClampNeg)]) (rest := [.int (if inB (xs (x3 + 1).toNatClampNeg) 2 = true then (if (decide ((xs (x3 + 2).toNatClampNeg) &&& (-32) = 0) && decide ((xs (x3 + 3).toNatClampNeg) &&& (-32) = 0)) = true then 1 else (-3)) else (-2))]) ⟨hx, hb, hml, hown, hts⟩ ((c_X4_session l D cI cZ z n se wo wm ch ne np al wr kn sp py iz fO wI bz so sz ro cp nr tz oz hz la (xs (x3 + 1).toNatClampNeg) (xs (x3 + 2).toNatClampNeg) (xs (x3 + 3).toNatClampNeg) hn ) H.size) (cwV 3 hts gL_law_X4_session rfl rfl rfl (by decide +kernel) ⟨(Nat.le_of_ble_eq_true rfl), (Nat.le_of_ble_eq_true rfl)⟩) (pv_L hK hN hP hD [0, 1, 2, 3, 4, 5, 6, 7, 8, 9, 10, 11, 12, 13, 14, 15, 16] rfl rfl 4 0 rfl rfl) rfl rfl hl.1 rfl (lv_room (Nat.le_of_ble_eq_true rfl)) dL_law_259 ⟨(Nat.le_of_ble_eq_true rfl), (Nat.le_of_ble_eq_true rfl)⟩) hP hD hS hA (fun r u H locs hu hP hD hS => ?_)
  obtain ⟨rfl, rfl⟩ := hu
  have hP : va_P D vwCl ((wM cI q se wo (if (inB (xs (x3 + 1).toNatClampNeg) 2 && (decide ((xs (x3 + 2).toNatClampNeg) &&& (-32) = 0) && decide ((xs (x3 + 3).toNatClampNeg) &&& (-32) = 0))) = true then upd fO (xs (x3 + 1).toNatClampNeg).toNatClampNeg (xs (x3 + 2).toNatClampNeg) else fO) (if (inB (xs (x3 + 1).toNatClampNeg) 2 && (decide ((xs (x3 + 2).toNatClampNeg) &&& (-32) = 0) && decide ((xs (x3 + 3).toNatClampNeg) &&& (-32) = 0))) = true then upd wI (xs (x3 + 1).toNatClampNeg).toNatClampNeg (xs (x3 + 3).toNatClampNeg) else wI) ++ wS cI q os fl wa fo sb lp fm pn tr fs sk ct nt ++ wD cI q so sd ti on he ++ wP cI q (nI n) il kn sp py bo) ++ wR cI cZ z (nI n) se wo wm ch ne np al wr kn sp py iz (if (inR (xs (x3 + 1).toNatClampNeg) 0 1 && (inR (xs (x3 + 2).toNatClampNeg) 0 31 && inR (xs (x3 + 3).toNatClampNeg) 0 31)) = true then upd fO (xs (x3 + 1).toNatClampNeg).toNatClampNeg (xs (x3 + 2).toNatClampNeg) else fO) (if (inR (xs (x3 + 1).toNatClampNeg) 0 1 && (inR (xs (x3 + 2).toNatClampNeg) 0 31 && inR (xs (x3 + 3).toNatClampNeg) 0 31)) = true then upd wI (xs (x3 + 1).toNatClampNeg).toNatClampNeg (xs (x3 + 3).toNatClampNeg) else wI) bz so sz ro cp nr tz oz hz la) H := hP
  have hD : va_D (fun a : Nat => s.heap.size ≤ a) ((wM cI q se wo (if (inB (xs (x3 + 1).toNatClampNeg) 2 && (decide ((xs (x3 + 2).toNatClampNeg) &&& (-32) = 0) && decide ((xs (x3 + 3).toNatClampNeg) &&& (-32) = 0))) = true then upd fO (xs (x3 + 1).toNatClampNeg).toNatClampNeg (xs (x3 + 2).toNatClampNeg) else fO) (if (inB (xs (x3 + 1).toNatClampNeg) 2 && (decide ((xs (x3 + 2).toNatClampNeg) &&& (-32) = 0) && decide ((xs (x3 + 3).toNatClampNeg) &&& (-32) = 0))) = true then upd wI (xs (x3 + 1).toNatClampNeg).toNatClampNeg (xs (x3 + 3).toNatClampNeg) else wI) ++ wS cI q os fl wa fo sb lp fm pn tr fs sk ct nt ++ wD cI q so sd ti on he ++ wP cI q (nI n) il kn sp py bo) ++ wR cI cZ z (nI n) se wo wm ch ne np al wr kn sp py iz (if (inR (xs (x3 + 1).toNatClampNeg) 0 1 && (inR (xs (x3 + 2).toNatClampNeg) 0 31 && inR (xs (x3 + 3).toNatClampNeg) 0 31)) = true then upd fO (xs (x3 + 1).toNatClampNeg).toNatClampNeg (xs (x3 + 2).toNatClampNeg) else fO) (if (inR (xs (x3 + 1).toNatClampNeg) 0 1 && (inR (xs (x3 + 2).toNatClampNeg) 0 31 && inR (xs (x3 + 3).toNatClampNeg) 0 31)) = true then upd wI (xs (x3 + 1).toNatClampNeg).toNatClampNeg (xs (x3 + 3).toNatClampNeg) else wI) bz so sz ro cp nr tz oz hz la) := hD
  have heq : ((if inB (xs (x3 + 1).toNatClampNeg) 2 = true then (if (decide ((xs (x3 + 2).toNatClampNeg) &&& (-32) = 0) && decide ((xs (x3 + 3).toNatClampNeg) &&& (-32) = 0)) = true then 1 else (-3)) else (-2)) : Int32) = (if inR (xs (x3 + 1).toNatClampNeg) 0 1 = true then (if (inR (xs (x3 + 2).toNatClampNeg) 0 31 && inR (xs (x3 + 3).toNatClampNeg) 0 31) = true then 1 else (-3)) else (-2)) := by rw [inR_2, inR_32, inR_32]
  refine lv_icmp_eq (tgt := 731) hx hb dL_law_262 (by decide) (fun _ => ?_) (fun hc => absurd heq hc)
  rw [inR_2, inR_32, inR_32] at hP hD
  exact hX n _ _ _ _ _ _ _ _ _ _ _ _ _ _ _ _ _ _ _ _ _ _ _ _ _ _ _ _ _ _ _ _ _ _ _ _ _ _ _ _ _ _ _ (o_session (xs (x3 + 1).toNatClampNeg) (xs (x3 + 2).toNatClampNeg) (xs (x3 + 3).toNatClampNeg) hR) H locs ls hl hP hD hS
