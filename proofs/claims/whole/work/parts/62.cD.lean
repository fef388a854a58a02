set_option maxHeartbeats 4000000 in
set_option maxRecDepth 100000 in
theorem c_X0_setSpoken (l : Launch) (D : va_G) (cI cZ : ClassId) (q : Nat → Nat) (so : Nat → Int32) (sd : Nat → Int32) (ti : Nat → Int32) (on : Nat → Int32) (he : Nat → Int32) (n : Nat) (il : Int32) (kn : Nat → Int32) (sp : Nat → Int32) (py : Nat → Int32) (bo : Nat → Int32) (a1 : Int32) (a2 : Int32) (a3 : Int32) (hn : n ≤ 6) : MV l yX0_setSpoken wsX0_setSpoken ({ frames := 4, cells := 0, slots := 0, locals := 160 }) D cI cZ [.ref (q 11), .int a1, .int a2, .int a3] (wD cI q so sd ti on he ++ wP cI q (nI n) il kn sp py bo) (fun u : (Nat → Int32) × (Nat → Int32) => (wD cI q u.1 u.2 ti on he ++ wP cI q (nI n) il kn sp py bo)) (fun u => u = ((if inB a1 16 = true then upd so a1.toNatClampNeg a2 else so), (if inB a1 16 = true then upd sd a1.toNatClampNeg a3 else sd))) := by
  refine MV_of (cc := cX0_setSpoken) (maxL := 4) (by decide) rfl (Nat.le_of_ble_eq_true rfl) (fun p e s m args below meth c A Q hx hb hml hown hts hK hN hA hret H locs ls hl hP hD hS => ?_)
  have hown : s.vm.findClass RX0 = some m.cls := hown
  have hl : lv_has ls 4 [(0, .ref (q 11)), (1, .int a1), (2, .int a2), (3, .int a3)] := hl
  have hin0 : ∀ w ∈ u_ws RX0 TX0 6, w ∈ wsX0_setSpoken := fun w h => List.mem_cons_of_mem _ (List.mem_append_right _ h)
  have f9 : (Cond.fieldLink RX0 9 "GlassBooths$Day" "spoken" "[I").before args s = true := hts _ (by decide +kernel)
  have f15 : (Cond.fieldLink RX0 15 "GlassBooths$Day" "speeds" "[I").before args s = true := hts _ (by decide +kernel)
  have hw := h_X0_setSpoken n ti on he il kn sp py bo so sd a1 a2 a3 hn   
  unfold v_X0_setSpoken_0 at hw
  refine lv_iload_n hx hb dX0_setSpoken_0 rfl (lv_at hl 1 rfl) ?_
  refine zc_i0 (va_runSN (As := [.int a1]) (rest := []) ⟨hx, hb, hml, hown, hts⟩ ((c_X3_isHalf l D cI cZ a1  ) H.size) ⟨va_cnB 1 hts gX0_setSpoken_X3_isHalf_n37 rfl rfl rfl (hN _ (List.mem_of_getElem? (i := 19) rfl)) (hts _ (by decide +kernel)) (by decide +kernel) ⟨Nat.le_of_ble_eq_true rfl, Nat.le_of_ble_eq_true rfl⟩, hts _ (by decide +kernel), trivial⟩ (ps_of hK hN hP hD [] rfl rfl) rfl rfl hl.1 rfl (lv_room (Nat.le_of_ble_eq_true rfl)) dX0_setSpoken_1 ⟨Nat.zero_le _, Nat.zero_le _⟩) hP hD hS hA (fun r u H locs hu hP hD hS => ?_)
  subst hu
  refine lv_if_eq (tgt := 21) hx hb dX0_setSpoken_4 (by decide) (fun hc => ?_) (fun hc => ?_)
  · replace hw := hw.1 hc
    exact hret (so, sd) _ _ _ _ hw hP hD hS dX0_setSpoken_21
  · replace hw := hw.2 hc
    refine lv_aload_n hx hb dX0_setSpoken_7 rfl (lv_at hl 0 rfl) ?_
    refine va_get (D := D) (ci := 0) (v := .ref (q 12)) (C := RX0) (T := TX0) (N := 6) hx hb hts hin0 hown hK hP 0 rfl rfl 1 (by decide) f9 (fun _ h9 => h9) rfl dX0_setSpoken_8 ?_
    refine lv_iload_n hx hb dX0_setSpoken_11 rfl (lv_at hl 1 rfl) ?_
    refine lv_iload_n hx hb dX0_setSpoken_12 rfl (lv_at hl 2 rfl) ?_
    obtain ⟨hv, hw⟩ := hw
    refine va_iast hx hb hK hP hD hS 1 0 rfl rfl hv dX0_setSpoken_13 (fun H locs hP hD hS => ?_)
    have hP : va_P D vwCl (wD cI q (upd so a1.toNatClampNeg a2) sd ti on he ++ wP cI q (nI n) il kn sp py bo) H := hP
    have hD : va_D A (wD cI q (upd so a1.toNatClampNeg a2) sd ti on he ++ wP cI q (nI n) il kn sp py bo) := hD
    refine lv_aload_n hx hb dX0_setSpoken_14 rfl (lv_at hl 0 rfl) ?_
    refine va_get (D := D) (ci := 0) (v := .ref (q 13)) (C := RX0) (T := TX0) (N := 6) hx hb hts hin0 hown hK hP 0 rfl rfl 2 (by decide) f15 (fun _ h9 => h9) rfl dX0_setSpoken_15 ?_
    refine lv_iload_n hx hb dX0_setSpoken_18 rfl (lv_at hl 1 rfl) ?_
    refine lv_iload_n hx hb dX0_setSpoken_19 rfl (lv_at hl 3 rfl) ?_
    obtain ⟨hv, hw⟩ := hw
    refine va_iast hx hb hK hP hD hS 2 0 rfl rfl hv dX0_setSpoken_20 (fun H locs hP hD hS => ?_)
    have hP : va_P D vwCl (wD cI q (upd so a1.toNatClampNeg a2) (upd sd a1.toNatClampNeg a3) ti on he ++ wP cI q (nI n) il kn sp py bo) H := hP
    have hD : va_D A (wD cI q (upd so a1.toNatClampNeg a2) (upd sd a1.toNatClampNeg a3) ti on he ++ wP cI q (nI n) il kn sp py bo) := hD
    exact hret (upd so a1.toNatClampNeg a2, upd sd a1.toNatClampNeg a3) _ _ _ _ hw hP hD hS dX0_setSpoken_21
set_option maxHeartbeats 4000000 in
set_option maxRecDepth 100000 in
theorem c_X0_setSilent (l : Launch) (D : va_G) (cI cZ : ClassId) (q : Nat → Nat) (so : Nat → Int32) (sd : Nat → Int32) (ti : Nat → Int32) (on : Nat → Int32) (he : Nat → Int32) (n : Nat) (il : Int32) (kn : Nat → Int32) (sp : Nat → Int32) (py : Nat → Int32) (bo : Nat → Int32) (a1 : Int32) (hn : n ≤ 6) : MV l yX0_setSilent wsX0_setSilent ({ frames := 6, cells := 0, slots := 0, locals := 240 }) D cI cZ [.ref (q 11), .int a1] (wD cI q so sd ti on he ++ wP cI q (nI n) il kn sp py bo) (fun u : (Nat → Int32) × (Nat → Int32) => (wD cI q u.1 u.2 ti on he ++ wP cI q (nI n) il kn sp py bo)) (fun u => u = ((if inB a1 16 = true then upd so a1.toNatClampNeg (-1) else so), (if inB a1 16 = true then upd sd a1.toNatClampNeg 0 else sd))) := by
  refine MV_of (cc := cX0_setSilent) (maxL := 2) (by decide) rfl (Nat.le_of_ble_eq_true rfl) (fun p e s m args below meth c A Q hx hb hml hown hts hK hN hA hret H locs ls hl hP hD hS => ?_)
  have hown : s.vm.findClass RX0 = some m.cls := hown
  have hl : lv_has ls 2 [(0, .ref (q 11)), (1, .int a1)] := hl
  have hw := h_X0_setSilent n ti on he il kn sp py bo so sd a1 hn   
  unfold v_X0_setSilent_0 at hw
  refine lv_aload_n hx hb dX0_setSilent_0 rfl (lv_at hl 0 rfl) ?_
  refine lv_iload_n hx hb dX0_setSilent_1 rfl (lv_at hl 1 rfl) ?_
  refine lv_iconst (v := (-1 : Int32)) hx hb dX0_setSilent_2 (by decide) ?_
  refine lv_iconst (v := (0 : Int32)) hx hb dX0_setSilent_3 (by decide) ?_
  refine zc_v (fun u => (wD cI q u.1 u.2 ti on he ++ wP cI q (nI n) il kn sp py bo)) [0, 1, 2, 3, 4, 5, 6, 7, 8, 9, 10] [] [0, 1, 2, 3, 4, 5, 6, 7, 8, 9, 10] (va_runV (As := [.int a1, .int (-1 : Int32), .int (0 : Int32)]) (rest := []) ⟨hx, hb, hml, hown, hts⟩ ((c_X0_setSpoken l D cI cZ q so sd ti on he n il kn sp py bo a1 (-1 : Int32) (0 : Int32) hn ) H.size) (cwV 3 hts gX0_setSilent_X0_setSpoken rfl rfl rfl (by decide +kernel) ⟨Nat.le_of_ble_eq_true rfl, Nat.le_of_ble_eq_true rfl⟩) (pv_of hK hN hP hD [0, 1, 2, 3, 4, 5, 6, 7, 8, 9, 10] rfl rfl 0 0 rfl rfl) rfl rfl hl.1 rfl (lv_room (Nat.le_of_ble_eq_true rfl)) dX0_setSilent_4 ⟨Nat.zero_le _, Nat.zero_le _⟩) hP hD hS hA rfl rfl rfl (by decide) (fun _ => rfl) rfl (fun u H locs hu hP hD hS => ?_)
  subst hu
  have hP : va_P D vwCl (wD cI q (if inB a1 16 = true then upd so a1.toNatClampNeg (-1 : Int32) else so) (if inB a1 16 = true then upd sd a1.toNatClampNeg (0 : Int32) else sd) ti on he ++ wP cI q (nI n) il kn sp py bo) H := hP
  have hD : va_D A (wD cI q (if inB a1 16 = true then upd so a1.toNatClampNeg (-1 : Int32) else so) (if inB a1 16 = true then upd sd a1.toNatClampNeg (0 : Int32) else sd) ti on he ++ wP cI q (nI n) il kn sp py bo) := hD
  exact hret ((if inB a1 16 = true then upd so a1.toNatClampNeg (-1 : Int32) else so), (if inB a1 16 = true then upd sd a1.toNatClampNeg (0 : Int32) else sd)) _ _ _ _ hw hP hD hS dX0_setSilent_7
set_option maxHeartbeats 4000000 in
set_option maxRecDepth 100000 in
theorem c_X0_isSilent (l : Launch) (D : va_G) (cI cZ : ClassId) (q : Nat → Nat) (so : Nat → Int32) (sd : Nat → Int32) (ti : Nat → Int32) (on : Nat → Int32) (he : Nat → Int32) (n : Nat) (il : Int32) (kn : Nat → Int32) (sp : Nat → Int32) (py : Nat → Int32) (bo : Nat → Int32) (a1 : Int32) (hn : n ≤ 6) : MI l yX0_isSilent wsX0_isSilent ({ frames := 4, cells := 0, slots := 0, locals := 160 }) D cI cZ [.ref (q 11), .int a1] (wD cI q so sd ti on he ++ wP cI q (nI n) il kn sp py bo) (fun _ : Unit => (wD cI q so sd ti on he ++ wP cI q (nI n) il kn sp py bo)) (fun r _ => r = bI (silF so a1)) := by
  refine MI_of (cc := cX0_isSilent) (maxL := 2) (ty := .boolean) (by decide) rfl (Nat.le_of_ble_eq_true rfl) (fun p e s m args below meth c A Q hx hb hml hown hts hK hN hA hret H locs ls hl hP hD hS => ?_)
  have hown : s.vm.findClass RX0 = some m.cls := hown
  have hl : lv_has ls 2 [(0, .ref (q 11)), (1, .int a1)] := hl
  have hin0 : ∀ w ∈ u_ws RX0 TX0 6, w ∈ wsX0_isSilent := fun w h => List.mem_cons_of_mem _ (List.mem_append_right _ h)
  have f9 : (Cond.fieldLink RX0 9 "GlassBooths$Day" "spoken" "[I").before args s = true := hts _ (by decide +kernel)
  have J17 : ∀ (_ : Unit), v_X0_isSilent_17 n so sd ti on he il kn sp py bo (fun r _ => r = bI (silF so a1))   → ∀ (H : Heap) (locs : List Loc) (ls : Array Slot), lv_has ls 2 [] → va_P D vwCl (wD cI q so sd ti on he ++ wP cI q (nI n) il kn sp py bo) H → va_D A (wD cI q so sd ti on he ++ wP cI q (nI n) il kn sp py bo) → va_S A s.heap H locs → W p l e (headSpec wsX0_isSilent ({ frames := 4, cells := 0, slots := 0, locals := 160 })).room s m args below meth c H locs 0 0 Q (F0 m 17 ls []) := by
    intro _ hw
    intro H locs ls hl hP hD hS
    unfold v_X0_isSilent_17 at hw
    refine lv_iconst (v := (1 : Int32)) hx hb dX0_isSilent_17 (by decide) ?_
    refine lv_goto (tgt := 22) hx hb dX0_isSilent_18 (by decide) ?_
    exact hret _ () _ _ _ _ hw (by first | exact bI_nar _ | rfl | decide) hP hD hS dX0_isSilent_22
  have hw := h_X0_isSilent n so sd ti on he il kn sp py bo  a1 hn   
  unfold v_X0_isSilent_0 at hw
  refine lv_iload_n hx hb dX0_isSilent_0 rfl (lv_at hl 1 rfl) ?_
  refine zc_i0 (va_runSN (As := [.int a1]) (rest := []) ⟨hx, hb, hml, hown, hts⟩ ((c_X3_isHalf l D cI cZ a1  ) H.size) ⟨va_cnB 1 hts gX0_isSilent_X3_isHalf_n37 rfl rfl rfl (hN _ (List.mem_of_getElem? (i := 19) rfl)) (hts _ (by decide +kernel)) (by decide +kernel) ⟨Nat.le_of_ble_eq_true rfl, Nat.le_of_ble_eq_true rfl⟩, hts _ (by decide +kernel), trivial⟩ (ps_of hK hN hP hD [] rfl rfl) rfl rfl hl.1 rfl (lv_room (Nat.le_of_ble_eq_true rfl)) dX0_isSilent_1 ⟨Nat.zero_le _, Nat.zero_le _⟩) hP hD hS hA (fun r u H locs hu hP hD hS => ?_)
  subst hu
  refine lv_if_eq (tgt := 17) hx hb dX0_isSilent_4 (by decide) (fun hc => ?_) (fun hc => ?_)
  · replace hw := hw.1 hc
    exact J17 () hw _ _ _ (lv_sub hl [] rfl) hP hD hS
  · replace hw := hw.2 hc
    refine lv_aload_n hx hb dX0_isSilent_7 rfl (lv_at hl 0 rfl) ?_
    refine va_get (D := D) (ci := 0) (v := .ref (q 12)) (C := RX0) (T := TX0) (N := 6) hx hb hts hin0 hown hK hP 0 rfl rfl 1 (by decide) f9 (fun _ h9 => h9) rfl dX0_isSilent_8 ?_
    refine lv_iload_n hx hb dX0_isSilent_11 rfl (lv_at hl 1 rfl) ?_
    obtain ⟨hv, hw⟩ := hw
    refine va_iald hx hb hK hP 1 0 rfl rfl hv dX0_isSilent_12 ?_
    refine lv_iconst (v := (-1 : Int32)) hx hb dX0_isSilent_13 (by decide) ?_
    refine lv_icmp_ne (tgt := 21) hx hb dX0_isSilent_14 (by decide) (fun hc => ?_) (fun hc => ?_)
    · replace hw := hw.2 hc
      refine lv_iconst (v := (0 : Int32)) hx hb dX0_isSilent_21 (by decide) ?_
      exact hret _ () _ _ _ _ hw (by first | exact bI_nar _ | rfl | decide) hP hD hS dX0_isSilent_22
    · replace hw := hw.1 hc
      exact J17 () hw _ _ _ (lv_sub hl [] rfl) hP hD hS
set_option maxHeartbeats 4000000 in
set_option maxRecDepth 100000 in
theorem c_X0_spokenHalves (l : Launch) (D : va_G) (cI cZ : ClassId) (q : Nat → Nat) (so : Nat → Int32) (sd : Nat → Int32) (ti : Nat → Int32) (on : Nat → Int32) (he : Nat → Int32) (n : Nat) (il : Int32) (kn : Nat → Int32) (sp : Nat → Int32) (py : Nat → Int32) (bo : Nat → Int32) (hn : n ≤ 6) : MI l yX0_spokenHalves wsX0_spokenHalves ({ frames := 6, cells := 0, slots := 0, locals := 240 }) D cI cZ [.ref (q 11)] (wD cI q so sd ti on he ++ wP cI q (nI n) il kn sp py bo) (fun _ : Unit => (wD cI q so sd ti on he ++ wP cI q (nI n) il kn sp py bo)) (fun r _ => r = sI (fun k => bI (!decide (so k = -1))) 16) := by
  refine MI_of (cc := cX0_spokenHalves) (maxL := 3) (ty := .int) (by decide) rfl (Nat.le_of_ble_eq_true rfl) (fun p e s m args below meth c A Q hx hb hml hown hts hK hN hA hret H locs ls hl hP hD hS => ?_)
  have hown : s.vm.findClass RX0 = some m.cls := hown
  have hl : lv_has ls 3 [(0, .ref (q 11))] := hl
  obtain ⟨K4, k4i, k4e⟩ := ex_K2 (fun (x1 : Int32) (x2 : Int32) => ∀ (H : Heap) (locs : List Loc) (ls : Array Slot), lv_has ls 3 [(0, .ref (q 11)), (1, .int x1), (2, .int x2)] → va_P D vwCl (wD cI q so sd ti on he ++ wP cI q (nI n) il kn sp py bo) H → va_D A (wD cI q so sd ti on he ++ wP cI q (nI n) il kn sp py bo) → va_S A s.heap H locs → W p l e (headSpec wsX0_spokenHalves ({ frames := 6, cells := 0, slots := 0, locals := 240 })).room s m args below meth c H locs 0 0 Q (F0 m 4 ls []))
  have J21 : ∀ x1 x2, v_X0_spokenHalves_21 n so sd ti on he il kn sp py bo (fun r _ => r = sI (fun k => bI (!decide (so k = -1))) 16) K4 x1 x2 → ∀ (H : Heap) (locs : List Loc) (ls : Array Slot), lv_has ls 3 [(0, .ref (q 11)), (1, .int x1), (2, .int x2)] → va_P D vwCl (wD cI q so sd ti on he ++ wP cI q (nI n) il kn sp py bo) H → va_D A (wD cI q so sd ti on he ++ wP cI q (nI n) il kn sp py bo) → va_S A s.heap H locs → W p l e (headSpec wsX0_spokenHalves ({ frames := 6, cells := 0, slots := 0, locals := 240 })).room s m args below meth c H locs 0 0 Q (F0 m 21 ls []) := by
    intro x1 x2 hw
    intro H locs ls hl hP hD hS
    unfold v_X0_spokenHalves_21 at hw
    refine lv_iinc (v := x2 + 1) (lv' := [(2, .int (x2 + 1)), (0, .ref (q 11)), (1, .int x1)]) hx hb dX0_spokenHalves_21 hl (k := 2) rfl rfl (by decide) rfl (fun ls hl => ?_)
    refine lv_goto (tgt := 4) hx hb dX0_spokenHalves_24 (by decide) ?_
    exact k4e _ _ hw _ _ _ (lv_sub hl [1, 2, 0] rfl) hP hD hS
  have R4 : ∀ x1 x2, v_X0_spokenHalves_4 n so sd ti on he il kn sp py bo (fun r _ => r = sI (fun k => bI (!decide (so k = -1))) 16) K4 x1 x2 → K4 x1 x2 := by
    intro x1 x2 hw
    refine k4i _ _ ?_
    intro H locs ls hl hP hD hS
    unfold v_X0_spokenHalves_4 at hw
    refine lv_iload_n hx hb dX0_spokenHalves_4 rfl (lv_at hl 2 rfl) ?_
    refine lv_bipush (v := (16 : Int32)) hx hb dX0_spokenHalves_5 (by decide) ?_
    refine lv_icmp_ge (tgt := 27) hx hb dX0_spokenHalves_7 (by decide) (fun hc => ?_) (fun hc => ?_)
    · replace hw := hw.1 hc
      refine lv_iload_n hx hb dX0_spokenHalves_27 rfl (lv_at hl 1 rfl) ?_
      exact hret _ () _ _ _ _ hw rfl hP hD hS dX0_spokenHalves_28
    · replace hw := hw.2 hc
      refine lv_aload_n hx hb dX0_spokenHalves_10 rfl (lv_at hl 0 rfl) ?_
      refine lv_iload_n hx hb dX0_spokenHalves_11 rfl (lv_at hl 2 rfl) ?_
      refine zc_i (fun u => (wD cI q so sd ti on he ++ wP cI q (nI n) il kn sp py bo)) [0, 1, 2, 3, 4, 5, 6, 7, 8, 9, 10] [] [0, 1, 2, 3, 4, 5, 6, 7, 8, 9, 10] (va_runV (As := [.int x2]) (rest := []) ⟨hx, hb, hml, hown, hts⟩ ((c_X0_isSilent l D cI cZ q so sd ti on he n il kn sp py bo x2 hn ) H.size) (cwV 1 hts gX0_spokenHalves_X0_isSilent rfl rfl rfl (by decide +kernel) ⟨Nat.le_of_ble_eq_true rfl, Nat.le_of_ble_eq_true rfl⟩) (pv_of hK hN hP hD [0, 1, 2, 3, 4, 5, 6, 7, 8, 9, 10] rfl rfl 0 0 rfl rfl) rfl rfl hl.1 rfl (lv_room (Nat.le_of_ble_eq_true rfl)) dX0_spokenHalves_12 ⟨Nat.zero_le _, Nat.zero_le _⟩) hP hD hS hA rfl rfl rfl (by decide) (fun _ => rfl) rfl (fun r u H locs hu hP hD hS => ?_)
      subst hu
      have hP : va_P D vwCl (wD cI q so sd ti on he ++ wP cI q (nI n) il kn sp py bo) H := hP
      have hD : va_D A (wD cI q so sd ti on he ++ wP cI q (nI n) il kn sp py bo) := hD
      refine lv_if_ne (tgt := 21) hx hb dX0_spokenHalves_15 (by decide) (fun hc => ?_) (fun hc => ?_)
      · replace hw := hw.2 hc
        exact J21 _ _ hw _ _ _ (lv_sub hl [0, 1, 2] rfl) hP hD hS
      · replace hw := hw.1 hc
        refine lv_iinc (v := x1 + 1) (lv' := [(1, .int (x1 + 1)), (0, .ref (q 11)), (2, .int x2)]) hx hb dX0_spokenHalves_18 hl (k := 1) rfl rfl (by decide) rfl (fun ls hl => ?_)
        exact J21 _ _ hw _ _ _ (lv_sub hl [1, 0, 2] rfl) hP hD hS
  have hw := h_X0_spokenHalves n so sd ti on he il kn sp py bo   hn  K4 R4
  unfold v_X0_spokenHalves_0 at hw
  refine lv_iconst (v := (0 : Int32)) hx hb dX0_spokenHalves_0 (by decide) ?_
  refine lv_istore_n (lv' := [(1, .int (0 : Int32)), (0, .ref (q 11))]) hx hb dX0_spokenHalves_1 rfl hl (by decide) rfl (fun ls hl => ?_)
  refine lv_iconst (v := (0 : Int32)) hx hb dX0_spokenHalves_2 (by decide) ?_
  refine lv_istore_n (lv' := [(2, .int (0 : Int32)), (1, .int (0 : Int32)), (0, .ref (q 11))]) hx hb dX0_spokenHalves_3 rfl hl (by decide) rfl (fun ls hl => ?_)
  exact k4e _ _ hw _ _ _ (lv_sub hl [2, 1, 0] rfl) hP hD hS
set_option maxHeartbeats 4000000 in
set_option maxRecDepth 100000 in
theorem c_X0_isFresher (l : Launch) (D : va_G) (cI cZ : ClassId) (q : Nat → Nat) (so : Nat → Int32) (sd : Nat → Int32) (ti : Nat → Int32) (on : Nat → Int32) (he : Nat → Int32) (n : Nat) (il : Int32) (kn : Nat → Int32) (sp : Nat → Int32) (py : Nat → Int32) (bo : Nat → Int32) (a1 : Int32) (a2 : Int32) (hn : n ≤ 6) (h0 : vp_in a1 6) : MI l yX0_isFresher wsX0_isFresher ({ frames := 4, cells := 0, slots := 0, locals := 160 }) D cI cZ [.ref (q 11), .int a1, .int a2] (wD cI q so sd ti on he ++ wP cI q (nI n) il kn sp py bo) (fun _ : Unit => (wD cI q so sd ti on he ++ wP cI q (nI n) il kn sp py bo)) (fun r _ => r = bI (frF n ti a1 a2)) := by
  refine MI_of (cc := cX0_isFresher) (maxL := 3) (ty := .boolean) (by decide) rfl (Nat.le_of_ble_eq_true rfl) (fun p e s m args below meth c A Q hx hb hml hown hts hK hN hA hret H locs ls hl hP hD hS => ?_)
  have hown : s.vm.findClass RX0 = some m.cls := hown
  have hl : lv_has ls 3 [(0, .ref (q 11)), (1, .int a1), (2, .int a2)] := hl
  have hin0 : ∀ w ∈ u_ws RX0 TX0 6, w ∈ wsX0_isFresher := fun w h => List.mem_cons_of_mem _ (List.mem_append_left _ (List.mem_append_right _ h))
  have f27 : (Cond.fieldLink RX0 27 "GlassBooths$Day" "people" "LGlassBooths$People;").before args s = true := hts _ (by decide +kernel)
  have f18 : (Cond.fieldLink RX0 18 "GlassBooths$Day" "tiredness" "[I").before args s = true := hts _ (by decide +kernel)
  have J26 : ∀ (_ : Unit), v_X0_isFresher_26 n so sd ti on he il kn sp py bo (fun r _ => r = bI (frF n ti a1 a2))   → ∀ (H : Heap) (locs : List Loc) (ls : Array Slot), lv_has ls 3 [] → va_P D vwCl (wD cI q so sd ti on he ++ wP cI q (nI n) il kn sp py bo) H → va_D A (wD cI q so sd ti on he ++ wP cI q (nI n) il kn sp py bo) → va_S A s.heap H locs → W p l e (headSpec wsX0_isFresher ({ frames := 4, cells := 0, slots := 0, locals := 160 })).room s m args below meth c H locs 0 0 Q (F0 m 26 ls []) := by
    intro _ hw
    intro H locs ls hl hP hD hS
    unfold v_X0_isFresher_26 at hw
    refine lv_iconst (v := (1 : Int32)) hx hb dX0_isFresher_26 (by decide) ?_
    refine lv_goto (tgt := 31) hx hb dX0_isFresher_27 (by decide) ?_
    exact hret _ () _ _ _ _ hw (by first | exact bI_nar _ | rfl | decide) hP hD hS dX0_isFresher_31
  have hw := h_X0_isFresher n so sd ti on he il kn sp py bo  a1 a2 hn h0  
  unfold v_X0_isFresher_0 at hw
  refine lv_aload_n hx hb dX0_isFresher_0 rfl (lv_at hl 0 rfl) ?_
  refine va_get (D := D) (ci := 0) (v := .ref (q 0)) (C := RX0) (T := TX0) (N := 6) hx hb hts hin0 hown hK hP 0 rfl rfl 0 (by decide) f27 (fun _ h9 => h9) rfl dX0_isFresher_1 ?_
  refine lv_iload_n hx hb dX0_isFresher_4 rfl (lv_at hl 2 rfl) ?_
  refine zc_i (fun u => (wD cI q so sd ti on he ++ wP cI q (nI n) il kn sp py bo)) [6, 7, 8, 9, 10] [0, 1, 2, 3, 4, 5] [0, 1, 2, 3, 4, 5, 6, 7, 8, 9, 10] (va_runV (As := [.int a2]) (rest := []) ⟨hx, hb, hml, hown, hts⟩ ((c_X1_has l D cI cZ q n il kn sp py bo a2 hn ) H.size) (cwV 1 hts gX0_isFresher_X1_has rfl rfl rfl (by decide +kernel) ⟨Nat.le_of_ble_eq_true rfl, Nat.le_of_ble_eq_true rfl⟩) (pv_of hK hN hP hD [6, 7, 8, 9, 10] rfl rfl 1 0 rfl rfl) rfl rfl hl.1 rfl (lv_room (Nat.le_of_ble_eq_true rfl)) dX0_isFresher_5 ⟨Nat.zero_le _, Nat.zero_le _⟩) hP hD hS hA rfl rfl rfl (by decide) (fun _ => rfl) rfl (fun r u H locs hu hP hD hS => ?_)
  subst hu
  have hP : va_P D vwCl (wD cI q so sd ti on he ++ wP cI q (nI n) il kn sp py bo) H := hP
  have hD : va_D A (wD cI q so sd ti on he ++ wP cI q (nI n) il kn sp py bo) := hD
  refine lv_if_eq (tgt := 26) hx hb dX0_isFresher_8 (by decide) (fun hc => ?_) (fun hc => ?_)
  · replace hw := hw.1 hc
    exact J26 () hw _ _ _ (lv_sub hl [] rfl) hP hD hS
  · replace hw := hw.2 hc
    refine lv_aload_n hx hb dX0_isFresher_11 rfl (lv_at hl 0 rfl) ?_
    refine va_get (D := D) (ci := 0) (v := .ref (q 14)) (C := RX0) (T := TX0) (N := 6) hx hb hts hin0 hown hK hP 0 rfl rfl 3 (by decide) f18 (fun _ h9 => h9) rfl dX0_isFresher_12 ?_
    refine lv_iload_n hx hb dX0_isFresher_15 rfl (lv_at hl 1 rfl) ?_
    obtain ⟨hv, hw⟩ := hw
    refine va_iald hx hb hK hP 3 0 rfl rfl hv dX0_isFresher_16 ?_
    refine lv_aload_n hx hb dX0_isFresher_17 rfl (lv_at hl 0 rfl) ?_
    refine va_get (D := D) (ci := 0) (v := .ref (q 14)) (C := RX0) (T := TX0) (N := 6) hx hb hts hin0 hown hK hP 0 rfl rfl 3 (by decide) f18 (fun _ h9 => h9) rfl dX0_isFresher_18 ?_
    refine lv_iload_n hx hb dX0_isFresher_21 rfl (lv_at hl 2 rfl) ?_
    obtain ⟨hv, hw⟩ := hw
    refine va_iald hx hb hK hP 3 0 rfl rfl hv dX0_isFresher_22 ?_
    refine lv_icmp_ge (tgt := 30) hx hb dX0_isFresher_23 (by decide) (fun hc => ?_) (fun hc => ?_)
    · replace hw := hw.1 hc
      refine lv_iconst (v := (0 : Int32)) hx hb dX0_isFresher_30 (by decide) ?_
      exact hret _ () _ _ _ _ hw (by first | exact bI_nar _ | rfl | decide) hP hD hS dX0_isFresher_31
    · replace hw := hw.2 hc
      exact J26 () hw _ _ _ (lv_sub hl [] rfl) hP hD hS
set_option maxHeartbeats 4000000 in
set_option maxRecDepth 100000 in
theorem c_X0_chooseOn (l : Launch) (D : va_G) (cI cZ : ClassId) (q : Nat → Nat) (so : Nat → Int32) (sd : Nat → Int32) (ti : Nat → Int32) (on : Nat → Int32) (he : Nat → Int32) (n : Nat) (il : Int32) (kn : Nat → Int32) (sp : Nat → Int32) (py : Nat → Int32) (bo : Nat → Int32) (hn : n ≤ 6) : MV l yX0_chooseOn wsX0_chooseOn ({ frames := 6, cells := 0, slots := 0, locals := 240 }) D cI cZ [.ref (q 11)] (wD cI q so sd ti on he ++ wP cI q (nI n) il kn sp py bo) (fun u : (Nat → Int32) => (wD cI q so sd ti u he ++ wP cI q (nI n) il kn sp py bo)) (fun u => u = chO n bo ti on n) := by
  refine MV_of (cc := cX0_chooseOn) (maxL := 3) (by decide) rfl (Nat.le_of_ble_eq_true rfl) (fun p e s m args below meth c A Q hx hb hml hown hts hK hN hA hret H locs ls hl hP hD hS => ?_)
  have hown : s.vm.findClass RX0 = some m.cls := hown
  have hl : lv_has ls 3 [(0, .ref (q 11))] := hl
  have hin0 : ∀ w ∈ u_ws RX0 TX0 6, w ∈ wsX0_chooseOn := fun w h => List.mem_cons_of_mem _ (List.mem_append_left _ (List.mem_append_right _ h))
  have hin1 : ∀ w ∈ u_ws RX1 TX1 6, w ∈ wsX0_chooseOn := fun w h => List.mem_cons_of_mem _ (List.mem_append_right _ h)
  have f21 : (Cond.fieldLink RX0 21 "GlassBooths$Day" "onIn" "[I").before args s = true := hts _ (by decide +kernel)
  have f27 : (Cond.fieldLink RX0 27 "GlassBooths$Day" "people" "LGlassBooths$People;").before args s = true := hts _ (by decide +kernel)
  have f69 : (Cond.fieldLinkNest RX0 69 "GlassBooths$People" "size" "I" "GlassBooths").before args s = true := va_Nw.use rfl (hN _ (List.mem_of_getElem? (i := 2) rfl))
  obtain ⟨K10, k10i, k10e⟩ := ex_K2 (fun (x1 : Int32) (on_ : Nat → Int32) => ∀ (H : Heap) (locs : List Loc) (ls : Array Slot), lv_has ls 3 [(0, .ref (q 11)), (1, .int x1)] → va_P D vwCl (wD cI q so sd ti on_ he ++ wP cI q (nI n) il kn sp py bo) H → va_D A (wD cI q so sd ti on_ he ++ wP cI q (nI n) il kn sp py bo) → va_S A s.heap H locs → W p l e (headSpec wsX0_chooseOn ({ frames := 6, cells := 0, slots := 0, locals := 240 })).room s m args below meth c H locs 0 0 Q (F0 m 10 ls []))
  have J58 : ∀ x1 on_, v_X0_chooseOn_58 n so sd ti he il kn sp py bo (fun u => u = chO n bo ti on n) K10 x1 on_ → ∀ (H : Heap) (locs : List Loc) (ls : Array Slot), lv_has ls 3 [(0, .ref (q 11)), (1, .int x1)] → va_P D vwCl (wD cI q so sd ti on_ he ++ wP cI q (nI n) il kn sp py bo) H → va_D A (wD cI q so sd ti on_ he ++ wP cI q (nI n) il kn sp py bo) → va_S A s.heap H locs → W p l e (headSpec wsX0_chooseOn ({ frames := 6, cells := 0, slots := 0, locals := 240 })).room s m args below meth c H locs 0 0 Q (F0 m 58 ls []) := by
    intro x1 on_ hw
    intro H locs ls hl hP hD hS
    unfold v_X0_chooseOn_58 at hw
    refine lv_iinc (v := x1 + 1) (lv' := [(1, .int (x1 + 1)), (0, .ref (q 11))]) hx hb dX0_chooseOn_58 hl (k := 1) rfl rfl (by decide) rfl (fun ls hl => ?_)
    refine lv_goto (tgt := 10) hx hb dX0_chooseOn_61 (by decide) ?_
    exact k10e _ _ hw _ _ _ (lv_sub hl [1, 0] rfl) hP hD hS
  have R10 : ∀ x1 on_, v_X0_chooseOn_10 n so sd ti he il kn sp py bo (fun u => u = chO n bo ti on n) K10 x1 on_ → K10 x1 on_ := by
    intro x1 on_ hw
    refine k10i _ _ ?_
    intro H locs ls hl hP hD hS
    unfold v_X0_chooseOn_10 at hw
    refine lv_iload_n hx hb dX0_chooseOn_10 rfl (lv_at hl 1 rfl) ?_
    refine lv_aload_n hx hb dX0_chooseOn_11 rfl (lv_at hl 0 rfl) ?_
    refine va_get (D := D) (ci := 0) (v := .ref (q 0)) (C := RX0) (T := TX0) (N := 6) hx hb hts hin0 hown hK hP 0 rfl rfl 0 (by decide) f27 (fun _ h9 => h9) rfl dX0_chooseOn_12 ?_
    refine va_getN (D := D) (ci := 1) (v := .int (nI n)) (C := RX1) (T := TX1) (N := 6) hx hb hts hin1 hown hK hP 6 rfl rfl 4 (by decide) f69 (fun _ h9 => h9) rfl dX0_chooseOn_15 ?_
    refine lv_icmp_ge (tgt := 64) hx hb dX0_chooseOn_18 (by decide) (fun hc => ?_) (fun hc => ?_)
    · replace hw := hw.1 hc
      exact hret on_ _ _ _ _ hw hP hD hS dX0_chooseOn_64
    · replace hw := hw.2 hc
      refine lv_aload_n hx hb dX0_chooseOn_21 rfl (lv_at hl 0 rfl) ?_
      refine va_get (D := D) (ci := 0) (v := .ref (q 0)) (C := RX0) (T := TX0) (N := 6) hx hb hts hin0 hown hK hP 0 rfl rfl 0 (by decide) f27 (fun _ h9 => h9) rfl dX0_chooseOn_22 ?_
      refine lv_iload_n hx hb dX0_chooseOn_25 rfl (lv_at hl 1 rfl) ?_
      refine zc_i (fun u => (wD cI q so sd ti on_ he ++ wP cI q (nI n) il kn sp py bo)) [6, 7, 8, 9, 10] [0, 1, 2, 3, 4, 5] [0, 1, 2, 3, 4, 5, 6, 7, 8, 9, 10] (va_runV (As := [.int x1]) (rest := []) ⟨hx, hb, hml, hown, hts⟩ ((c_X1_boothOf l D cI cZ q n il kn sp py bo x1 hn ) H.size) (cwV 1 hts gX0_chooseOn_X1_boothOf rfl rfl rfl (by decide +kernel) ⟨Nat.le_of_ble_eq_true rfl, Nat.le_of_ble_eq_true rfl⟩) (pv_of hK hN hP hD [6, 7, 8, 9, 10] rfl rfl 1 0 rfl rfl) rfl rfl hl.1 rfl (lv_room (Nat.le_of_ble_eq_true rfl)) dX0_chooseOn_26 ⟨Nat.zero_le _, Nat.zero_le _⟩) hP hD hS hA rfl rfl rfl (by decide) (fun _ => rfl) rfl (fun r u H locs hu hP hD hS => ?_)
      subst hu
      have hP : va_P D vwCl (wD cI q so sd ti on_ he ++ wP cI q (nI n) il kn sp py bo) H := hP
      have hD : va_D A (wD cI q so sd ti on_ he ++ wP cI q (nI n) il kn sp py bo) := hD
      refine lv_istore_n (lv' := [(2, .int (atP n bo 5 x1)), (0, .ref (q 11)), (1, .int x1)]) hx hb dX0_chooseOn_29 rfl hl (by decide) rfl (fun ls hl => ?_)
      refine lv_iload_n hx hb dX0_chooseOn_30 rfl (lv_at hl 0 rfl) ?_
      refine zc_i0 (va_runSN (As := [.int (atP n bo 5 x1)]) (rest := []) ⟨hx, hb, hml, hown, hts⟩ ((c_X3_isTongue l D cI cZ (atP n bo 5 x1)  ) H.size) ⟨va_cnB 1 hts gX0_chooseOn_X3_isTongue_n78 rfl rfl rfl (hN _ (List.mem_of_getElem? (i := 20) rfl)) (hts _ (by decide +kernel)) (by decide +kernel) ⟨Nat.le_of_ble_eq_true rfl, Nat.le_of_ble_eq_true rfl⟩, hts _ (by decide +kernel), trivial⟩ (ps_of hK hN hP hD [] rfl rfl) rfl rfl hl.1 rfl (lv_room (Nat.le_of_ble_eq_true rfl)) dX0_chooseOn_31 ⟨Nat.zero_le _, Nat.zero_le _⟩) hP hD hS hA (fun r u H locs hu hP hD hS => ?_)
      subst hu
      refine lv_if_eq (tgt := 58) hx hb dX0_chooseOn_34 (by decide) (fun hc => ?_) (fun hc => ?_)
      · replace hw := hw.1 hc
        exact J58 _ _ hw _ _ _ (lv_sub hl [1, 2] rfl) hP hD hS
      · replace hw := hw.2 hc
        refine lv_aload_n hx hb dX0_chooseOn_37 rfl (lv_at hl 1 rfl) ?_
        refine lv_iload_n hx hb dX0_chooseOn_38 rfl (lv_at hl 2 rfl) ?_
        refine lv_aload_n hx hb dX0_chooseOn_39 rfl (lv_at hl 1 rfl) ?_
        refine va_get (D := D) (ci := 0) (v := .ref (q 15)) (C := RX0) (T := TX0) (N := 6) hx hb hts hin0 hown hK hP 0 rfl rfl 4 (by decide) f21 (fun _ h9 => h9) rfl dX0_chooseOn_40 ?_
        refine lv_iload_n hx hb dX0_chooseOn_43 rfl (lv_at hl 0 rfl) ?_
        obtain ⟨hv, hw⟩ := hw
        refine va_iald hx hb hK hP 4 0 rfl rfl hv dX0_chooseOn_44 ?_
        obtain ⟨hp0, hw⟩ := hw
        refine zc_i (fun u => (wD cI q so sd ti on_ he ++ wP cI q (nI n) il kn sp py bo)) [0, 1, 2, 3, 4, 5, 6, 7, 8, 9, 10] [] [0, 1, 2, 3, 4, 5, 6, 7, 8, 9, 10] (va_runV (As := [.int x1, .int (on_ (atP n bo 5 x1).toNatClampNeg)]) (rest := []) ⟨hx, hb, hml, hown, hts⟩ ((c_X0_isFresher l D cI cZ q so sd ti on_ he n il kn sp py bo x1 (on_ (atP n bo 5 x1).toNatClampNeg) hn hp0) H.size) (cwV 2 hts gX0_chooseOn_X0_isFresher rfl rfl rfl (by decide +kernel) ⟨Nat.le_of_ble_eq_true rfl, Nat.le_of_ble_eq_true rfl⟩) (pv_of hK hN hP hD [0, 1, 2, 3, 4, 5, 6, 7, 8, 9, 10] rfl rfl 0 0 rfl rfl) rfl rfl hl.1 rfl (lv_room (Nat.le_of_ble_eq_true rfl)) dX0_chooseOn_45 ⟨Nat.zero_le _, Nat.zero_le _⟩) hP hD hS hA rfl rfl rfl (by decide) (fun _ => rfl) rfl (fun r u H locs hu hP hD hS => ?_)
        subst hu
        have hP : va_P D vwCl (wD cI q so sd ti on_ he ++ wP cI q (nI n) il kn sp py bo) H := hP
        have hD : va_D A (wD cI q so sd ti on_ he ++ wP cI q (nI n) il kn sp py bo) := hD
        refine lv_if_eq (tgt := 58) hx hb dX0_chooseOn_48 (by decide) (fun hc => ?_) (fun hc => ?_)
        · replace hw := hw.1 hc
          exact J58 _ _ hw _ _ _ (lv_sub hl [1, 2] rfl) hP hD hS
        · replace hw := hw.2 hc
          refine lv_aload_n hx hb dX0_chooseOn_51 rfl (lv_at hl 1 rfl) ?_
          refine va_get (D := D) (ci := 0) (v := .ref (q 15)) (C := RX0) (T := TX0) (N := 6) hx hb hts hin0 hown hK hP 0 rfl rfl 4 (by decide) f21 (fun _ h9 => h9) rfl dX0_chooseOn_52 ?_
          refine lv_iload_n hx hb dX0_chooseOn_55 rfl (lv_at hl 0 rfl) ?_
          refine lv_iload_n hx hb dX0_chooseOn_56 rfl (lv_at hl 2 rfl) ?_
          obtain ⟨hv, hw⟩ := hw
          refine va_iast hx hb hK hP hD hS 4 0 rfl rfl hv dX0_chooseOn_57 (fun H locs hP hD hS => ?_)
          have hP : va_P D vwCl (wD cI q so sd ti (upd on_ (atP n bo 5 x1).toNatClampNeg x1) he ++ wP cI q (nI n) il kn sp py bo) H := hP
          have hD : va_D A (wD cI q so sd ti (upd on_ (atP n bo 5 x1).toNatClampNeg x1) he ++ wP cI q (nI n) il kn sp py bo) := hD
          exact J58 _ _ hw _ _ _ (lv_sub hl [1, 2] rfl) hP hD hS
  have hw := h_X0_chooseOn n so sd ti he il kn sp py bo on  hn  K10 R10
  unfold v_X0_chooseOn_0 at hw
  refine lv_aload_n hx hb dX0_chooseOn_0 rfl (lv_at hl 0 rfl) ?_
  refine va_get (D := D) (ci := 0) (v := .ref (q 15)) (C := RX0) (T := TX0) (N := 6) hx hb hts hin0 hown hK hP 0 rfl rfl 4 (by decide) f21 (fun _ h9 => h9) rfl dX0_chooseOn_1 ?_
  refine lv_iconst (v := (-1 : Int32)) hx hb dX0_chooseOn_4 (by decide) ?_
  obtain ⟨hp0, hw⟩ := hw
  refine zc_v (fun u => (wD cI q so sd ti u he ++ wP cI q (nI n) il kn sp py bo)) [4] [0, 1, 2, 3, 5, 6, 7, 8, 9, 10] [0, 1, 2, 3, 10, 4, 5, 6, 7, 8, 9] (va_runS (As := [.ref (q 15), .int (-1 : Int32)]) (rest := []) ⟨hx, hb, hml, hown, hts⟩ ((c_J7_fill_53178 l D cI cZ (q 15) 5 on (-1 : Int32)  hp0) H.size) (va_cwS 2 hts gX0_chooseOn_J7_fill_53178 rfl rfl rfl (by decide +kernel) ⟨Nat.le_of_ble_eq_true rfl, Nat.le_of_ble_eq_true rfl⟩) (ps_of hK hN hP hD [4] rfl rfl) rfl rfl hl.1 rfl (lv_room (Nat.le_of_ble_eq_true rfl)) dX0_chooseOn_5 ⟨Nat.zero_le _, Nat.zero_le _⟩) hP hD hS hA rfl rfl rfl (by decide) (fun _ => rfl) rfl (fun u H locs hu hP hD hS => ?_)
  subst hu
  have hP : va_P D vwCl (wD cI q so sd ti (fillA on 5 (-1 : Int32)) he ++ wP cI q (nI n) il kn sp py bo) H := hP
  have hD : va_D A (wD cI q so sd ti (fillA on 5 (-1 : Int32)) he ++ wP cI q (nI n) il kn sp py bo) := hD
  refine lv_iconst (v := (0 : Int32)) hx hb dX0_chooseOn_8 (by decide) ?_
  refine lv_istore_n (lv' := [(1, .int (0 : Int32)), (0, .ref (q 11))]) hx hb dX0_chooseOn_9 rfl hl (by decide) rfl (fun ls hl => ?_)
  exact k10e _ _ hw _ _ _ (lv_sub hl [1, 0] rfl) hP hD hS
set_option maxHeartbeats 4000000 in
set_option maxRecDepth 100000 in
theorem c_X0_wayFrom (l : Launch) (D : va_G) (cI cZ : ClassId) (q : Nat → Nat) (so : Nat → Int32) (sd : Nat → Int32) (ti : Nat → Int32) (on : Nat → Int32) (he : Nat → Int32) (n : Nat) (il : Int32) (kn : Nat → Int32) (sp : Nat → Int32) (py : Nat → Int32) (bo : Nat → Int32) (a1 : Int32) (a2 : Int32) (hn : n ≤ 6) (h0 : vp_in a2 5) : MI l yX0_wayFrom wsX0_wayFrom ({ frames := 6, cells := 0, slots := 0, locals := 240 }) D cI cZ [.ref (q 11), .int a1, .int a2] (wD cI q so sd ti on he ++ wP cI q (nI n) il kn sp py bo) (fun _ : Unit => (wD cI q so sd ti on he ++ wP cI q (nI n) il kn sp py bo)) (fun r _ => r = wyF n kn on a1 a2) := by
  refine MI_of (cc := cX0_wayFrom) (maxL := 5) (ty := .int) (by decide) rfl (Nat.le_of_ble_eq_true rfl) (fun p e s m args below meth c A Q hx hb hml hown hts hK hN hA hret H locs ls hl hP hD hS => ?_)
  have hown : s.vm.findClass RX0 = some m.cls := hown
  have hl : lv_has ls 5 [(0, .ref (q 11)), (1, .int a1), (2, .int a2)] := hl
  have hin0 : ∀ w ∈ u_ws RX0 TX0 6, w ∈ wsX0_wayFrom := fun w h => List.mem_cons_of_mem _ (List.mem_append_left _ (List.mem_append_right _ h))
  have f21 : (Cond.fieldLink RX0 21 "GlassBooths$Day" "onIn" "[I").before args s = true := hts _ (by decide +kernel)
  have f27 : (Cond.fieldLink RX0 27 "GlassBooths$Day" "people" "LGlassBooths$People;").before args s = true := hts _ (by decide +kernel)
  obtain ⟨K49, k49i, k49e⟩ := ex_K4 (fun (x1 : Int32) (x2 : Int32) (x3 : Int32) (x4 : Int32) => ∀ (H : Heap) (locs : List Loc) (ls : Array Slot), lv_has ls 5 [(0, .ref (q 11)), (1, .int x1), (2, .int x2), (3, .int x3), (4, .int x4)] → va_P D vwCl (wD cI q so sd ti on he ++ wP cI q (nI n) il kn sp py bo) H → va_D A (wD cI q so sd ti on he ++ wP cI q (nI n) il kn sp py bo) → va_S A s.heap H locs → W p l e (headSpec wsX0_wayFrom ({ frames := 6, cells := 0, slots := 0, locals := 240 })).room s m args below meth c H locs 0 0 Q (F0 m 49 ls []))
  have J100 : ∀ x1 x2 x3 x4, v_X0_wayFrom_100 n so sd ti on he il kn sp py bo (fun r _ => r = wyF n kn on a1 a2) K49 x1 x2 x3 x4 → ∀ (H : Heap) (locs : List Loc) (ls : Array Slot), lv_has ls 5 [(0, .ref (q 11)), (1, .int x1), (2, .int x2), (3, .int x3), (4, .int x4)] → va_P D vwCl (wD cI q so sd ti on he ++ wP cI q (nI n) il kn sp py bo) H → va_D A (wD cI q so sd ti on he ++ wP cI q (nI n) il kn sp py bo) → va_S A s.heap H locs → W p l e (headSpec wsX0_wayFrom ({ frames := 6, cells := 0, slots := 0, locals := 240 })).room s m args below meth c H locs 0 0 Q (F0 m 100 ls []) := by
    intro x1 x2 x3 x4 hw
    intro H locs ls hl hP hD hS
    unfold v_X0_wayFrom_100 at hw
    refine lv_iinc (v := x4 + 1) (lv' := [(4, .int (x4 + 1)), (0, .ref (q 11)), (1, .int x1), (2, .int x2), (3, .int x3)]) hx hb dX0_wayFrom_100 hl (k := 4) rfl rfl (by decide) rfl (fun ls hl => ?_)
    refine lv_goto (tgt := 49) hx hb dX0_wayFrom_103 (by decide) ?_
    exact k49e _ _ _ _ hw _ _ _ (lv_sub hl [1, 2, 3, 4, 0] rfl) hP hD hS
  have R49 : ∀ x1 x2 x3 x4, v_X0_wayFrom_49 n so sd ti on he il kn sp py bo (fun r _ => r = wyF n kn on a1 a2) K49 x1 x2 x3 x4 → K49 x1 x2 x3 x4 := by
    intro x1 x2 x3 x4 hw
    refine k49i _ _ _ _ ?_
    intro H locs ls hl hP hD hS
    unfold v_X0_wayFrom_49 at hw
    refine lv_iload hx hb dX0_wayFrom_49 (lv_at hl 4 rfl) ?_
    refine lv_iconst (v := (5 : Int32)) hx hb dX0_wayFrom_51 (by decide) ?_
    refine lv_icmp_ge (tgt := 106) hx hb dX0_wayFrom_52 (by decide) (fun hc => ?_) (fun hc => ?_)
    · replace hw := hw.1 hc
      refine lv_iconst (v := (-1 : Int32)) hx hb dX0_wayFrom_106 (by decide) ?_
      exact hret _ () _ _ _ _ hw rfl hP hD hS dX0_wayFrom_107
    · replace hw := hw.2 hc
      refine lv_iload hx hb dX0_wayFrom_55 (lv_at hl 4 rfl) ?_
      refine lv_iload_n hx hb dX0_wayFrom_57 rfl (lv_at hl 1 rfl) ?_
      refine lv_icmp_eq (tgt := 100) hx hb dX0_wayFrom_58 (by decide) (fun hc => ?_) (fun hc => ?_)
      · replace hw := hw.1 hc
        exact J100 _ _ _ _ hw _ _ _ (lv_sub hl [0, 1, 2, 3, 4] rfl) hP hD hS
      · replace hw := hw.2 hc
        refine lv_iload hx hb dX0_wayFrom_61 (lv_at hl 4 rfl) ?_
        refine lv_iload_n hx hb dX0_wayFrom_63 rfl (lv_at hl 2 rfl) ?_
        refine lv_icmp_eq (tgt := 100) hx hb dX0_wayFrom_64 (by decide) (fun hc => ?_) (fun hc => ?_)
        · replace hw := hw.1 hc
          exact J100 _ _ _ _ hw _ _ _ (lv_sub hl [0, 1, 2, 3, 4] rfl) hP hD hS
        · replace hw := hw.2 hc
          refine lv_iload_n hx hb dX0_wayFrom_67 rfl (lv_at hl 3 rfl) ?_
          refine lv_iload hx hb dX0_wayFrom_68 (lv_at hl 4 rfl) ?_
          refine zc_i0 (va_runSN (As := [.int x3, .int x4]) (rest := []) ⟨hx, hb, hml, hown, hts⟩ ((c_X3_holds l D cI cZ x3 x4  ) H.size) ⟨va_cnB 2 hts gX0_wayFrom_X3_holds_n91 rfl rfl rfl (hN _ (List.mem_of_getElem? (i := 21) rfl)) (hts _ (by decide +kernel)) (by decide +kernel) ⟨Nat.le_of_ble_eq_true rfl, Nat.le_of_ble_eq_true rfl⟩, hts _ (by decide +kernel), trivial⟩ (ps_of hK hN hP hD [] rfl rfl) rfl rfl hl.1 rfl (lv_room (Nat.le_of_ble_eq_true rfl)) dX0_wayFrom_70 ⟨Nat.zero_le _, Nat.zero_le _⟩) hP hD hS hA (fun r u H locs hu hP hD hS => ?_)
          subst hu
          refine lv_if_eq (tgt := 100) hx hb dX0_wayFrom_73 (by decide) (fun hc => ?_) (fun hc => ?_)
          · replace hw := hw.1 hc
            exact J100 _ _ _ _ hw _ _ _ (lv_sub hl [0, 1, 2, 3, 4] rfl) hP hD hS
          · replace hw := hw.2 hc
            refine lv_aload_n hx hb dX0_wayFrom_76 rfl (lv_at hl 0 rfl) ?_
            refine va_get (D := D) (ci := 0) (v := .ref (q 0)) (C := RX0) (T := TX0) (N := 6) hx hb hts hin0 hown hK hP 0 rfl rfl 0 (by decide) f27 (fun _ h9 => h9) rfl dX0_wayFrom_77 ?_
            refine lv_aload_n hx hb dX0_wayFrom_80 rfl (lv_at hl 0 rfl) ?_
            refine va_get (D := D) (ci := 0) (v := .ref (q 15)) (C := RX0) (T := TX0) (N := 6) hx hb hts hin0 hown hK hP 0 rfl rfl 4 (by decide) f21 (fun _ h9 => h9) rfl dX0_wayFrom_81 ?_
            refine lv_iload hx hb dX0_wayFrom_84 (lv_at hl 4 rfl) ?_
            obtain ⟨hv, hw⟩ := hw
            refine va_iald hx hb hK hP 4 0 rfl rfl hv dX0_wayFrom_86 ?_
            refine zc_i (fun u => (wD cI q so sd ti on he ++ wP cI q (nI n) il kn sp py bo)) [6, 7, 8, 9, 10] [0, 1, 2, 3, 4, 5] [0, 1, 2, 3, 4, 5, 6, 7, 8, 9, 10] (va_runV (As := [.int (on x4.toNatClampNeg)]) (rest := []) ⟨hx, hb, hml, hown, hts⟩ ((c_X1_knownBy l D cI cZ q n il kn sp py bo (on x4.toNatClampNeg) hn ) H.size) (cwV 1 hts gX0_wayFrom_X1_knownBy rfl rfl rfl (by decide +kernel) ⟨Nat.le_of_ble_eq_true rfl, Nat.le_of_ble_eq_true rfl⟩) (pv_of hK hN hP hD [6, 7, 8, 9, 10] rfl rfl 1 0 rfl rfl) rfl rfl hl.1 rfl (lv_room (Nat.le_of_ble_eq_true rfl)) dX0_wayFrom_87 ⟨Nat.zero_le _, Nat.zero_le _⟩) hP hD hS hA rfl rfl rfl (by decide) (fun _ => rfl) rfl (fun r u H locs hu hP hD hS => ?_)
            subst hu
            have hP : va_P D vwCl (wD cI q so sd ti on he ++ wP cI q (nI n) il kn sp py bo) H := hP
            have hD : va_D A (wD cI q so sd ti on he ++ wP cI q (nI n) il kn sp py bo) := hD
            refine lv_iload_n hx hb dX0_wayFrom_90 rfl (lv_at hl 1 rfl) ?_
            refine zc_i0 (va_runSN (As := [.int (atP n kn 0 (on x4.toNatClampNeg)), .int x1]) (rest := []) ⟨hx, hb, hml, hown, hts⟩ ((c_X3_holds l D cI cZ (atP n kn 0 (on x4.toNatClampNeg)) x1  ) H.size) ⟨va_cnB 2 hts gX0_wayFrom_X3_holds_n91 rfl rfl rfl (hN _ (List.mem_of_getElem? (i := 21) rfl)) (hts _ (by decide +kernel)) (by decide +kernel) ⟨Nat.le_of_ble_eq_true rfl, Nat.le_of_ble_eq_true rfl⟩, hts _ (by decide +kernel), trivial⟩ (ps_of hK hN hP hD [] rfl rfl) rfl rfl hl.1 rfl (lv_room (Nat.le_of_ble_eq_true rfl)) dX0_wayFrom_91 ⟨Nat.zero_le _, Nat.zero_le _⟩) hP hD hS hA (fun r u H locs hu hP hD hS => ?_)
            subst hu
            refine lv_if_eq (tgt := 100) hx hb dX0_wayFrom_94 (by decide) (fun hc => ?_) (fun hc => ?_)
            · replace hw := hw.1 hc
              exact J100 _ _ _ _ hw _ _ _ (lv_sub hl [0, 1, 2, 3, 4] rfl) hP hD hS
            · replace hw := hw.2 hc
              refine lv_iload hx hb dX0_wayFrom_97 (lv_at hl 4 rfl) ?_
              exact hret _ () _ _ _ _ hw rfl hP hD hS dX0_wayFrom_99
  have hw := h_X0_wayFrom n so sd ti on he il kn sp py bo  a1 a2 hn h0 K49 R49
  unfold v_X0_wayFrom_0 at hw
  refine lv_iload_n hx hb dX0_wayFrom_0 rfl (lv_at hl 1 rfl) ?_
  refine lv_iconst (v := (-1 : Int32)) hx hb dX0_wayFrom_1 (by decide) ?_
  refine lv_icmp_eq (tgt := 20) hx hb dX0_wayFrom_2 (by decide) (fun hc => ?_) (fun hc => ?_)
  · replace hw := hw.1 hc
    refine lv_iconst (v := (-1 : Int32)) hx hb dX0_wayFrom_20 (by decide) ?_
    exact hret _ () _ _ _ _ hw rfl hP hD hS dX0_wayFrom_21
  · replace hw := hw.2 hc
    refine lv_iload_n hx hb dX0_wayFrom_5 rfl (lv_at hl 1 rfl) ?_
    refine lv_iload_n hx hb dX0_wayFrom_6 rfl (lv_at hl 2 rfl) ?_
    refine lv_icmp_eq (tgt := 20) hx hb dX0_wayFrom_7 (by decide) (fun hc => ?_) (fun hc => ?_)
    · replace hw := hw.1 hc
      refine lv_iconst (v := (-1 : Int32)) hx hb dX0_wayFrom_20 (by decide) ?_
      exact hret _ () _ _ _ _ hw rfl hP hD hS dX0_wayFrom_21
    · replace hw := hw.2 hc
      refine lv_aload_n hx hb dX0_wayFrom_10 rfl (lv_at hl 0 rfl) ?_
      refine va_get (D := D) (ci := 0) (v := .ref (q 15)) (C := RX0) (T := TX0) (N := 6) hx hb hts hin0 hown hK hP 0 rfl rfl 4 (by decide) f21 (fun _ h9 => h9) rfl dX0_wayFrom_11 ?_
      refine lv_iload_n hx hb dX0_wayFrom_14 rfl (lv_at hl 2 rfl) ?_
      obtain ⟨hv, hw⟩ := hw
      refine va_iald hx hb hK hP 4 0 rfl rfl hv dX0_wayFrom_15 ?_
      refine lv_iconst (v := (-1 : Int32)) hx hb dX0_wayFrom_16 (by decide) ?_
      refine lv_icmp_ne (tgt := 22) hx hb dX0_wayFrom_17 (by decide) (fun hc => ?_) (fun hc => ?_)
      · replace hw := hw.2 hc
        refine lv_aload_n hx hb dX0_wayFrom_22 rfl (lv_at hl 0 rfl) ?_
        refine va_get (D := D) (ci := 0) (v := .ref (q 0)) (C := RX0) (T := TX0) (N := 6) hx hb hts hin0 hown hK hP 0 rfl rfl 0 (by decide) f27 (fun _ h9 => h9) rfl dX0_wayFrom_23 ?_
        refine lv_aload_n hx hb dX0_wayFrom_26 rfl (lv_at hl 0 rfl) ?_
        refine va_get (D := D) (ci := 0) (v := .ref (q 15)) (C := RX0) (T := TX0) (N := 6) hx hb hts hin0 hown hK hP 0 rfl rfl 4 (by decide) f21 (fun _ h9 => h9) rfl dX0_wayFrom_27 ?_
        refine lv_iload_n hx hb dX0_wayFrom_30 rfl (lv_at hl 2 rfl) ?_
        obtain ⟨hv, hw⟩ := hw
        refine va_iald hx hb hK hP 4 0 rfl rfl hv dX0_wayFrom_31 ?_
        refine zc_i (fun u => (wD cI q so sd ti on he ++ wP cI q (nI n) il kn sp py bo)) [6, 7, 8, 9, 10] [0, 1, 2, 3, 4, 5] [0, 1, 2, 3, 4, 5, 6, 7, 8, 9, 10] (va_runV (As := [.int (on a2.toNatClampNeg)]) (rest := []) ⟨hx, hb, hml, hown, hts⟩ ((c_X1_knownBy l D cI cZ q n il kn sp py bo (on a2.toNatClampNeg) hn ) H.size) (cwV 1 hts gX0_wayFrom_X1_knownBy rfl rfl rfl (by decide +kernel) ⟨Nat.le_of_ble_eq_true rfl, Nat.le_of_ble_eq_true rfl⟩) (pv_of hK hN hP hD [6, 7, 8, 9, 10] rfl rfl 1 0 rfl rfl) rfl rfl hl.1 rfl (lv_room (Nat.le_of_ble_eq_true rfl)) dX0_wayFrom_32 ⟨Nat.zero_le _, Nat.zero_le _⟩) hP hD hS hA rfl rfl rfl (by decide) (fun _ => rfl) rfl (fun r u H locs hu hP hD hS => ?_)
        subst hu
        have hP : va_P D vwCl (wD cI q so sd ti on he ++ wP cI q (nI n) il kn sp py bo) H := hP
        have hD : va_D A (wD cI q so sd ti on he ++ wP cI q (nI n) il kn sp py bo) := hD
        refine lv_istore_n (lv' := [(3, .int (atP n kn 0 (on a2.toNatClampNeg))), (0, .ref (q 11)), (1, .int a1), (2, .int a2)]) hx hb dX0_wayFrom_35 rfl hl (by decide) rfl (fun ls hl => ?_)
        refine lv_iload_n hx hb dX0_wayFrom_36 rfl (lv_at hl 0 rfl) ?_
        refine lv_iload_n hx hb dX0_wayFrom_37 rfl (lv_at hl 2 rfl) ?_
        refine zc_i0 (va_runSN (As := [.int (atP n kn 0 (on a2.toNatClampNeg)), .int a1]) (rest := []) ⟨hx, hb, hml, hown, hts⟩ ((c_X3_holds l D cI cZ (atP n kn 0 (on a2.toNatClampNeg)) a1  ) H.size) ⟨va_cnB 2 hts gX0_wayFrom_X3_holds_n91 rfl rfl rfl (hN _ (List.mem_of_getElem? (i := 21) rfl)) (hts _ (by decide +kernel)) (by decide +kernel) ⟨Nat.le_of_ble_eq_true rfl, Nat.le_of_ble_eq_true rfl⟩, hts _ (by decide +kernel), trivial⟩ (ps_of hK hN hP hD [] rfl rfl) rfl rfl hl.1 rfl (lv_room (Nat.le_of_ble_eq_true rfl)) dX0_wayFrom_38 ⟨Nat.zero_le _, Nat.zero_le _⟩) hP hD hS hA (fun r u H locs hu hP hD hS => ?_)
        subst hu
        refine lv_if_eq (tgt := 46) hx hb dX0_wayFrom_41 (by decide) (fun hc => ?_) (fun hc => ?_)
        · replace hw := hw.1 hc
          refine lv_iconst (v := (0 : Int32)) hx hb dX0_wayFrom_46 (by decide) ?_
          refine lv_istore (lv' := [(4, .int (0 : Int32)), (3, .int (atP n kn 0 (on a2.toNatClampNeg))), (0, .ref (q 11)), (1, .int a1), (2, .int a2)]) hx hb dX0_wayFrom_47 hl (by decide) rfl (fun ls hl => ?_)
          exact k49e _ _ _ _ hw _ _ _ (lv_sub hl [2, 3, 4, 1, 0] rfl) hP hD hS
        · replace hw := hw.2 hc
          refine lv_iload_n hx hb dX0_wayFrom_44 rfl (lv_at hl 3 rfl) ?_
          exact hret _ () _ _ _ _ hw rfl hP hD hS dX0_wayFrom_45
      · replace hw := hw.1 hc
        refine lv_iconst (v := (-1 : Int32)) hx hb dX0_wayFrom_20 (by decide) ?_
        exact hret _ () _ _ _ _ hw rfl hP hD hS dX0_wayFrom_21
set_option maxHeartbeats 4000000 in
set_option maxRecDepth 100000 in
theorem c_X0_isTurning (l : Launch) (D : va_G) (cI cZ : ClassId) (q : Nat → Nat) (so : Nat → Int32) (sd : Nat → Int32) (ti : Nat → Int32) (on : Nat → Int32) (he : Nat → Int32) (n : Nat) (il : Int32) (kn : Nat → Int32) (sp : Nat → Int32) (py : Nat → Int32) (bo : Nat → Int32) (a1 : Int32) (hn : n ≤ 6) : MI l yX0_isTurning wsX0_isTurning ({ frames := 6, cells := 0, slots := 0, locals := 240 }) D cI cZ [.ref (q 11), .int a1] (wD cI q so sd ti on he ++ wP cI q (nI n) il kn sp py bo) (fun _ : Unit => (wD cI q so sd ti on he ++ wP cI q (nI n) il kn sp py bo)) (fun r _ => r = bI (tuF n bo on he a1)) := by
  refine MI_of (cc := cX0_isTurning) (maxL := 3) (ty := .boolean) (by decide) rfl (Nat.le_of_ble_eq_true rfl) (fun p e s m args below meth c A Q hx hb hml hown hts hK hN hA hret H locs ls hl hP hD hS => ?_)
  have hown : s.vm.findClass RX0 = some m.cls := hown
  have hl : lv_has ls 3 [(0, .ref (q 11)), (1, .int a1)] := hl
  have hin0 : ∀ w ∈ u_ws RX0 TX0 6, w ∈ wsX0_isTurning := fun w h => List.mem_cons_of_mem _ (List.mem_append_left _ (List.mem_append_right _ h))
  have f27 : (Cond.fieldLink RX0 27 "GlassBooths$Day" "people" "LGlassBooths$People;").before args s = true := hts _ (by decide +kernel)
  have f21 : (Cond.fieldLink RX0 21 "GlassBooths$Day" "onIn" "[I").before args s = true := hts _ (by decide +kernel)
  have f24 : (Cond.fieldLink RX0 24 "GlassBooths$Day" "heardBy" "[I").before args s = true := hts _ (by decide +kernel)
  have hw := h_X0_isTurning n so sd ti on he il kn sp py bo  a1 hn   
  unfold v_X0_isTurning_0 at hw
  refine lv_aload_n hx hb dX0_isTurning_0 rfl (lv_at hl 0 rfl) ?_
  refine va_get (D := D) (ci := 0) (v := .ref (q 0)) (C := RX0) (T := TX0) (N := 6) hx hb hts hin0 hown hK hP 0 rfl rfl 0 (by decide) f27 (fun _ h9 => h9) rfl dX0_isTurning_1 ?_
  refine lv_iload_n hx hb dX0_isTurning_4 rfl (lv_at hl 1 rfl) ?_
  refine zc_i (fun u => (wD cI q so sd ti on he ++ wP cI q (nI n) il kn sp py bo)) [6, 7, 8, 9, 10] [0, 1, 2, 3, 4, 5] [0, 1, 2, 3, 4, 5, 6, 7, 8, 9, 10] (va_runV (As := [.int a1]) (rest := []) ⟨hx, hb, hml, hown, hts⟩ ((c_X1_boothOf l D cI cZ q n il kn sp py bo a1 hn ) H.size) (cwV 1 hts gX0_isTurning_X1_boothOf rfl rfl rfl (by decide +kernel) ⟨Nat.le_of_ble_eq_true rfl, Nat.le_of_ble_eq_true rfl⟩) (pv_of hK hN hP hD [6, 7, 8, 9, 10] rfl rfl 1 0 rfl rfl) rfl rfl hl.1 rfl (lv_room (Nat.le_of_ble_eq_true rfl)) dX0_isTurning_5 ⟨Nat.zero_le _, Nat.zero_le _⟩) hP hD hS hA rfl rfl rfl (by decide) (fun _ => rfl) rfl (fun r u H locs hu hP hD hS => ?_)
  subst hu
  have hP : va_P D vwCl (wD cI q so sd ti on he ++ wP cI q (nI n) il kn sp py bo) H := hP
  have hD : va_D A (wD cI q so sd ti on he ++ wP cI q (nI n) il kn sp py bo) := hD
  refine lv_istore_n (lv' := [(2, .int (atP n bo 5 a1)), (0, .ref (q 11)), (1, .int a1)]) hx hb dX0_isTurning_8 rfl hl (by decide) rfl (fun ls hl => ?_)
  refine lv_iload_n hx hb dX0_isTurning_9 rfl (lv_at hl 0 rfl) ?_
  refine zc_i0 (va_runSN (As := [.int (atP n bo 5 a1)]) (rest := []) ⟨hx, hb, hml, hown, hts⟩ ((c_X3_isTongue l D cI cZ (atP n bo 5 a1)  ) H.size) ⟨va_cnB 1 hts gX0_isTurning_X3_isTongue_n78 rfl rfl rfl (hN _ (List.mem_of_getElem? (i := 20) rfl)) (hts _ (by decide +kernel)) (by decide +kernel) ⟨Nat.le_of_ble_eq_true rfl, Nat.le_of_ble_eq_true rfl⟩, hts _ (by decide +kernel), trivial⟩ (ps_of hK hN hP hD [] rfl rfl) rfl rfl hl.1 rfl (lv_room (Nat.le_of_ble_eq_true rfl)) dX0_isTurning_10 ⟨Nat.zero_le _, Nat.zero_le _⟩) hP hD hS hA (fun r u H locs hu hP hD hS => ?_)
  subst hu
  refine lv_if_eq (tgt := 40) hx hb dX0_isTurning_13 (by decide) (fun hc => ?_) (fun hc => ?_)
  · replace hw := hw.1 hc
    refine lv_iconst (v := (0 : Int32)) hx hb dX0_isTurning_40 (by decide) ?_
    exact hret _ () _ _ _ _ hw (by first | exact bI_nar _ | rfl | decide) hP hD hS dX0_isTurning_41
  · replace hw := hw.2 hc
    refine lv_aload_n hx hb dX0_isTurning_16 rfl (lv_at hl 1 rfl) ?_
    refine va_get (D := D) (ci := 0) (v := .ref (q 15)) (C := RX0) (T := TX0) (N := 6) hx hb hts hin0 hown hK hP 0 rfl rfl 4 (by decide) f21 (fun _ h9 => h9) rfl dX0_isTurning_17 ?_
    refine lv_iload_n hx hb dX0_isTurning_20 rfl (lv_at hl 0 rfl) ?_
    obtain ⟨hv, hw⟩ := hw
    refine va_iald hx hb hK hP 4 0 rfl rfl hv dX0_isTurning_21 ?_
    refine lv_iload_n hx hb dX0_isTurning_22 rfl (lv_at hl 2 rfl) ?_
    refine lv_icmp_ne (tgt := 40) hx hb dX0_isTurning_23 (by decide) (fun hc => ?_) (fun hc => ?_)
    · replace hw := hw.2 hc
      refine lv_iconst (v := (0 : Int32)) hx hb dX0_isTurning_40 (by decide) ?_
      exact hret _ () _ _ _ _ hw (by first | exact bI_nar _ | rfl | decide) hP hD hS dX0_isTurning_41
    · replace hw := hw.1 hc
      refine lv_aload_n hx hb dX0_isTurning_26 rfl (lv_at hl 1 rfl) ?_
      refine va_get (D := D) (ci := 0) (v := .ref (q 16)) (C := RX0) (T := TX0) (N := 6) hx hb hts hin0 hown hK hP 0 rfl rfl 5 (by decide) f24 (fun _ h9 => h9) rfl dX0_isTurning_27 ?_
      refine lv_iload_n hx hb dX0_isTurning_30 rfl (lv_at hl 0 rfl) ?_
      obtain ⟨hv, hw⟩ := hw
      refine va_iald hx hb hK hP 5 0 rfl rfl hv dX0_isTurning_31 ?_
      refine lv_iconst (v := (-1 : Int32)) hx hb dX0_isTurning_32 (by decide) ?_
      refine lv_icmp_eq (tgt := 40) hx hb dX0_isTurning_33 (by decide) (fun hc => ?_) (fun hc => ?_)
      · replace hw := hw.1 hc
        refine lv_iconst (v := (0 : Int32)) hx hb dX0_isTurning_40 (by decide) ?_
        exact hret _ () _ _ _ _ hw (by first | exact bI_nar _ | rfl | decide) hP hD hS dX0_isTurning_41
      · replace hw := hw.2 hc
        refine lv_iconst (v := (1 : Int32)) hx hb dX0_isTurning_36 (by decide) ?_
        refine lv_goto (tgt := 41) hx hb dX0_isTurning_37 (by decide) ?_
        exact hret _ () _ _ _ _ hw (by first | exact bI_nar _ | rfl | decide) hP hD hS dX0_isTurning_41
set_option maxHeartbeats 4000000 in
set_option maxRecDepth 100000 in
theorem c_X0_tire (l : Launch) (D : va_G) (cI cZ : ClassId) (q : Nat → Nat) (so : Nat → Int32) (sd : Nat → Int32) (ti : Nat → Int32) (on : Nat → Int32) (he : Nat → Int32) (n : Nat) (il : Int32) (kn : Nat → Int32) (sp : Nat → Int32) (py : Nat → Int32) (bo : Nat → Int32) (a1 : Int32) (hn : n ≤ 6) : MV l yX0_tire wsX0_tire ({ frames := 8, cells := 0, slots := 0, locals := 320 }) D cI cZ [.ref (q 11), .int a1] (wD cI q so sd ti on he ++ wP cI q (nI n) il kn sp py bo) (fun u : (Nat → Int32) => (wD cI q so sd u on he ++ wP cI q (nI n) il kn sp py bo)) (fun u => u = tiF n bo on he a1 ti n) := by
  refine MV_of (cc := cX0_tire) (maxL := 3) (by decide) rfl (Nat.le_of_ble_eq_true rfl) (fun p e s m args below meth c A Q hx hb hml hown hts hK hN hA hret H locs ls hl hP hD hS => ?_)
  have hown : s.vm.findClass RX0 = some m.cls := hown
  have hl : lv_has ls 3 [(0, .ref (q 11)), (1, .int a1)] := hl
  have hin0 : ∀ w ∈ u_ws RX0 TX0 6, w ∈ wsX0_tire := fun w h => List.mem_cons_of_mem _ (List.mem_append_left _ (List.mem_append_right _ h))
  have hin1 : ∀ w ∈ u_ws RX1 TX1 6, w ∈ wsX0_tire := fun w h => List.mem_cons_of_mem _ (List.mem_append_right _ h)
  have f27 : (Cond.fieldLink RX0 27 "GlassBooths$Day" "people" "LGlassBooths$People;").before args s = true := hts _ (by decide +kernel)
  have f69 : (Cond.fieldLinkNest RX0 69 "GlassBooths$People" "size" "I" "GlassBooths").before args s = true := va_Nw.use rfl (hN _ (List.mem_of_getElem? (i := 2) rfl))
  have f18 : (Cond.fieldLink RX0 18 "GlassBooths$Day" "tiredness" "[I").before args s = true := hts _ (by decide +kernel)
  obtain ⟨K2, k2i, k2e⟩ := ex_K3 (fun (x1 : Int32) (x2 : Int32) (ti_ : Nat → Int32) => ∀ (H : Heap) (locs : List Loc) (ls : Array Slot), lv_has ls 3 [(0, .ref (q 11)), (1, .int x1), (2, .int x2)] → va_P D vwCl (wD cI q so sd ti_ on he ++ wP cI q (nI n) il kn sp py bo) H → va_D A (wD cI q so sd ti_ on he ++ wP cI q (nI n) il kn sp py bo) → va_S A s.heap H locs → W p l e (headSpec wsX0_tire ({ frames := 8, cells := 0, slots := 0, locals := 320 })).room s m args below meth c H locs 0 0 Q (F0 m 2 ls []))
  have J52 : ∀ x1 x2 ti_, v_X0_tire_52 n so sd on he il kn sp py bo (fun u => u = tiF n bo on he a1 ti n) K2 x1 x2 ti_ → ∀ (H : Heap) (locs : List Loc) (ls : Array Slot), lv_has ls 3 [(0, .ref (q 11)), (1, .int x1), (2, .int x2)] → va_P D vwCl (wD cI q so sd ti_ on he ++ wP cI q (nI n) il kn sp py bo) H → va_D A (wD cI q so sd ti_ on he ++ wP cI q (nI n) il kn sp py bo) → va_S A s.heap H locs → W p l e (headSpec wsX0_tire ({ frames := 8, cells := 0, slots := 0, locals := 320 })).room s m args below meth c H locs 0 0 Q (F0 m 52 ls []) := by
    intro x1 x2 ti_ hw
    intro H locs ls hl hP hD hS
    unfold v_X0_tire_52 at hw
    refine lv_iinc (v := x2 + 1) (lv' := [(2, .int (x2 + 1)), (0, .ref (q 11)), (1, .int x1)]) hx hb dX0_tire_52 hl (k := 2) rfl rfl (by decide) rfl (fun ls hl => ?_)
    refine lv_goto (tgt := 2) hx hb dX0_tire_55 (by decide) ?_
    exact k2e _ _ _ hw _ _ _ (lv_sub hl [1, 2, 0] rfl) hP hD hS
  have R2 : ∀ x1 x2 ti_, v_X0_tire_2 n so sd on he il kn sp py bo (fun u => u = tiF n bo on he a1 ti n) K2 x1 x2 ti_ → K2 x1 x2 ti_ := by
    intro x1 x2 ti_ hw
    refine k2i _ _ _ ?_
    intro H locs ls hl hP hD hS
    unfold v_X0_tire_2 at hw
    refine lv_iload_n hx hb dX0_tire_2 rfl (lv_at hl 2 rfl) ?_
    refine lv_aload_n hx hb dX0_tire_3 rfl (lv_at hl 0 rfl) ?_
    refine va_get (D := D) (ci := 0) (v := .ref (q 0)) (C := RX0) (T := TX0) (N := 6) hx hb hts hin0 hown hK hP 0 rfl rfl 0 (by decide) f27 (fun _ h9 => h9) rfl dX0_tire_4 ?_
    refine va_getN (D := D) (ci := 1) (v := .int (nI n)) (C := RX1) (T := TX1) (N := 6) hx hb hts hin1 hown hK hP 6 rfl rfl 4 (by decide) f69 (fun _ h9 => h9) rfl dX0_tire_7 ?_
    refine lv_icmp_ge (tgt := 58) hx hb dX0_tire_10 (by decide) (fun hc => ?_) (fun hc => ?_)
    · replace hw := hw.1 hc
      exact hret ti_ _ _ _ _ hw hP hD hS dX0_tire_58
    · replace hw := hw.2 hc
      refine lv_aload_n hx hb dX0_tire_13 rfl (lv_at hl 0 rfl) ?_
      refine lv_iload_n hx hb dX0_tire_14 rfl (lv_at hl 2 rfl) ?_
      refine zc_i (fun u => (wD cI q so sd ti_ on he ++ wP cI q (nI n) il kn sp py bo)) [0, 1, 2, 3, 4, 5, 6, 7, 8, 9, 10] [] [0, 1, 2, 3, 4, 5, 6, 7, 8, 9, 10] (va_runV (As := [.int x2]) (rest := []) ⟨hx, hb, hml, hown, hts⟩ ((c_X0_isTurning l D cI cZ q so sd ti_ on he n il kn sp py bo x2 hn ) H.size) (cwV 1 hts gX0_tire_X0_isTurning rfl rfl rfl (by decide +kernel) ⟨Nat.le_of_ble_eq_true rfl, Nat.le_of_ble_eq_true rfl⟩) (pv_of hK hN hP hD [0, 1, 2, 3, 4, 5, 6, 7, 8, 9, 10] rfl rfl 0 0 rfl rfl) rfl rfl hl.1 rfl (lv_room (Nat.le_of_ble_eq_true rfl)) dX0_tire_15 ⟨Nat.zero_le _, Nat.zero_le _⟩) hP hD hS hA rfl rfl rfl (by decide) (fun _ => rfl) rfl (fun r u H locs hu hP hD hS => ?_)
      subst hu
      have hP : va_P D vwCl (wD cI q so sd ti_ on he ++ wP cI q (nI n) il kn sp py bo) H := hP
      have hD : va_D A (wD cI q so sd ti_ on he ++ wP cI q (nI n) il kn sp py bo) := hD
      refine lv_if_eq (tgt := 34) hx hb dX0_tire_18 (by decide) (fun hc => ?_) (fun hc => ?_)
      · replace hw := hw.1 hc
        refine lv_aload_n hx hb dX0_tire_34 rfl (lv_at hl 0 rfl) ?_
        refine va_get (D := D) (ci := 0) (v := .ref (q 14)) (C := RX0) (T := TX0) (N := 6) hx hb hts hin0 hown hK hP 0 rfl rfl 3 (by decide) f18 (fun _ h9 => h9) rfl dX0_tire_35 ?_
        refine lv_iload_n hx hb dX0_tire_38 rfl (lv_at hl 2 rfl) ?_
        refine lv_iconst (v := (0 : Int32)) hx hb dX0_tire_39 (by decide) ?_
        refine lv_aload_n hx hb dX0_tire_40 rfl (lv_at hl 0 rfl) ?_
        refine va_get (D := D) (ci := 0) (v := .ref (q 14)) (C := RX0) (T := TX0) (N := 6) hx hb hts hin0 hown hK hP 0 rfl rfl 3 (by decide) f18 (fun _ h9 => h9) rfl dX0_tire_41 ?_
        refine lv_iload_n hx hb dX0_tire_44 rfl (lv_at hl 2 rfl) ?_
        obtain ⟨hv, hw⟩ := hw
        refine va_iald hx hb hK hP 3 0 rfl rfl hv dX0_tire_45 ?_
        refine lv_iconst (v := (2 : Int32)) hx hb dX0_tire_46 (by decide) ?_
        refine lv_isub hx hb dX0_tire_47 ?_
        refine va_mmax hx hb (hml.trans hl.1.symm) hown (hts (.methodLink RX0 97 Lib.Math.max.name) (by decide +kernel)) (hts (.static Lib.Math.max.name) (by decide +kernel)) (hts (.initialized "java/lang/Math") (by decide +kernel)) (hts (.code Lib.Math.max.name Lib.Math.max.code 2 (some .int)) (by decide +kernel)) (Nat.le_of_ble_eq_true rfl) (Nat.le_of_ble_eq_true rfl) (Nat.zero_le _) (Nat.zero_le _) dX0_tire_48 ?_
        obtain ⟨hv, hw⟩ := hw
        refine va_iast hx hb hK hP hD hS 3 0 rfl rfl hv dX0_tire_51 (fun H locs hP hD hS => ?_)
        have hP : va_P D vwCl (wD cI q so sd (upd ti_ x2.toNatClampNeg (if (0 : Int32) < ((ti_ x2.toNatClampNeg) - (2 : Int32)) then ((ti_ x2.toNatClampNeg) - (2 : Int32)) else (0 : Int32))) on he ++ wP cI q (nI n) il kn sp py bo) H := hP
        have hD : va_D A (wD cI q so sd (upd ti_ x2.toNatClampNeg (if (0 : Int32) < ((ti_ x2.toNatClampNeg) - (2 : Int32)) then ((ti_ x2.toNatClampNeg) - (2 : Int32)) else (0 : Int32))) on he ++ wP cI q (nI n) il kn sp py bo) := hD
        exact J52 _ _ _ hw _ _ _ (lv_sub hl [0, 1, 2] rfl) hP hD hS
      · replace hw := hw.2 hc
        refine lv_aload_n hx hb dX0_tire_21 rfl (lv_at hl 0 rfl) ?_
        refine va_get (D := D) (ci := 0) (v := .ref (q 14)) (C := RX0) (T := TX0) (N := 6) hx hb hts hin0 hown hK hP 0 rfl rfl 3 (by decide) f18 (fun _ h9 => h9) rfl dX0_tire_22 ?_
        refine lv_iload_n hx hb dX0_tire_25 rfl (lv_at hl 2 rfl) ?_
        refine lv_dup2_11 hx hb dX0_tire_26 rfl rfl ?_
        obtain ⟨hv, hw⟩ := hw
        refine va_iald hx hb hK hP 3 0 rfl rfl hv dX0_tire_27 ?_
        refine lv_iload_n hx hb dX0_tire_28 rfl (lv_at hl 1 rfl) ?_
        refine lv_iadd hx hb dX0_tire_29 ?_
        obtain ⟨hv, hw⟩ := hw
        refine va_iast hx hb hK hP hD hS 3 0 rfl rfl hv dX0_tire_30 (fun H locs hP hD hS => ?_)
        have hP : va_P D vwCl (wD cI q so sd (upd ti_ x2.toNatClampNeg ((ti_ x2.toNatClampNeg) + x1)) on he ++ wP cI q (nI n) il kn sp py bo) H := hP
        have hD : va_D A (wD cI q so sd (upd ti_ x2.toNatClampNeg ((ti_ x2.toNatClampNeg) + x1)) on he ++ wP cI q (nI n) il kn sp py bo) := hD
        refine lv_goto (tgt := 52) hx hb dX0_tire_31 (by decide) ?_
        exact J52 _ _ _ hw _ _ _ (lv_sub hl [0, 1, 2] rfl) hP hD hS
  have hw := h_X0_tire n so sd on he il kn sp py bo ti a1 hn  K2 R2
  unfold v_X0_tire_0 at hw
  refine lv_iconst (v := (0 : Int32)) hx hb dX0_tire_0 (by decide) ?_
  refine lv_istore_n (lv' := [(2, .int (0 : Int32)), (0, .ref (q 11)), (1, .int a1)]) hx hb dX0_tire_1 rfl hl (by decide) rfl (fun ls hl => ?_)
  exact k2e _ _ _ hw _ _ _ (lv_sub hl [1, 2, 0] rfl) hP hD hS
set_option maxHeartbeats 4000000 in
set_option maxRecDepth 100000 in
theorem c_X0_lateIn (l : Launch) (D : va_G) (cI cZ : ClassId) (q : Nat → Nat) (so : Nat → Int32) (sd : Nat → Int32) (ti : Nat → Int32) (on : Nat → Int32) (he : Nat → Int32) (n : Nat) (il : Int32) (kn : Nat → Int32) (sp : Nat → Int32) (py : Nat → Int32) (bo : Nat → Int32) (a1 : Int32) (a2 : Int32) (hn : n ≤ 6) : MI l yX0_lateIn wsX0_lateIn ({ frames := 4, cells := 0, slots := 0, locals := 160 }) D cI cZ [.ref (q 11), .int a1, .int a2] (wD cI q so sd ti on he ++ wP cI q (nI n) il kn sp py bo) (fun _ : Unit => (wD cI q so sd ti on he ++ wP cI q (nI n) il kn sp py bo)) (fun r _ => r = laF sd he a1 a2) := by
  refine MI_of (cc := cX0_lateIn) (maxL := 4) (ty := .int) (by decide) rfl (Nat.le_of_ble_eq_true rfl) (fun p e s m args below meth c A Q hx hb hml hown hts hK hN hA hret H locs ls hl hP hD hS => ?_)
  have hown : s.vm.findClass RX0 = some m.cls := hown
  have hl : lv_has ls 4 [(0, .ref (q 11)), (1, .int a1), (2, .int a2)] := hl
  have hin0 : ∀ w ∈ u_ws RX0 TX0 6, w ∈ wsX0_lateIn := fun w h => List.mem_cons_of_mem _ (List.mem_append_right _ h)
  have f24 : (Cond.fieldLink RX0 24 "GlassBooths$Day" "heardBy" "[I").before args s = true := hts _ (by decide +kernel)
  have f15 : (Cond.fieldLink RX0 15 "GlassBooths$Day" "speeds" "[I").before args s = true := hts _ (by decide +kernel)
  have J41 : ∀ x2 s0, v_X0_lateIn_41 n so sd ti on he il kn sp py bo (fun r _ => r = laF sd he a1 a2)  x2 s0 → ∀ (H : Heap) (locs : List Loc) (ls : Array Slot), lv_has ls 4 [(0, .ref (q 11)), (2, .int x2)] → va_P D vwCl (wD cI q so sd ti on he ++ wP cI q (nI n) il kn sp py bo) H → va_D A (wD cI q so sd ti on he ++ wP cI q (nI n) il kn sp py bo) → va_S A s.heap H locs → W p l e (headSpec wsX0_lateIn ({ frames := 4, cells := 0, slots := 0, locals := 160 })).room s m args below meth c H locs 0 0 Q (F0 m 41 ls [.int s0]) := by
    intro x2 s0 hw
    intro H locs ls hl hP hD hS
    unfold v_X0_lateIn_41 at hw
    refine lv_istore_n (lv' := [(3, .int s0), (0, .ref (q 11)), (2, .int x2)]) hx hb dX0_lateIn_41 rfl hl (by decide) rfl (fun ls hl => ?_)
    refine lv_aload_n hx hb dX0_lateIn_42 rfl (lv_at hl 1 rfl) ?_
    refine va_get (D := D) (ci := 0) (v := .ref (q 16)) (C := RX0) (T := TX0) (N := 6) hx hb hts hin0 hown hK hP 0 rfl rfl 5 (by decide) f24 (fun _ h9 => h9) rfl dX0_lateIn_43 ?_
    refine lv_iload_n hx hb dX0_lateIn_46 rfl (lv_at hl 2 rfl) ?_
    obtain ⟨hv, hw⟩ := hw
    refine va_iald hx hb hK hP 5 0 rfl rfl hv dX0_lateIn_47 ?_
    refine lv_iload_n hx hb dX0_lateIn_48 rfl (lv_at hl 2 rfl) ?_
    refine lv_icmp_ne (tgt := 56) hx hb dX0_lateIn_49 (by decide) (fun hc => ?_) (fun hc => ?_)
    · replace hw := hw.2 hc
      refine lv_iconst (v := (2 : Int32)) hx hb dX0_lateIn_56 (by decide) ?_
      refine lv_iload_n hx hb dX0_lateIn_57 rfl (lv_at hl 0 rfl) ?_
      refine lv_imul hx hb dX0_lateIn_58 ?_
      refine lv_iconst (v := (1 : Int32)) hx hb dX0_lateIn_59 (by decide) ?_
      refine lv_iadd hx hb dX0_lateIn_60 ?_
      exact hret _ () _ _ _ _ hw rfl hP hD hS dX0_lateIn_61
    · replace hw := hw.1 hc
      refine lv_iload_n hx hb dX0_lateIn_52 rfl (lv_at hl 0 rfl) ?_
      refine lv_goto (tgt := 61) hx hb dX0_lateIn_53 (by decide) ?_
      exact hret _ () _ _ _ _ hw rfl hP hD hS dX0_lateIn_61
  have hw := h_X0_lateIn n so sd ti on he il kn sp py bo  a1 a2 hn   
  unfold v_X0_lateIn_0 at hw
  refine lv_iload_n hx hb dX0_lateIn_0 rfl (lv_at hl 1 rfl) ?_
  refine zc_i0 (va_runSN (As := [.int a1]) (rest := []) ⟨hx, hb, hml, hown, hts⟩ ((c_X3_isHalf l D cI cZ a1  ) H.size) ⟨va_cnB 1 hts gX0_lateIn_X3_isHalf_n37 rfl rfl rfl (hN _ (List.mem_of_getElem? (i := 19) rfl)) (hts _ (by decide +kernel)) (by decide +kernel) ⟨Nat.le_of_ble_eq_true rfl, Nat.le_of_ble_eq_true rfl⟩, hts _ (by decide +kernel), trivial⟩ (ps_of hK hN hP hD [] rfl rfl) rfl rfl hl.1 rfl (lv_room (Nat.le_of_ble_eq_true rfl)) dX0_lateIn_1 ⟨Nat.zero_le _, Nat.zero_le _⟩) hP hD hS hA (fun r u H locs hu hP hD hS => ?_)
  subst hu
  refine lv_if_eq (tgt := 24) hx hb dX0_lateIn_4 (by decide) (fun hc => ?_) (fun hc => ?_)
  · replace hw := hw.1 hc
    refine lv_iconst (v := (0 : Int32)) hx hb dX0_lateIn_24 (by decide) ?_
    exact hret _ () _ _ _ _ hw rfl hP hD hS dX0_lateIn_25
  · replace hw := hw.2 hc
    refine lv_iload_n hx hb dX0_lateIn_7 rfl (lv_at hl 2 rfl) ?_
    refine zc_i0 (va_runSN (As := [.int a2]) (rest := []) ⟨hx, hb, hml, hown, hts⟩ ((c_X3_isTongue l D cI cZ a2  ) H.size) ⟨va_cnB 1 hts gX0_lateIn_X3_isTongue_n78 rfl rfl rfl (hN _ (List.mem_of_getElem? (i := 20) rfl)) (hts _ (by decide +kernel)) (by decide +kernel) ⟨Nat.le_of_ble_eq_true rfl, Nat.le_of_ble_eq_true rfl⟩, hts _ (by decide +kernel), trivial⟩ (ps_of hK hN hP hD [] rfl rfl) rfl rfl hl.1 rfl (lv_room (Nat.le_of_ble_eq_true rfl)) dX0_lateIn_8 ⟨Nat.zero_le _, Nat.zero_le _⟩) hP hD hS hA (fun r u H locs hu hP hD hS => ?_)
    subst hu
    refine lv_if_eq (tgt := 24) hx hb dX0_lateIn_11 (by decide) (fun hc => ?_) (fun hc => ?_)
    · replace hw := hw.1 hc
      refine lv_iconst (v := (0 : Int32)) hx hb dX0_lateIn_24 (by decide) ?_
      exact hret _ () _ _ _ _ hw rfl hP hD hS dX0_lateIn_25
    · replace hw := hw.2 hc
      refine lv_aload_n hx hb dX0_lateIn_14 rfl (lv_at hl 0 rfl) ?_
      refine va_get (D := D) (ci := 0) (v := .ref (q 16)) (C := RX0) (T := TX0) (N := 6) hx hb hts hin0 hown hK hP 0 rfl rfl 5 (by decide) f24 (fun _ h9 => h9) rfl dX0_lateIn_15 ?_
      refine lv_iload_n hx hb dX0_lateIn_18 rfl (lv_at hl 2 rfl) ?_
      obtain ⟨hv, hw⟩ := hw
      refine va_iald hx hb hK hP 5 0 rfl rfl hv dX0_lateIn_19 ?_
      refine lv_iconst (v := (-1 : Int32)) hx hb dX0_lateIn_20 (by decide) ?_
      refine lv_icmp_ne (tgt := 26) hx hb dX0_lateIn_21 (by decide) (fun hc => ?_) (fun hc => ?_)
      · replace hw := hw.2 hc
        refine lv_aload_n hx hb dX0_lateIn_26 rfl (lv_at hl 0 rfl) ?_
        refine va_get (D := D) (ci := 0) (v := .ref (q 13)) (C := RX0) (T := TX0) (N := 6) hx hb hts hin0 hown hK hP 0 rfl rfl 2 (by decide) f15 (fun _ h9 => h9) rfl dX0_lateIn_27 ?_
        refine lv_iload_n hx hb dX0_lateIn_30 rfl (lv_at hl 1 rfl) ?_
        obtain ⟨hv, hw⟩ := hw
        refine va_iald hx hb hK hP 2 0 rfl rfl hv dX0_lateIn_31 ?_
        refine lv_iconst (v := (5 : Int32)) hx hb dX0_lateIn_32 (by decide) ?_
        refine lv_icmp_le (tgt := 40) hx hb dX0_lateIn_33 (by decide) (fun hc => ?_) (fun hc => ?_)
        · replace hw := hw.1 hc
          refine lv_iconst (v := (1 : Int32)) hx hb dX0_lateIn_40 (by decide) ?_
          exact J41 _ _ hw _ _ _ (lv_sub hl [0, 2] rfl) hP hD hS
        · replace hw := hw.2 hc
          refine lv_iconst (v := (2 : Int32)) hx hb dX0_lateIn_36 (by decide) ?_
          refine lv_goto (tgt := 41) hx hb dX0_lateIn_37 (by decide) ?_
          exact J41 _ _ hw _ _ _ (lv_sub hl [0, 2] rfl) hP hD hS
      · replace hw := hw.1 hc
        refine lv_iconst (v := (0 : Int32)) hx hb dX0_lateIn_24 (by decide) ?_
        exact hret _ () _ _ _ _ hw rfl hP hD hS dX0_lateIn_25
set_option maxHeartbeats 4000000 in
set_option maxRecDepth 100000 in
theorem c_X0_tiredAbove (l : Launch) (D : va_G) (cI cZ : ClassId) (q : Nat → Nat) (so : Nat → Int32) (sd : Nat → Int32) (ti : Nat → Int32) (on : Nat → Int32) (he : Nat → Int32) (n : Nat) (il : Int32) (kn : Nat → Int32) (sp : Nat → Int32) (py : Nat → Int32) (bo : Nat → Int32) (a1 : Int32) (hn : n ≤ 6) : MI l yX0_tiredAbove wsX0_tiredAbove ({ frames := 4, cells := 0, slots := 0, locals := 160 }) D cI cZ [.ref (q 11), .int a1] (wD cI q so sd ti on he ++ wP cI q (nI n) il kn sp py bo) (fun _ : Unit => (wD cI q so sd ti on he ++ wP cI q (nI n) il kn sp py bo)) (fun r _ => r = taF ti a1 n) := by
  refine MI_of (cc := cX0_tiredAbove) (maxL := 4) (ty := .int) (by decide) rfl (Nat.le_of_ble_eq_true rfl) (fun p e s m args below meth c A Q hx hb hml hown hts hK hN hA hret H locs ls hl hP hD hS => ?_)
  have hown : s.vm.findClass RX0 = some m.cls := hown
  have hl : lv_has ls 4 [(0, .ref (q 11)), (1, .int a1)] := hl
  have hin0 : ∀ w ∈ u_ws RX0 TX0 6, w ∈ wsX0_tiredAbove := fun w h => List.mem_cons_of_mem _ (List.mem_append_left _ (List.mem_append_right _ h))
  have hin1 : ∀ w ∈ u_ws RX1 TX1 6, w ∈ wsX0_tiredAbove := fun w h => List.mem_cons_of_mem _ (List.mem_append_right _ h)
  have f27 : (Cond.fieldLink RX0 27 "GlassBooths$Day" "people" "LGlassBooths$People;").before args s = true := hts _ (by decide +kernel)
  have f69 : (Cond.fieldLinkNest RX0 69 "GlassBooths$People" "size" "I" "GlassBooths").before args s = true := va_Nw.use rfl (hN _ (List.mem_of_getElem? (i := 2) rfl))
  have f18 : (Cond.fieldLink RX0 18 "GlassBooths$Day" "tiredness" "[I").before args s = true := hts _ (by decide +kernel)
  obtain ⟨K4, k4i, k4e⟩ := ex_K3 (fun (x1 : Int32) (x2 : Int32) (x3 : Int32) => ∀ (H : Heap) (locs : List Loc) (ls : Array Slot), lv_has ls 4 [(0, .ref (q 11)), (1, .int x1), (2, .int x2), (3, .int x3)] → va_P D vwCl (wD cI q so sd ti on he ++ wP cI q (nI n) il kn sp py bo) H → va_D A (wD cI q so sd ti on he ++ wP cI q (nI n) il kn sp py bo) → va_S A s.heap H locs → W p l e (headSpec wsX0_tiredAbove ({ frames := 4, cells := 0, slots := 0, locals := 160 })).room s m args below meth c H locs 0 0 Q (F0 m 4 ls []))
  have J31 : ∀ x1 x2 x3, v_X0_tiredAbove_31 n so sd ti on he il kn sp py bo (fun r _ => r = taF ti a1 n) K4 x1 x2 x3 → ∀ (H : Heap) (locs : List Loc) (ls : Array Slot), lv_has ls 4 [(0, .ref (q 11)), (1, .int x1), (2, .int x2), (3, .int x3)] → va_P D vwCl (wD cI q so sd ti on he ++ wP cI q (nI n) il kn sp py bo) H → va_D A (wD cI q so sd ti on he ++ wP cI q (nI n) il kn sp py bo) → va_S A s.heap H locs → W p l e (headSpec wsX0_tiredAbove ({ frames := 4, cells := 0, slots := 0, locals := 160 })).room s m args below meth c H locs 0 0 Q (F0 m 31 ls []) := by
    intro x1 x2 x3 hw
    intro H locs ls hl hP hD hS
    unfold v_X0_tiredAbove_31 at hw
    refine lv_iinc (v := x3 + 1) (lv' := [(3, .int (x3 + 1)), (0, .ref (q 11)), (1, .int x1), (2, .int x2)]) hx hb dX0_tiredAbove_31 hl (k := 3) rfl rfl (by decide) rfl (fun ls hl => ?_)
    refine lv_goto (tgt := 4) hx hb dX0_tiredAbove_34 (by decide) ?_
    exact k4e _ _ _ hw _ _ _ (lv_sub hl [1, 2, 3, 0] rfl) hP hD hS
  have R4 : ∀ x1 x2 x3, v_X0_tiredAbove_4 n so sd ti on he il kn sp py bo (fun r _ => r = taF ti a1 n) K4 x1 x2 x3 → K4 x1 x2 x3 := by
    intro x1 x2 x3 hw
    refine k4i _ _ _ ?_
    intro H locs ls hl hP hD hS
    unfold v_X0_tiredAbove_4 at hw
    refine lv_iload_n hx hb dX0_tiredAbove_4 rfl (lv_at hl 3 rfl) ?_
    refine lv_aload_n hx hb dX0_tiredAbove_5 rfl (lv_at hl 0 rfl) ?_
    refine va_get (D := D) (ci := 0) (v := .ref (q 0)) (C := RX0) (T := TX0) (N := 6) hx hb hts hin0 hown hK hP 0 rfl rfl 0 (by decide) f27 (fun _ h9 => h9) rfl dX0_tiredAbove_6 ?_
    refine va_getN (D := D) (ci := 1) (v := .int (nI n)) (C := RX1) (T := TX1) (N := 6) hx hb hts hin1 hown hK hP 6 rfl rfl 4 (by decide) f69 (fun _ h9 => h9) rfl dX0_tiredAbove_9 ?_
    refine lv_icmp_ge (tgt := 37) hx hb dX0_tiredAbove_12 (by decide) (fun hc => ?_) (fun hc => ?_)
    · replace hw := hw.1 hc
      refine lv_iload_n hx hb dX0_tiredAbove_37 rfl (lv_at hl 2 rfl) ?_
      exact hret _ () _ _ _ _ hw rfl hP hD hS dX0_tiredAbove_38
    · replace hw := hw.2 hc
      refine lv_aload_n hx hb dX0_tiredAbove_15 rfl (lv_at hl 0 rfl) ?_
      refine va_get (D := D) (ci := 0) (v := .ref (q 14)) (C := RX0) (T := TX0) (N := 6) hx hb hts hin0 hown hK hP 0 rfl rfl 3 (by decide) f18 (fun _ h9 => h9) rfl dX0_tiredAbove_16 ?_
      refine lv_iload_n hx hb dX0_tiredAbove_19 rfl (lv_at hl 3 rfl) ?_
      obtain ⟨hv, hw⟩ := hw
      refine va_iald hx hb hK hP 3 0 rfl rfl hv dX0_tiredAbove_20 ?_
      refine lv_iload_n hx hb dX0_tiredAbove_21 rfl (lv_at hl 1 rfl) ?_
      refine lv_icmp_le (tgt := 31) hx hb dX0_tiredAbove_22 (by decide) (fun hc => ?_) (fun hc => ?_)
      · replace hw := hw.1 hc
        exact J31 _ _ _ hw _ _ _ (lv_sub hl [0, 1, 2, 3] rfl) hP hD hS
      · replace hw := hw.2 hc
        refine lv_iload_n hx hb dX0_tiredAbove_25 rfl (lv_at hl 2 rfl) ?_
        refine lv_iconst (v := (1 : Int32)) hx hb dX0_tiredAbove_26 (by decide) ?_
        refine lv_iload_n hx hb dX0_tiredAbove_27 rfl (lv_at hl 3 rfl) ?_
        refine lv_ishl hx hb dX0_tiredAbove_28 ?_
        refine lv_ior hx hb dX0_tiredAbove_29 ?_
        refine lv_istore_n (lv' := [(2, .int (x2 ||| ((1 : Int32) <<< (x3 &&& 31)))), (0, .ref (q 11)), (1, .int x1), (3, .int x3)]) hx hb dX0_tiredAbove_30 rfl hl (by decide) rfl (fun ls hl => ?_)
        exact J31 _ _ _ hw _ _ _ (lv_sub hl [1, 2, 0, 3] rfl) hP hD hS
  have hw := h_X0_tiredAbove n so sd ti on he il kn sp py bo  a1 hn  K4 R4
  unfold v_X0_tiredAbove_0 at hw
  refine lv_iconst (v := (0 : Int32)) hx hb dX0_tiredAbove_0 (by decide) ?_
  refine lv_istore_n (lv' := [(2, .int (0 : Int32)), (0, .ref (q 11)), (1, .int a1)]) hx hb dX0_tiredAbove_1 rfl hl (by decide) rfl (fun ls hl => ?_)
  refine lv_iconst (v := (0 : Int32)) hx hb dX0_tiredAbove_2 (by decide) ?_
  refine lv_istore_n (lv' := [(3, .int (0 : Int32)), (2, .int (0 : Int32)), (0, .ref (q 11)), (1, .int a1)]) hx hb dX0_tiredAbove_3 rfl hl (by decide) rfl (fun ls hl => ?_)
  exact k4e _ _ _ hw _ _ _ (lv_sub hl [2, 3, 1, 0] rfl) hP hD hS
set_option maxHeartbeats 4000000 in
set_option maxRecDepth 100000 in
theorem c_X0_playHalf (l : Launch) (D : va_G) (cI cZ : ClassId) (q : Nat → Nat) (so : Nat → Int32) (sd : Nat → Int32) (ti : Nat → Int32) (on : Nat → Int32) (he : Nat → Int32) (n : Nat) (il : Int32) (kn : Nat → Int32) (sp : Nat → Int32) (py : Nat → Int32) (bo : Nat → Int32) (a1 : Int32) (hn : n ≤ 6) : MV l yX0_playHalf wsX0_playHalf ({ frames := 10, cells := 0, slots := 0, locals := 400 }) D cI cZ [.ref (q 11), .int a1] (wD cI q so sd ti on he ++ wP cI q (nI n) il kn sp py bo) (fun u : (Nat → Int32) × (Nat → Int32) × (Nat → Int32) => (wD cI q so sd u.1 u.2.1 u.2.2 ++ wP cI q (nI n) il kn sp py bo)) (fun u => u = (plH n kn bo so sd a1 (ti, on, he))) := by
  refine MV_of (cc := cX0_playHalf) (maxL := 3) (by decide) rfl (Nat.le_of_ble_eq_true rfl) (fun p e s m args below meth c A Q hx hb hml hown hts hK hN hA hret H locs ls hl hP hD hS => ?_)
  have hown : s.vm.findClass RX0 = some m.cls := hown
  have hl : lv_has ls 3 [(0, .ref (q 11)), (1, .int a1)] := hl
  have hin0 : ∀ w ∈ u_ws RX0 TX0 6, w ∈ wsX0_playHalf := fun w h => List.mem_cons_of_mem _ (List.mem_append_left _ (List.mem_append_right _ h))
  have f15 : (Cond.fieldLink RX0 15 "GlassBooths$Day" "speeds" "[I").before args s = true := hts _ (by decide +kernel)
  have f24 : (Cond.fieldLink RX0 24 "GlassBooths$Day" "heardBy" "[I").before args s = true := hts _ (by decide +kernel)
  have f9 : (Cond.fieldLink RX0 9 "GlassBooths$Day" "spoken" "[I").before args s = true := hts _ (by decide +kernel)
  obtain ⟨K14, k14i, k14e⟩ := ex_K5 (fun (x1 : Int32) (x2 : Int32) (ti_ : Nat → Int32) (on_ : Nat → Int32) (he_ : Nat → Int32) => ∀ (H : Heap) (locs : List Loc) (ls : Array Slot), lv_has ls 3 [(0, .ref (q 11)), (1, .int x1), (2, .int x2)] → va_P D vwCl (wD cI q so sd ti_ on_ he_ ++ wP cI q (nI n) il kn sp py bo) H → va_D A (wD cI q so sd ti_ on_ he_ ++ wP cI q (nI n) il kn sp py bo) → va_S A s.heap H locs → W p l e (headSpec wsX0_playHalf ({ frames := 10, cells := 0, slots := 0, locals := 400 })).room s m args below meth c H locs 0 0 Q (F0 m 14 ls []))
  have R14 : ∀ x1 x2 ti_ on_ he_, v_X0_playHalf_14 n so sd il kn sp py bo (fun u => u = (plH n kn bo so sd a1 (ti, on, he))) K14 x1 x2 ti_ on_ he_ → K14 x1 x2 ti_ on_ he_ := by
    intro x1 x2 ti_ on_ he_ hw
    refine k14i _ _ _ _ _ ?_
    intro H locs ls hl hP hD hS
    unfold v_X0_playHalf_14 at hw
    refine lv_iload_n hx hb dX0_playHalf_14 rfl (lv_at hl 2 rfl) ?_
    refine lv_iconst (v := (5 : Int32)) hx hb dX0_playHalf_15 (by decide) ?_
    refine lv_icmp_ge (tgt := 42) hx hb dX0_playHalf_16 (by decide) (fun hc => ?_) (fun hc => ?_)
    · replace hw := hw.1 hc
      refine lv_aload_n hx hb dX0_playHalf_42 rfl (lv_at hl 0 rfl) ?_
      refine lv_aload_n hx hb dX0_playHalf_43 rfl (lv_at hl 0 rfl) ?_
      refine va_get (D := D) (ci := 0) (v := .ref (q 13)) (C := RX0) (T := TX0) (N := 6) hx hb hts hin0 hown hK hP 0 rfl rfl 2 (by decide) f15 (fun _ h9 => h9) rfl dX0_playHalf_44 ?_
      refine lv_iload_n hx hb dX0_playHalf_47 rfl (lv_at hl 1 rfl) ?_
      obtain ⟨hv, hw⟩ := hw
      refine va_iald hx hb hK hP 2 0 rfl rfl hv dX0_playHalf_48 ?_
      refine zc_v (fun u => (wD cI q so sd u on_ he_ ++ wP cI q (nI n) il kn sp py bo)) [0, 1, 2, 3, 4, 5, 6, 7, 8, 9, 10] [] [0, 1, 2, 3, 4, 5, 6, 7, 8, 9, 10] (va_runV (As := [.int (sd x1.toNatClampNeg)]) (rest := []) ⟨hx, hb, hml, hown, hts⟩ ((c_X0_tire l D cI cZ q so sd ti_ on_ he_ n il kn sp py bo (sd x1.toNatClampNeg) hn ) H.size) (cwV 1 hts gX0_playHalf_X0_tire rfl rfl rfl (by decide +kernel) ⟨Nat.le_of_ble_eq_true rfl, Nat.le_of_ble_eq_true rfl⟩) (pv_of hK hN hP hD [0, 1, 2, 3, 4, 5, 6, 7, 8, 9, 10] rfl rfl 0 0 rfl rfl) rfl rfl hl.1 rfl (lv_room (Nat.le_of_ble_eq_true rfl)) dX0_playHalf_49 ⟨Nat.zero_le _, Nat.zero_le _⟩) hP hD hS hA rfl rfl rfl (by decide) (fun _ => rfl) rfl (fun u H locs hu hP hD hS => ?_)
      subst hu
      have hP : va_P D vwCl (wD cI q so sd (tiF n bo on_ he_ (sd x1.toNatClampNeg) ti_ n) on_ he_ ++ wP cI q (nI n) il kn sp py bo) H := hP
      have hD : va_D A (wD cI q so sd (tiF n bo on_ he_ (sd x1.toNatClampNeg) ti_ n) on_ he_ ++ wP cI q (nI n) il kn sp py bo) := hD
      exact hret (tiF n bo on_ he_ (sd x1.toNatClampNeg) ti_ n, on_, he_) _ _ _ _ hw hP hD hS dX0_playHalf_52
    · replace hw := hw.2 hc
      refine lv_aload_n hx hb dX0_playHalf_19 rfl (lv_at hl 0 rfl) ?_
      refine va_get (D := D) (ci := 0) (v := .ref (q 16)) (C := RX0) (T := TX0) (N := 6) hx hb hts hin0 hown hK hP 0 rfl rfl 5 (by decide) f24 (fun _ h9 => h9) rfl dX0_playHalf_20 ?_
      refine lv_iload_n hx hb dX0_playHalf_23 rfl (lv_at hl 2 rfl) ?_
      refine lv_aload_n hx hb dX0_playHalf_24 rfl (lv_at hl 0 rfl) ?_
      refine lv_aload_n hx hb dX0_playHalf_25 rfl (lv_at hl 0 rfl) ?_
      refine va_get (D := D) (ci := 0) (v := .ref (q 12)) (C := RX0) (T := TX0) (N := 6) hx hb hts hin0 hown hK hP 0 rfl rfl 1 (by decide) f9 (fun _ h9 => h9) rfl dX0_playHalf_26 ?_
      refine lv_iload_n hx hb dX0_playHalf_29 rfl (lv_at hl 1 rfl) ?_
      obtain ⟨hv, hw⟩ := hw
      refine va_iald hx hb hK hP 1 0 rfl rfl hv dX0_playHalf_30 ?_
      refine lv_iload_n hx hb dX0_playHalf_31 rfl (lv_at hl 2 rfl) ?_
      obtain ⟨hp0, hw⟩ := hw
      refine zc_i (fun u => (wD cI q so sd ti_ on_ he_ ++ wP cI q (nI n) il kn sp py bo)) [0, 1, 2, 3, 4, 5, 6, 7, 8, 9, 10] [] [0, 1, 2, 3, 4, 5, 6, 7, 8, 9, 10] (va_runV (As := [.int (so x1.toNatClampNeg), .int x2]) (rest := [.int x2, .ref (q 16)]) ⟨hx, hb, hml, hown, hts⟩ ((c_X0_wayFrom l D cI cZ q so sd ti_ on_ he_ n il kn sp py bo (so x1.toNatClampNeg) x2 hn hp0) H.size) (cwV 2 hts gX0_playHalf_X0_wayFrom rfl rfl rfl (by decide +kernel) ⟨Nat.le_of_ble_eq_true rfl, Nat.le_of_ble_eq_true rfl⟩) (pv_of hK hN hP hD [0, 1, 2, 3, 4, 5, 6, 7, 8, 9, 10] rfl rfl 0 0 rfl rfl) rfl rfl hl.1 rfl (lv_room (Nat.le_of_ble_eq_true rfl)) dX0_playHalf_32 ⟨Nat.zero_le _, Nat.zero_le _⟩) hP hD hS hA rfl rfl rfl (by decide) (fun _ => rfl) rfl (fun r u H locs hu hP hD hS => ?_)
      subst hu
      have hP : va_P D vwCl (wD cI q so sd ti_ on_ he_ ++ wP cI q (nI n) il kn sp py bo) H := hP
      have hD : va_D A (wD cI q so sd ti_ on_ he_ ++ wP cI q (nI n) il kn sp py bo) := hD
      obtain ⟨hv, hw⟩ := hw
      refine va_iast hx hb hK hP hD hS 5 0 rfl rfl hv dX0_playHalf_35 (fun H locs hP hD hS => ?_)
      have hP : va_P D vwCl (wD cI q so sd ti_ on_ (upd he_ x2.toNatClampNeg (wyF n kn on_ (so x1.toNatClampNeg) x2)) ++ wP cI q (nI n) il kn sp py bo) H := hP
      have hD : va_D A (wD cI q so sd ti_ on_ (upd he_ x2.toNatClampNeg (wyF n kn on_ (so x1.toNatClampNeg) x2)) ++ wP cI q (nI n) il kn sp py bo) := hD
      refine lv_iinc (v := x2 + 1) (lv' := [(2, .int (x2 + 1)), (0, .ref (q 11)), (1, .int x1)]) hx hb dX0_playHalf_36 hl (k := 2) rfl rfl (by decide) rfl (fun ls hl => ?_)
      refine lv_goto (tgt := 14) hx hb dX0_playHalf_39 (by decide) ?_
      exact k14e _ _ _ _ _ hw _ _ _ (lv_sub hl [1, 2, 0] rfl) hP hD hS
  have hw := h_X0_playHalf n so sd il kn sp py bo ti on he a1 hn  K14 R14
  unfold v_X0_playHalf_0 at hw
  refine lv_iload_n hx hb dX0_playHalf_0 rfl (lv_at hl 1 rfl) ?_
  refine zc_i0 (va_runSN (As := [.int a1]) (rest := []) ⟨hx, hb, hml, hown, hts⟩ ((c_X3_isHalf l D cI cZ a1  ) H.size) ⟨va_cnB 1 hts gX0_playHalf_X3_isHalf_n37 rfl rfl rfl (hN _ (List.mem_of_getElem? (i := 19) rfl)) (hts _ (by decide +kernel)) (by decide +kernel) ⟨Nat.le_of_ble_eq_true rfl, Nat.le_of_ble_eq_true rfl⟩, hts _ (by decide +kernel), trivial⟩ (ps_of hK hN hP hD [] rfl rfl) rfl rfl hl.1 rfl (lv_room (Nat.le_of_ble_eq_true rfl)) dX0_playHalf_1 ⟨Nat.zero_le _, Nat.zero_le _⟩) hP hD hS hA (fun r u H locs hu hP hD hS => ?_)
  subst hu
  refine lv_if_ne (tgt := 8) hx hb dX0_playHalf_4 (by decide) (fun hc => ?_) (fun hc => ?_)
  · replace hw := hw.2 hc
    refine lv_aload_n hx hb dX0_playHalf_8 rfl (lv_at hl 0 rfl) ?_
    refine zc_v (fun u => (wD cI q so sd ti u he ++ wP cI q (nI n) il kn sp py bo)) [0, 1, 2, 3, 4, 5, 6, 7, 8, 9, 10] [] [0, 1, 2, 3, 4, 5, 6, 7, 8, 9, 10] (va_runV (As := []) (rest := []) ⟨hx, hb, hml, hown, hts⟩ ((c_X0_chooseOn l D cI cZ q so sd ti on he n il kn sp py bo hn ) H.size) (cwV 0 hts gX0_playHalf_X0_chooseOn rfl rfl rfl (by decide +kernel) ⟨Nat.le_of_ble_eq_true rfl, Nat.le_of_ble_eq_true rfl⟩) (pv_of hK hN hP hD [0, 1, 2, 3, 4, 5, 6, 7, 8, 9, 10] rfl rfl 0 0 rfl rfl) rfl rfl hl.1 rfl (lv_room (Nat.le_of_ble_eq_true rfl)) dX0_playHalf_9 ⟨Nat.zero_le _, Nat.zero_le _⟩) hP hD hS hA rfl rfl rfl (by decide) (fun _ => rfl) rfl (fun u H locs hu hP hD hS => ?_)
    subst hu
    have hP : va_P D vwCl (wD cI q so sd ti (chO n bo ti on n) he ++ wP cI q (nI n) il kn sp py bo) H := hP
    have hD : va_D A (wD cI q so sd ti (chO n bo ti on n) he ++ wP cI q (nI n) il kn sp py bo) := hD
    refine lv_iconst (v := (0 : Int32)) hx hb dX0_playHalf_12 (by decide) ?_
    refine lv_istore_n (lv' := [(2, .int (0 : Int32)), (0, .ref (q 11)), (1, .int a1)]) hx hb dX0_playHalf_13 rfl hl (by decide) rfl (fun ls hl => ?_)
    exact k14e _ _ _ _ _ hw _ _ _ (lv_sub hl [1, 2, 0] rfl) hP hD hS
  · replace hw := hw.1 hc
    exact hret (ti, on, he) _ _ _ _ hw hP hD hS dX0_playHalf_7
set_option maxHeartbeats 4000000 in
set_option maxRecDepth 100000 in
theorem c_X0_playThrough (l : Launch) (D : va_G) (cI cZ : ClassId) (q : Nat → Nat) (so : Nat → Int32) (sd : Nat → Int32) (ti : Nat → Int32) (on : Nat → Int32) (he : Nat → Int32) (n : Nat) (il : Int32) (kn : Nat → Int32) (sp : Nat → Int32) (py : Nat → Int32) (bo : Nat → Int32) (a1 : Int32) (hn : n ≤ 6) (h0 : inB a1 16 = true) : MV l yX0_playThrough wsX0_playThrough ({ frames := 12, cells := 0, slots := 0, locals := 480 }) D cI cZ [.ref (q 11), .int a1] (wD cI q so sd ti on he ++ wP cI q (nI n) il kn sp py bo) (fun u : (Nat → Int32) × (Nat → Int32) × (Nat → Int32) => (wD cI q so sd u.1 u.2.1 u.2.2 ++ wP cI q (nI n) il kn sp py bo)) (fun u => u = (plT n kn bo so sd (ti, on, he) (a1.toNatClampNeg + 1))) := by
  refine MV_of (cc := cX0_playThrough) (maxL := 3) (by decide) rfl (Nat.le_of_ble_eq_true rfl) (fun p e s m args below meth c A Q hx hb hml hown hts hK hN hA hret H locs ls hl hP hD hS => ?_)
  have hown : s.vm.findClass RX0 = some m.cls := hown
  have hl : lv_has ls 3 [(0, .ref (q 11)), (1, .int a1)] := hl
  have hin0 : ∀ w ∈ u_ws RX0 TX0 6, w ∈ wsX0_playThrough := fun w h => List.mem_cons_of_mem _ (List.mem_append_left _ (List.mem_append_right _ h))
  have f18 : (Cond.fieldLink RX0 18 "GlassBooths$Day" "tiredness" "[I").before args s = true := hts _ (by decide +kernel)
  obtain ⟨K10, k10i, k10e⟩ := ex_K5 (fun (x1 : Int32) (x2 : Int32) (ti_ : Nat → Int32) (on_ : Nat → Int32) (he_ : Nat → Int32) => ∀ (H : Heap) (locs : List Loc) (ls : Array Slot), lv_has ls 3 [(0, .ref (q 11)), (1, .int x1), (2, .int x2)] → va_P D vwCl (wD cI q so sd ti_ on_ he_ ++ wP cI q (nI n) il kn sp py bo) H → va_D A (wD cI q so sd ti_ on_ he_ ++ wP cI q (nI n) il kn sp py bo) → va_S A s.heap H locs → W p l e (headSpec wsX0_playThrough ({ frames := 12, cells := 0, slots := 0, locals := 480 })).room s m args below meth c H locs 0 0 Q (F0 m 10 ls []))
  have R10 : ∀ x1 x2 ti_ on_ he_, v_X0_playThrough_10 n so sd il kn sp py bo (fun u => u = (plT n kn bo so sd (ti, on, he) (a1.toNatClampNeg + 1))) K10 x1 x2 ti_ on_ he_ → K10 x1 x2 ti_ on_ he_ := by
    intro x1 x2 ti_ on_ he_ hw
    refine k10i _ _ _ _ _ ?_
    intro H locs ls hl hP hD hS
    unfold v_X0_playThrough_10 at hw
    refine lv_iload_n hx hb dX0_playThrough_10 rfl (lv_at hl 2 rfl) ?_
    refine lv_bipush (v := (16 : Int32)) hx hb dX0_playThrough_11 (by decide) ?_
    refine lv_icmp_ge (tgt := 32) hx hb dX0_playThrough_13 (by decide) (fun hc => ?_) (fun hc => ?_)
    · replace hw := hw.1 hc
      exact hret (ti_, on_, he_) _ _ _ _ hw hP hD hS dX0_playThrough_32
    · replace hw := hw.2 hc
      refine lv_iload_n hx hb dX0_playThrough_16 rfl (lv_at hl 2 rfl) ?_
      refine lv_iload_n hx hb dX0_playThrough_17 rfl (lv_at hl 1 rfl) ?_
      refine lv_icmp_gt (tgt := 32) hx hb dX0_playThrough_18 (by decide) (fun hc => ?_) (fun hc => ?_)
      · replace hw := hw.1 hc
        exact hret (ti_, on_, he_) _ _ _ _ hw hP hD hS dX0_playThrough_32
      · replace hw := hw.2 hc
        refine lv_aload_n hx hb dX0_playThrough_21 rfl (lv_at hl 0 rfl) ?_
        refine lv_iload_n hx hb dX0_playThrough_22 rfl (lv_at hl 2 rfl) ?_
        refine zc_v (fun u => (wD cI q so sd u.1 u.2.1 u.2.2 ++ wP cI q (nI n) il kn sp py bo)) [0, 1, 2, 3, 4, 5, 6, 7, 8, 9, 10] [] [0, 1, 2, 3, 4, 5, 6, 7, 8, 9, 10] (va_runV (As := [.int x2]) (rest := []) ⟨hx, hb, hml, hown, hts⟩ ((c_X0_playHalf l D cI cZ q so sd ti_ on_ he_ n il kn sp py bo x2 hn ) H.size) (cwV 1 hts gX0_playThrough_X0_playHalf rfl rfl rfl (by decide +kernel) ⟨Nat.le_of_ble_eq_true rfl, Nat.le_of_ble_eq_true rfl⟩) (pv_of hK hN hP hD [0, 1, 2, 3, 4, 5, 6, 7, 8, 9, 10] rfl rfl 0 0 rfl rfl) rfl rfl hl.1 rfl (lv_room (Nat.le_of_ble_eq_true rfl)) dX0_playThrough_23 ⟨Nat.zero_le _, Nat.zero_le _⟩) hP hD hS hA rfl rfl rfl (by decide) (fun _ => rfl) rfl (fun u23 H locs hu hP hD hS => ?_)
        replace hw := hw u23 hu
        have hP : va_P D vwCl (wD cI q so sd u23.1 u23.2.1 u23.2.2 ++ wP cI q (nI n) il kn sp py bo) H := hP
        have hD : va_D A (wD cI q so sd u23.1 u23.2.1 u23.2.2 ++ wP cI q (nI n) il kn sp py bo) := hD
        refine lv_iinc (v := x2 + 1) (lv' := [(2, .int (x2 + 1)), (0, .ref (q 11)), (1, .int x1)]) hx hb dX0_playThrough_26 hl (k := 2) rfl rfl (by decide) rfl (fun ls hl => ?_)
        refine lv_goto (tgt := 10) hx hb dX0_playThrough_29 (by decide) ?_
        exact k10e _ _ _ _ _ hw _ _ _ (lv_sub hl [1, 2, 0] rfl) hP hD hS
  have hw := h_X0_playThrough n so sd il kn sp py bo ti on he a1 hn h0 K10 R10
  unfold v_X0_playThrough_0 at hw
  refine lv_aload_n hx hb dX0_playThrough_0 rfl (lv_at hl 0 rfl) ?_
  refine va_get (D := D) (ci := 0) (v := .ref (q 14)) (C := RX0) (T := TX0) (N := 6) hx hb hts hin0 hown hK hP 0 rfl rfl 3 (by decide) f18 (fun _ h9 => h9) rfl dX0_playThrough_1 ?_
  refine lv_iconst (v := (0 : Int32)) hx hb dX0_playThrough_4 (by decide) ?_
  obtain ⟨hp0, hw⟩ := hw
  refine zc_v (fun u => (wD cI q so sd u on he ++ wP cI q (nI n) il kn sp py bo)) [3] [0, 1, 2, 4, 5, 6, 7, 8, 9, 10] [0, 1, 2, 10, 3, 4, 5, 6, 7, 8, 9] (va_runS (As := [.ref (q 14), .int (0 : Int32)]) (rest := []) ⟨hx, hb, hml, hown, hts⟩ ((c_J7_fill_53178 l D cI cZ (q 14) 6 ti (0 : Int32)  hp0) H.size) (va_cwS 2 hts gX0_playThrough_J7_fill_53178 rfl rfl rfl (by decide +kernel) ⟨Nat.le_of_ble_eq_true rfl, Nat.le_of_ble_eq_true rfl⟩) (ps_of hK hN hP hD [3] rfl rfl) rfl rfl hl.1 rfl (lv_room (Nat.le_of_ble_eq_true rfl)) dX0_playThrough_5 ⟨Nat.zero_le _, Nat.zero_le _⟩) hP hD hS hA rfl rfl rfl (by decide) (fun _ => rfl) rfl (fun u H locs hu hP hD hS => ?_)
  subst hu
  have hP : va_P D vwCl (wD cI q so sd (fillA ti 6 (0 : Int32)) on he ++ wP cI q (nI n) il kn sp py bo) H := hP
  have hD : va_D A (wD cI q so sd (fillA ti 6 (0 : Int32)) on he ++ wP cI q (nI n) il kn sp py bo) := hD
  refine lv_iconst (v := (0 : Int32)) hx hb dX0_playThrough_8 (by decide) ?_
  refine lv_istore_n (lv' := [(2, .int (0 : Int32)), (0, .ref (q 11)), (1, .int a1)]) hx hb dX0_playThrough_9 rfl hl (by decide) rfl (fun ls hl => ?_)
  exact k10e _ _ _ _ _ hw _ _ _ (lv_sub hl [1, 2, 0] rfl) hP hD hS
set_option maxHeartbeats 4000000 in
set_option maxRecDepth 100000 in
theorem c_X0_lateOverall (l : Launch) (D : va_G) (cI cZ : ClassId) (q : Nat → Nat) (so : Nat → Int32) (sd : Nat → Int32) (ti : Nat → Int32) (on : Nat → Int32) (he : Nat → Int32) (n : Nat) (il : Int32) (kn : Nat → Int32) (sp : Nat → Int32) (py : Nat → Int32) (bo : Nat → Int32) (a1 : Int32) (hn : n ≤ 6) (h0 : inB a1 5 = true) : MI l yX0_lateOverall wsX0_lateOverall ({ frames := 12, cells := 0, slots := 0, locals := 480 }) D cI cZ [.ref (q 11), .int a1] (wD cI q so sd ti on he ++ wP cI q (nI n) il kn sp py bo) (fun u : (Nat → Int32) × (Nat → Int32) × (Nat → Int32) => (wD cI q so sd u.1 u.2.1 u.2.2 ++ wP cI q (nI n) il kn sp py bo)) (fun r u => r = (laO n kn bo so sd (ti, on, he) a1 16) ∧ u = (plT n kn bo so sd (ti, on, he) 16)) := by
  refine MI_of (cc := cX0_lateOverall) (maxL := 4) (ty := .int) (by decide) rfl (Nat.le_of_ble_eq_true rfl) (fun p e s m args below meth c A Q hx hb hml hown hts hK hN hA hret H locs ls hl hP hD hS => ?_)
  have hown : s.vm.findClass RX0 = some m.cls := hown
  have hl : lv_has ls 4 [(0, .ref (q 11)), (1, .int a1)] := hl
  have hin0 : ∀ w ∈ u_ws RX0 TX0 6, w ∈ wsX0_lateOverall := fun w h => List.mem_cons_of_mem _ (List.mem_append_left _ (List.mem_append_right _ h))
  have f18 : (Cond.fieldLink RX0 18 "GlassBooths$Day" "tiredness" "[I").before args s = true := hts _ (by decide +kernel)
  obtain ⟨K12, k12i, k12e⟩ := ex_K6 (fun (x1 : Int32) (x2 : Int32) (x3 : Int32) (ti_ : Nat → Int32) (on_ : Nat → Int32) (he_ : Nat → Int32) => ∀ (H : Heap) (locs : List Loc) (ls : Array Slot), lv_has ls 4 [(0, .ref (q 11)), (1, .int x1), (2, .int x2), (3, .int x3)] → va_P D vwCl (wD cI q so sd ti_ on_ he_ ++ wP cI q (nI n) il kn sp py bo) H → va_D A (wD cI q so sd ti_ on_ he_ ++ wP cI q (nI n) il kn sp py bo) → va_S A s.heap H locs → W p l e (headSpec wsX0_lateOverall ({ frames := 12, cells := 0, slots := 0, locals := 480 })).room s m args below meth c H locs 0 0 Q (F0 m 12 ls []))
  have R12 : ∀ x1 x2 x3 ti_ on_ he_, v_X0_lateOverall_12 n so sd il kn sp py bo (fun r u => r = (laO n kn bo so sd (ti, on, he) a1 16) ∧ u = (plT n kn bo so sd (ti, on, he) 16)) K12 x1 x2 x3 ti_ on_ he_ → K12 x1 x2 x3 ti_ on_ he_ := by
    intro x1 x2 x3 ti_ on_ he_ hw
    refine k12i _ _ _ _ _ _ ?_
    intro H locs ls hl hP hD hS
    unfold v_X0_lateOverall_12 at hw
    refine lv_iload_n hx hb dX0_lateOverall_12 rfl (lv_at hl 3 rfl) ?_
    refine lv_bipush (v := (16 : Int32)) hx hb dX0_lateOverall_13 (by decide) ?_
    refine lv_icmp_ge (tgt := 38) hx hb dX0_lateOverall_15 (by decide) (fun hc => ?_) (fun hc => ?_)
    · replace hw := hw.1 hc
      refine lv_iload_n hx hb dX0_lateOverall_38 rfl (lv_at hl 2 rfl) ?_
      exact hret _ (ti_, on_, he_) _ _ _ _ hw rfl hP hD hS dX0_lateOverall_39
    · replace hw := hw.2 hc
      refine lv_aload_n hx hb dX0_lateOverall_18 rfl (lv_at hl 0 rfl) ?_
      refine lv_iload_n hx hb dX0_lateOverall_19 rfl (lv_at hl 3 rfl) ?_
      refine zc_v (fun u => (wD cI q so sd u.1 u.2.1 u.2.2 ++ wP cI q (nI n) il kn sp py bo)) [0, 1, 2, 3, 4, 5, 6, 7, 8, 9, 10] [] [0, 1, 2, 3, 4, 5, 6, 7, 8, 9, 10] (va_runV (As := [.int x3]) (rest := []) ⟨hx, hb, hml, hown, hts⟩ ((c_X0_playHalf l D cI cZ q so sd ti_ on_ he_ n il kn sp py bo x3 hn ) H.size) (cwV 1 hts gX0_lateOverall_X0_playHalf rfl rfl rfl (by decide +kernel) ⟨Nat.le_of_ble_eq_true rfl, Nat.le_of_ble_eq_true rfl⟩) (pv_of hK hN hP hD [0, 1, 2, 3, 4, 5, 6, 7, 8, 9, 10] rfl rfl 0 0 rfl rfl) rfl rfl hl.1 rfl (lv_room (Nat.le_of_ble_eq_true rfl)) dX0_lateOverall_20 ⟨Nat.zero_le _, Nat.zero_le _⟩) hP hD hS hA rfl rfl rfl (by decide) (fun _ => rfl) rfl (fun u20 H locs hu hP hD hS => ?_)
      replace hw := hw u20 hu
      have hP : va_P D vwCl (wD cI q so sd u20.1 u20.2.1 u20.2.2 ++ wP cI q (nI n) il kn sp py bo) H := hP
      have hD : va_D A (wD cI q so sd u20.1 u20.2.1 u20.2.2 ++ wP cI q (nI n) il kn sp py bo) := hD
      refine lv_iload_n hx hb dX0_lateOverall_23 rfl (lv_at hl 2 rfl) ?_
      refine lv_aload_n hx hb dX0_lateOverall_24 rfl (lv_at hl 0 rfl) ?_
      refine lv_iload_n hx hb dX0_lateOverall_25 rfl (lv_at hl 3 rfl) ?_
      refine lv_iload_n hx hb dX0_lateOverall_26 rfl (lv_at hl 1 rfl) ?_
      refine zc_i (fun u => (wD cI q so sd u20.1 u20.2.1 u20.2.2 ++ wP cI q (nI n) il kn sp py bo)) [0, 1, 2, 3, 4, 5, 6, 7, 8, 9, 10] [] [0, 1, 2, 3, 4, 5, 6, 7, 8, 9, 10] (va_runV (As := [.int x3, .int x1]) (rest := [.int x2]) ⟨hx, hb, hml, hown, hts⟩ ((c_X0_lateIn l D cI cZ q so sd u20.1 u20.2.1 u20.2.2 n il kn sp py bo x3 x1 hn ) H.size) (cwV 2 hts gX0_lateOverall_X0_lateIn rfl rfl rfl (by decide +kernel) ⟨Nat.le_of_ble_eq_true rfl, Nat.le_of_ble_eq_true rfl⟩) (pv_of hK hN hP hD [0, 1, 2, 3, 4, 5, 6, 7, 8, 9, 10] rfl rfl 0 0 rfl rfl) rfl rfl hl.1 rfl (lv_room (Nat.le_of_ble_eq_true rfl)) dX0_lateOverall_27 ⟨Nat.zero_le _, Nat.zero_le _⟩) hP hD hS hA rfl rfl rfl (by decide) (fun _ => rfl) rfl (fun r u H locs hu hP hD hS => ?_)
      subst hu
      have hP : va_P D vwCl (wD cI q so sd u20.1 u20.2.1 u20.2.2 ++ wP cI q (nI n) il kn sp py bo) H := hP
      have hD : va_D A (wD cI q so sd u20.1 u20.2.1 u20.2.2 ++ wP cI q (nI n) il kn sp py bo) := hD
      refine lv_iadd hx hb dX0_lateOverall_30 ?_
      refine lv_istore_n (lv' := [(2, .int (x2 + (laF sd u20.2.2 x3 x1))), (0, .ref (q 11)), (1, .int x1), (3, .int x3)]) hx hb dX0_lateOverall_31 rfl hl (by decide) rfl (fun ls hl => ?_)
      refine lv_iinc (v := x3 + 1) (lv' := [(3, .int (x3 + 1)), (2, .int (x2 + (laF sd u20.2.2 x3 x1))), (0, .ref (q 11)), (1, .int x1)]) hx hb dX0_lateOverall_32 hl (k := 3) rfl rfl (by decide) rfl (fun ls hl => ?_)
      refine lv_goto (tgt := 12) hx hb dX0_lateOverall_35 (by decide) ?_
      exact k12e _ _ _ _ _ _ hw _ _ _ (lv_sub hl [2, 3, 1, 0] rfl) hP hD hS
  have hw := h_X0_lateOverall n so sd il kn sp py bo ti on he a1 hn h0 K12 R12
  unfold v_X0_lateOverall_0 at hw
  refine lv_iconst (v := (0 : Int32)) hx hb dX0_lateOverall_0 (by decide) ?_
  refine lv_istore_n (lv' := [(2, .int (0 : Int32)), (0, .ref (q 11)), (1, .int a1)]) hx hb dX0_lateOverall_1 rfl hl (by decide) rfl (fun ls hl => ?_)
  refine lv_aload_n hx hb dX0_lateOverall_2 rfl (lv_at hl 1 rfl) ?_
  refine va_get (D := D) (ci := 0) (v := .ref (q 14)) (C := RX0) (T := TX0) (N := 6) hx hb hts hin0 hown hK hP 0 rfl rfl 3 (by decide) f18 (fun _ h9 => h9) rfl dX0_lateOverall_3 ?_
  refine lv_iconst (v := (0 : Int32)) hx hb dX0_lateOverall_6 (by decide) ?_
  obtain ⟨hp0, hw⟩ := hw
  refine zc_v (fun u => (wD cI q so sd u on he ++ wP cI q (nI n) il kn sp py bo)) [3] [0, 1, 2, 4, 5, 6, 7, 8, 9, 10] [0, 1, 2, 10, 3, 4, 5, 6, 7, 8, 9] (va_runS (As := [.ref (q 14), .int (0 : Int32)]) (rest := []) ⟨hx, hb, hml, hown, hts⟩ ((c_J7_fill_53178 l D cI cZ (q 14) 6 ti (0 : Int32)  hp0) H.size) (va_cwS 2 hts gX0_lateOverall_J7_fill_53178 rfl rfl rfl (by decide +kernel) ⟨Nat.le_of_ble_eq_true rfl, Nat.le_of_ble_eq_true rfl⟩) (ps_of hK hN hP hD [3] rfl rfl) rfl rfl hl.1 rfl (lv_room (Nat.le_of_ble_eq_true rfl)) dX0_lateOverall_7 ⟨Nat.zero_le _, Nat.zero_le _⟩) hP hD hS hA rfl rfl rfl (by decide) (fun _ => rfl) rfl (fun u H locs hu hP hD hS => ?_)
  subst hu
  have hP : va_P D vwCl (wD cI q so sd (fillA ti 6 (0 : Int32)) on he ++ wP cI q (nI n) il kn sp py bo) H := hP
  have hD : va_D A (wD cI q so sd (fillA ti 6 (0 : Int32)) on he ++ wP cI q (nI n) il kn sp py bo) := hD
  refine lv_iconst (v := (0 : Int32)) hx hb dX0_lateOverall_10 (by decide) ?_
  refine lv_istore_n (lv' := [(3, .int (0 : Int32)), (2, .int (0 : Int32)), (0, .ref (q 11)), (1, .int a1)]) hx hb dX0_lateOverall_11 rfl hl (by decide) rfl (fun ls hl => ?_)
  exact k12e _ _ _ _ _ _ hw _ _ _ (lv_sub hl [2, 3, 1, 0] rfl) hP hD hS
set_option maxHeartbeats 4000000 in
set_option maxRecDepth 100000 in
theorem c_X0_wornBits (l : Launch) (D : va_G) (cI cZ : ClassId) (q : Nat → Nat) (so : Nat → Int32) (sd : Nat → Int32) (ti : Nat → Int32) (on : Nat → Int32) (he : Nat → Int32) (n : Nat) (il : Int32) (kn : Nat → Int32) (sp : Nat → Int32) (py : Nat → Int32) (bo : Nat → Int32) (a1 : Int32) (hn : n ≤ 6) : MI l yX0_wornBits wsX0_wornBits ({ frames := 12, cells := 0, slots := 0, locals := 480 }) D cI cZ [.ref (q 11), .int a1] (wD cI q so sd ti on he ++ wP cI q (nI n) il kn sp py bo) (fun u : (Nat → Int32) × (Nat → Int32) × (Nat → Int32) => (wD cI q so sd u.1 u.2.1 u.2.2 ++ wP cI q (nI n) il kn sp py bo)) (fun r u => r = (woO n kn bo so sd (ti, on, he) a1 16) ∧ u = (plT n kn bo so sd (ti, on, he) 16)) := by
  refine MI_of (cc := cX0_wornBits) (maxL := 4) (ty := .int) (by decide) rfl (Nat.le_of_ble_eq_true rfl) (fun p e s m args below meth c A Q hx hb hml hown hts hK hN hA hret H locs ls hl hP hD hS => ?_)
  have hown : s.vm.findClass RX0 = some m.cls := hown
  have hl : lv_has ls 4 [(0, .ref (q 11)), (1, .int a1)] := hl
  have hin0 : ∀ w ∈ u_ws RX0 TX0 6, w ∈ wsX0_wornBits := fun w h => List.mem_cons_of_mem _ (List.mem_append_left _ (List.mem_append_right _ h))
  have f18 : (Cond.fieldLink RX0 18 "GlassBooths$Day" "tiredness" "[I").before args s = true := hts _ (by decide +kernel)
  obtain ⟨K12, k12i, k12e⟩ := ex_K6 (fun (x1 : Int32) (x2 : Int32) (x3 : Int32) (ti_ : Nat → Int32) (on_ : Nat → Int32) (he_ : Nat → Int32) => ∀ (H : Heap) (locs : List Loc) (ls : Array Slot), lv_has ls 4 [(0, .ref (q 11)), (1, .int x1), (2, .int x2), (3, .int x3)] → va_P D vwCl (wD cI q so sd ti_ on_ he_ ++ wP cI q (nI n) il kn sp py bo) H → va_D A (wD cI q so sd ti_ on_ he_ ++ wP cI q (nI n) il kn sp py bo) → va_S A s.heap H locs → W p l e (headSpec wsX0_wornBits ({ frames := 12, cells := 0, slots := 0, locals := 480 })).room s m args below meth c H locs 0 0 Q (F0 m 12 ls []))
  have R12 : ∀ x1 x2 x3 ti_ on_ he_, v_X0_wornBits_12 n so sd il kn sp py bo (fun r u => r = (woO n kn bo so sd (ti, on, he) a1 16) ∧ u = (plT n kn bo so sd (ti, on, he) 16)) K12 x1 x2 x3 ti_ on_ he_ → K12 x1 x2 x3 ti_ on_ he_ := by
    intro x1 x2 x3 ti_ on_ he_ hw
    refine k12i _ _ _ _ _ _ ?_
    intro H locs ls hl hP hD hS
    unfold v_X0_wornBits_12 at hw
    refine lv_iload_n hx hb dX0_wornBits_12 rfl (lv_at hl 3 rfl) ?_
    refine lv_bipush (v := (16 : Int32)) hx hb dX0_wornBits_13 (by decide) ?_
    refine lv_icmp_ge (tgt := 37) hx hb dX0_wornBits_15 (by decide) (fun hc => ?_) (fun hc => ?_)
    · replace hw := hw.1 hc
      refine lv_iload_n hx hb dX0_wornBits_37 rfl (lv_at hl 2 rfl) ?_
      exact hret _ (ti_, on_, he_) _ _ _ _ hw rfl hP hD hS dX0_wornBits_38
    · replace hw := hw.2 hc
      refine lv_aload_n hx hb dX0_wornBits_18 rfl (lv_at hl 0 rfl) ?_
      refine lv_iload_n hx hb dX0_wornBits_19 rfl (lv_at hl 3 rfl) ?_
      refine zc_v (fun u => (wD cI q so sd u.1 u.2.1 u.2.2 ++ wP cI q (nI n) il kn sp py bo)) [0, 1, 2, 3, 4, 5, 6, 7, 8, 9, 10] [] [0, 1, 2, 3, 4, 5, 6, 7, 8, 9, 10] (va_runV (As := [.int x3]) (rest := []) ⟨hx, hb, hml, hown, hts⟩ ((c_X0_playHalf l D cI cZ q so sd ti_ on_ he_ n il kn sp py bo x3 hn ) H.size) (cwV 1 hts gX0_wornBits_X0_playHalf rfl rfl rfl (by decide +kernel) ⟨Nat.le_of_ble_eq_true rfl, Nat.le_of_ble_eq_true rfl⟩) (pv_of hK hN hP hD [0, 1, 2, 3, 4, 5, 6, 7, 8, 9, 10] rfl rfl 0 0 rfl rfl) rfl rfl hl.1 rfl (lv_room (Nat.le_of_ble_eq_true rfl)) dX0_wornBits_20 ⟨Nat.zero_le _, Nat.zero_le _⟩) hP hD hS hA rfl rfl rfl (by decide) (fun _ => rfl) rfl (fun u20 H locs hu hP hD hS => ?_)
      replace hw := hw u20 hu
      have hP : va_P D vwCl (wD cI q so sd u20.1 u20.2.1 u20.2.2 ++ wP cI q (nI n) il kn sp py bo) H := hP
      have hD : va_D A (wD cI q so sd u20.1 u20.2.1 u20.2.2 ++ wP cI q (nI n) il kn sp py bo) := hD
      refine lv_iload_n hx hb dX0_wornBits_23 rfl (lv_at hl 2 rfl) ?_
      refine lv_aload_n hx hb dX0_wornBits_24 rfl (lv_at hl 0 rfl) ?_
      refine lv_iload_n hx hb dX0_wornBits_25 rfl (lv_at hl 1 rfl) ?_
      refine zc_i (fun u => (wD cI q so sd u20.1 u20.2.1 u20.2.2 ++ wP cI q (nI n) il kn sp py bo)) [0, 1, 2, 3, 4, 5, 6, 7, 8, 9, 10] [] [0, 1, 2, 3, 4, 5, 6, 7, 8, 9, 10] (va_runV (As := [.int x1]) (rest := [.int x2]) ⟨hx, hb, hml, hown, hts⟩ ((c_X0_tiredAbove l D cI cZ q so sd u20.1 u20.2.1 u20.2.2 n il kn sp py bo x1 hn ) H.size) (cwV 1 hts gX0_wornBits_X0_tiredAbove rfl rfl rfl (by decide +kernel) ⟨Nat.le_of_ble_eq_true rfl, Nat.le_of_ble_eq_true rfl⟩) (pv_of hK hN hP hD [0, 1, 2, 3, 4, 5, 6, 7, 8, 9, 10] rfl rfl 0 0 rfl rfl) rfl rfl hl.1 rfl (lv_room (Nat.le_of_ble_eq_true rfl)) dX0_wornBits_26 ⟨Nat.zero_le _, Nat.zero_le _⟩) hP hD hS hA rfl rfl rfl (by decide) (fun _ => rfl) rfl (fun r u H locs hu hP hD hS => ?_)
      subst hu
      have hP : va_P D vwCl (wD cI q so sd u20.1 u20.2.1 u20.2.2 ++ wP cI q (nI n) il kn sp py bo) H := hP
      have hD : va_D A (wD cI q so sd u20.1 u20.2.1 u20.2.2 ++ wP cI q (nI n) il kn sp py bo) := hD
      refine lv_ior hx hb dX0_wornBits_29 ?_
      refine lv_istore_n (lv' := [(2, .int (x2 ||| (taF u20.1 x1 n))), (0, .ref (q 11)), (1, .int x1), (3, .int x3)]) hx hb dX0_wornBits_30 rfl hl (by decide) rfl (fun ls hl => ?_)
      refine lv_iinc (v := x3 + 1) (lv' := [(3, .int (x3 + 1)), (2, .int (x2 ||| (taF u20.1 x1 n))), (0, .ref (q 11)), (1, .int x1)]) hx hb dX0_wornBits_31 hl (k := 3) rfl rfl (by decide) rfl (fun ls hl => ?_)
      refine lv_goto (tgt := 12) hx hb dX0_wornBits_34 (by decide) ?_
      exact k12e _ _ _ _ _ _ hw _ _ _ (lv_sub hl [2, 3, 1, 0] rfl) hP hD hS
  have hw := h_X0_wornBits n so sd il kn sp py bo ti on he a1 hn  K12 R12
  unfold v_X0_wornBits_0 at hw
  refine lv_iconst (v := (0 : Int32)) hx hb dX0_wornBits_0 (by decide) ?_
  refine lv_istore_n (lv' := [(2, .int (0 : Int32)), (0, .ref (q 11)), (1, .int a1)]) hx hb dX0_wornBits_1 rfl hl (by decide) rfl (fun ls hl => ?_)
  refine lv_aload_n hx hb dX0_wornBits_2 rfl (lv_at hl 1 rfl) ?_
  refine va_get (D := D) (ci := 0) (v := .ref (q 14)) (C := RX0) (T := TX0) (N := 6) hx hb hts hin0 hown hK hP 0 rfl rfl 3 (by decide) f18 (fun _ h9 => h9) rfl dX0_wornBits_3 ?_
  refine lv_iconst (v := (0 : Int32)) hx hb dX0_wornBits_6 (by decide) ?_
  obtain ⟨hp0, hw⟩ := hw
  refine zc_v (fun u => (wD cI q so sd u on he ++ wP cI q (nI n) il kn sp py bo)) [3] [0, 1, 2, 4, 5, 6, 7, 8, 9, 10] [0, 1, 2, 10, 3, 4, 5, 6, 7, 8, 9] (va_runS (As := [.ref (q 14), .int (0 : Int32)]) (rest := []) ⟨hx, hb, hml, hown, hts⟩ ((c_J7_fill_53178 l D cI cZ (q 14) 6 ti (0 : Int32)  hp0) H.size) (va_cwS 2 hts gX0_wornBits_J7_fill_53178 rfl rfl rfl (by decide +kernel) ⟨Nat.le_of_ble_eq_true rfl, Nat.le_of_ble_eq_true rfl⟩) (ps_of hK hN hP hD [3] rfl rfl) rfl rfl hl.1 rfl (lv_room (Nat.le_of_ble_eq_true rfl)) dX0_wornBits_7 ⟨Nat.zero_le _, Nat.zero_le _⟩) hP hD hS hA rfl rfl rfl (by decide) (fun _ => rfl) rfl (fun u H locs hu hP hD hS => ?_)
  subst hu
  have hP : va_P D vwCl (wD cI q so sd (fillA ti 6 (0 : Int32)) on he ++ wP cI q (nI n) il kn sp py bo) H := hP
  have hD : va_D A (wD cI q so sd (fillA ti 6 (0 : Int32)) on he ++ wP cI q (nI n) il kn sp py bo) := hD
  refine lv_iconst (v := (0 : Int32)) hx hb dX0_wornBits_10 (by decide) ?_
  refine lv_istore_n (lv' := [(3, .int (0 : Int32)), (2, .int (0 : Int32)), (0, .ref (q 11)), (1, .int a1)]) hx hb dX0_wornBits_11 rfl hl (by decide) rfl (fun ls hl => ?_)
  exact k12e _ _ _ _ _ _ hw _ _ _ (lv_sub hl [2, 3, 1, 0] rfl) hP hD hS
