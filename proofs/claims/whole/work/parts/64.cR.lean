set_option maxHeartbeats 4000000 in
set_option maxRecDepth 100000 in
theorem c_X4_in (l : Launch) (D : va_G) (cI cZ : ClassId) (a0 : Int32) (a1 : Int32) (a2 : Int32) : MI l yX4_in wsX4_in ({ frames := 2, cells := 0, slots := 0, locals := 64 }) D cI cZ [.int a0, .int a1, .int a2] ([] : va_W) (fun _ : Unit => ([] : va_W)) (fun r _ => r = bI (inR a0 a1 a2)) := by
  refine MI_of (cc := cX4_in) (maxL := 3) (ty := .boolean) (by decide) rfl (Nat.le_of_ble_eq_true rfl) (fun p e s m args below meth c A Q hx hb hml hown hts hK hN hA hret H locs ls hl hP hD hS => ?_)
  have hown : s.vm.findClass RX4 = some m.cls := hown
  have hl : lv_has ls 3 [(0, .int a0), (1, .int a1), (2, .int a2)] := hl
  have hw := h_X4_in   a0 a1 a2    
  unfold v_X4_in_0 at hw
  refine lv_iload_n hx hb dX4_in_0 rfl (lv_at hl 0 rfl) ?_
  refine lv_iload_n hx hb dX4_in_1 rfl (lv_at hl 1 rfl) ?_
  refine lv_icmp_lt (tgt := 14) hx hb dX4_in_2 (by decide) (fun hc => ?_) (fun hc => ?_)
  · replace hw := hw.1 hc
    refine lv_iconst (v := (0 : Int32)) hx hb dX4_in_14 (by decide) ?_
    exact hret _ () _ _ _ _ hw (by first | exact bI_nar _ | rfl | decide) hP hD hS dX4_in_15
  · replace hw := hw.2 hc
    refine lv_iload_n hx hb dX4_in_5 rfl (lv_at hl 0 rfl) ?_
    refine lv_iload_n hx hb dX4_in_6 rfl (lv_at hl 2 rfl) ?_
    refine lv_icmp_gt (tgt := 14) hx hb dX4_in_7 (by decide) (fun hc => ?_) (fun hc => ?_)
    · replace hw := hw.1 hc
      refine lv_iconst (v := (0 : Int32)) hx hb dX4_in_14 (by decide) ?_
      exact hret _ () _ _ _ _ hw (by first | exact bI_nar _ | rfl | decide) hP hD hS dX4_in_15
    · replace hw := hw.2 hc
      refine lv_iconst (v := (1 : Int32)) hx hb dX4_in_10 (by decide) ?_
      refine lv_goto (tgt := 15) hx hb dX4_in_11 (by decide) ?_
      exact hret _ () _ _ _ _ hw (by first | exact bI_nar _ | rfl | decide) hP hD hS dX4_in_15
set_option maxHeartbeats 4000000 in
set_option maxRecDepth 100000 in
theorem c_X4_has (l : Launch) (D : va_G) (cI cZ : ClassId) (a0 : Int32) (a1 : Int32) : MI l yX4_has wsX4_has ({ frames := 2, cells := 0, slots := 0, locals := 64 }) D cI cZ [.int a0, .int a1] ([] : va_W) (fun _ : Unit => ([] : va_W)) (fun r _ => r = bI (hs a0 a1)) := by
  refine MI_of (cc := cX4_has) (maxL := 2) (ty := .boolean) (by decide) rfl (Nat.le_of_ble_eq_true rfl) (fun p e s m args below meth c A Q hx hb hml hown hts hK hN hA hret H locs ls hl hP hD hS => ?_)
  have hown : s.vm.findClass RX4 = some m.cls := hown
  have hl : lv_has ls 2 [(0, .int a0), (1, .int a1)] := hl
  have hw := h_X4_has   a0 a1    
  unfold v_X4_has_0 at hw
  refine lv_iload_n hx hb dX4_has_0 rfl (lv_at hl 0 rfl) ?_
  refine lv_iload_n hx hb dX4_has_1 rfl (lv_at hl 1 rfl) ?_
  refine lv_ishr hx hb dX4_has_2 ?_
  refine lv_iconst (v := (1 : Int32)) hx hb dX4_has_3 (by decide) ?_
  refine lv_iand hx hb dX4_has_4 ?_
  refine lv_iconst (v := (1 : Int32)) hx hb dX4_has_5 (by decide) ?_
  refine lv_icmp_ne (tgt := 13) hx hb dX4_has_6 (by decide) (fun hc => ?_) (fun hc => ?_)
  · replace hw := hw.2 hc
    refine lv_iconst (v := (0 : Int32)) hx hb dX4_has_13 (by decide) ?_
    exact hret _ () _ _ _ _ hw (by first | exact bI_nar _ | rfl | decide) hP hD hS dX4_has_14
  · replace hw := hw.1 hc
    refine lv_iconst (v := (1 : Int32)) hx hb dX4_has_9 (by decide) ?_
    refine lv_goto (tgt := 14) hx hb dX4_has_10 (by decide) ?_
    exact hret _ () _ _ _ _ hw (by first | exact bI_nar _ | rfl | decide) hP hD hS dX4_has_14
set_option maxHeartbeats 4000000 in
set_option maxRecDepth 100000 in
theorem c_X4_isSession (l : Launch) (D : va_G) (cI cZ : ClassId) (a0 : Int32) : MI l yX4_isSession wsX4_isSession ({ frames := 4, cells := 0, slots := 0, locals := 160 }) D cI cZ [.int a0] ([] : va_W) (fun _ : Unit => ([] : va_W)) (fun r _ => r = bI (inR a0 0 1)) := by
  refine MI_of (cc := cX4_isSession) (maxL := 1) (ty := .boolean) (by decide) rfl (Nat.le_of_ble_eq_true rfl) (fun p e s m args below meth c A Q hx hb hml hown hts hK hN hA hret H locs ls hl hP hD hS => ?_)
  have hown : s.vm.findClass RX4 = some m.cls := hown
  have hl : lv_has ls 1 [(0, .int a0)] := hl
  have hw := h_X4_isSession   a0    
  unfold v_X4_isSession_0 at hw
  refine lv_iload_n hx hb dX4_isSession_0 rfl (lv_at hl 0 rfl) ?_
  refine lv_iconst (v := (0 : Int32)) hx hb dX4_isSession_1 (by decide) ?_
  refine lv_iconst (v := (1 : Int32)) hx hb dX4_isSession_2 (by decide) ?_
  refine zc_i0 (va_runS (As := [.int a0, .int (0 : Int32), .int (1 : Int32)]) (rest := []) ⟨hx, hb, hml, hown, hts⟩ ((c_X4_in l D cI cZ a0 (0 : Int32) (1 : Int32)  ) H.size) (va_cwS 3 hts gX4_isSession_X4_in rfl rfl rfl (by decide +kernel) ⟨Nat.le_of_ble_eq_true rfl, Nat.le_of_ble_eq_true rfl⟩) (ps_of hK hN hP hD [] rfl rfl) rfl rfl hl.1 rfl (lv_room (Nat.le_of_ble_eq_true rfl)) dX4_isSession_3 ⟨Nat.zero_le _, Nat.zero_le _⟩) hP hD hS hA (fun r u H locs hu hP hD hS => ?_)
  subst hu
  exact hret _ () _ _ _ _ hw (by first | exact bI_nar _ | rfl | decide) hP hD hS dX4_isSession_6
set_option maxHeartbeats 4000000 in
set_option maxRecDepth 100000 in
theorem c_X4_isTongue (l : Launch) (D : va_G) (cI cZ : ClassId) (a0 : Int32) : MI l yX4_isTongue wsX4_isTongue ({ frames := 4, cells := 0, slots := 0, locals := 160 }) D cI cZ [.int a0] ([] : va_W) (fun _ : Unit => ([] : va_W)) (fun r _ => r = bI (inR a0 0 4)) := by
  refine MI_of (cc := cX4_isTongue) (maxL := 1) (ty := .boolean) (by decide) rfl (Nat.le_of_ble_eq_true rfl) (fun p e s m args below meth c A Q hx hb hml hown hts hK hN hA hret H locs ls hl hP hD hS => ?_)
  have hown : s.vm.findClass RX4 = some m.cls := hown
  have hl : lv_has ls 1 [(0, .int a0)] := hl
  have hw := h_X4_isTongue   a0    
  unfold v_X4_isTongue_0 at hw
  refine lv_iload_n hx hb dX4_isTongue_0 rfl (lv_at hl 0 rfl) ?_
  refine lv_iconst (v := (0 : Int32)) hx hb dX4_isTongue_1 (by decide) ?_
  refine lv_iconst (v := (4 : Int32)) hx hb dX4_isTongue_2 (by decide) ?_
  refine zc_i0 (va_runS (As := [.int a0, .int (0 : Int32), .int (4 : Int32)]) (rest := []) ⟨hx, hb, hml, hown, hts⟩ ((c_X4_in l D cI cZ a0 (0 : Int32) (4 : Int32)  ) H.size) (va_cwS 3 hts gX4_isTongue_X4_in rfl rfl rfl (by decide +kernel) ⟨Nat.le_of_ble_eq_true rfl, Nat.le_of_ble_eq_true rfl⟩) (ps_of hK hN hP hD [] rfl rfl) rfl rfl hl.1 rfl (lv_room (Nat.le_of_ble_eq_true rfl)) dX4_isTongue_3 ⟨Nat.zero_le _, Nat.zero_le _⟩) hP hD hS hA (fun r u H locs hu hP hD hS => ?_)
  subst hu
  exact hret _ () _ _ _ _ hw (by first | exact bI_nar _ | rfl | decide) hP hD hS dX4_isTongue_6
set_option maxHeartbeats 4000000 in
set_option maxRecDepth 100000 in
theorem c_X4_isHalf (l : Launch) (D : va_G) (cI cZ : ClassId) (a0 : Int32) : MI l yX4_isHalf wsX4_isHalf ({ frames := 4, cells := 0, slots := 0, locals := 160 }) D cI cZ [.int a0] ([] : va_W) (fun _ : Unit => ([] : va_W)) (fun r _ => r = bI (inR a0 0 15)) := by
  refine MI_of (cc := cX4_isHalf) (maxL := 1) (ty := .boolean) (by decide) rfl (Nat.le_of_ble_eq_true rfl) (fun p e s m args below meth c A Q hx hb hml hown hts hK hN hA hret H locs ls hl hP hD hS => ?_)
  have hown : s.vm.findClass RX4 = some m.cls := hown
  have hl : lv_has ls 1 [(0, .int a0)] := hl
  have hw := h_X4_isHalf   a0    
  unfold v_X4_isHalf_0 at hw
  refine lv_iload_n hx hb dX4_isHalf_0 rfl (lv_at hl 0 rfl) ?_
  refine lv_iconst (v := (0 : Int32)) hx hb dX4_isHalf_1 (by decide) ?_
  refine lv_bipush (v := (15 : Int32)) hx hb dX4_isHalf_2 (by decide) ?_
  refine zc_i0 (va_runS (As := [.int a0, .int (0 : Int32), .int (15 : Int32)]) (rest := []) ⟨hx, hb, hml, hown, hts⟩ ((c_X4_in l D cI cZ a0 (0 : Int32) (15 : Int32)  ) H.size) (va_cwS 3 hts gX4_isHalf_X4_in rfl rfl rfl (by decide +kernel) ⟨Nat.le_of_ble_eq_true rfl, Nat.le_of_ble_eq_true rfl⟩) (ps_of hK hN hP hD [] rfl rfl) rfl rfl hl.1 rfl (lv_room (Nat.le_of_ble_eq_true rfl)) dX4_isHalf_4 ⟨Nat.zero_le _, Nat.zero_le _⟩) hP hD hS hA (fun r u H locs hu hP hD hS => ?_)
  subst hu
  exact hret _ () _ _ _ _ hw (by first | exact bI_nar _ | rfl | decide) hP hD hS dX4_isHalf_7
set_option maxHeartbeats 4000000 in
set_option maxRecDepth 100000 in
theorem c_X4_isPerson (l : Launch) (D : va_G) (cI cZ : ClassId) (q : Nat → Nat) (n : Nat) (se : Int32) (li : Int32) (wm : Int32) (ch : Int32) (ne : Int32) (np : Int32) (al : Int32) (wo : Int32) (kn : Nat → Int32) (sp : Nat → Int32) (py : Nat → Int32) (il : Nat → Int32) (fl : Nat → Int32) (wa : Nat → Int32) (bo : Nat → Int32) (so : Nat → Int32) (sd : Nat → Int32) (ro : Nat → Int32) (cp : Nat → Int32) (nr : Nat → Int32) (ti : Nat → Int32) (on : Nat → Int32) (he : Nat → Int32) (la : Nat → Int32) (a1 : Int32) (hn : n ≤ 6) : MI l yX4_isPerson wsX4_isPerson ({ frames := 4, cells := 0, slots := 0, locals := 160 }) D cI cZ [.ref (q 0), .int a1] (wR cI cZ q (nI n) se li wm ch ne np al wo kn sp py il fl wa bo so sd ro cp nr ti on he la) (fun _ : Unit => (wR cI cZ q (nI n) se li wm ch ne np al wo kn sp py il fl wa bo so sd ro cp nr ti on he la)) (fun r _ => r = bI (inR a1 0 (nI n - 1))) := by
  refine MI_of (cc := cX4_isPerson) (maxL := 2) (ty := .boolean) (by decide) rfl (Nat.le_of_ble_eq_true rfl) (fun p e s m args below meth c A Q hx hb hml hown hts hK hN hA hret H locs ls hl hP hD hS => ?_)
  have hown : s.vm.findClass RX4 = some m.cls := hown
  have hl : lv_has ls 2 [(0, .ref (q 0)), (1, .int a1)] := hl
  have hin4 : ∀ w ∈ u_ws RX4 TX4 25, w ∈ wsX4_isPerson := fun w h => List.mem_cons_of_mem _ (List.mem_append_right _ h)
  have f66 : (Cond.fieldLink RX4 66 "GlassBoothsModel" "people" "I").before args s = true := hts _ (by decide +kernel)
  have hw := h_X4_isPerson n se li wm ch ne np al wo kn sp py il fl wa bo so sd ro cp nr ti on he la  a1 hn   
  unfold v_X4_isPerson_0 at hw
  refine lv_iload_n hx hb dX4_isPerson_0 rfl (lv_at hl 1 rfl) ?_
  refine lv_iconst (v := (0 : Int32)) hx hb dX4_isPerson_1 (by decide) ?_
  refine lv_aload_n hx hb dX4_isPerson_2 rfl (lv_at hl 0 rfl) ?_
  refine va_get (D := D) (ci := 4) (v := .int (nI n)) (C := RX4) (T := TX4) (N := 25) hx hb hts hin4 hown hK hP 0 rfl rfl 0 (by decide) f66 (fun _ h9 => h9) rfl dX4_isPerson_3 ?_
  refine lv_iconst (v := (1 : Int32)) hx hb dX4_isPerson_6 (by decide) ?_
  refine lv_isub hx hb dX4_isPerson_7 ?_
  refine zc_i0 (va_runS (As := [.int a1, .int (0 : Int32), .int ((nI n) - (1 : Int32))]) (rest := []) ⟨hx, hb, hml, hown, hts⟩ ((c_X4_in l D cI cZ a1 (0 : Int32) ((nI n) - (1 : Int32))  ) H.size) (va_cwS 3 hts gX4_isPerson_X4_in rfl rfl rfl (by decide +kernel) ⟨Nat.le_of_ble_eq_true rfl, Nat.le_of_ble_eq_true rfl⟩) (ps_of hK hN hP hD [] rfl rfl) rfl rfl hl.1 rfl (lv_room (Nat.le_of_ble_eq_true rfl)) dX4_isPerson_8 ⟨Nat.zero_le _, Nat.zero_le _⟩) hP hD hS hA (fun r u H locs hu hP hD hS => ?_)
  subst hu
  exact hret _ () _ _ _ _ hw (by first | exact bI_nar _ | rfl | decide) hP hD hS dX4_isPerson_11
set_option maxHeartbeats 4000000 in
set_option maxRecDepth 100000 in
theorem c_X4_person (l : Launch) (D : va_G) (cI cZ : ClassId) (q : Nat → Nat) (n : Nat) (se : Int32) (li : Int32) (wm : Int32) (ch : Int32) (ne : Int32) (np : Int32) (al : Int32) (wo : Int32) (kn : Nat → Int32) (sp : Nat → Int32) (py : Nat → Int32) (il : Nat → Int32) (fl : Nat → Int32) (wa : Nat → Int32) (bo : Nat → Int32) (so : Nat → Int32) (sd : Nat → Int32) (ro : Nat → Int32) (cp : Nat → Int32) (nr : Nat → Int32) (ti : Nat → Int32) (on : Nat → Int32) (he : Nat → Int32) (la : Nat → Int32) (a1 : Int32) (a2 : Int32) (a3 : Int32) (hn : n ≤ 6) : MI l yX4_person wsX4_person ({ frames := 4, cells := 0, slots := 0, locals := 160 }) D cI cZ [.ref (q 0), .int a1, .int a2, .int a3] (wR cI cZ q (nI n) se li wm ch ne np al wo kn sp py il fl wa bo so sd ro cp nr ti on he la) (fun u : Int32 × (Nat → Int32) × (Nat → Int32) × (Nat → Int32) => (wR cI cZ q u.1 se li wm ch ne np al wo u.2.1 u.2.2.1 u.2.2.2 il fl wa bo so sd ro cp nr ti on he la)) (fun r u => r = (if rOk a1 a2 a3 = true then (if n < 6 then nI n else (-5)) else (-3)) ∧ u = (nI (if (rOk a1 a2 a3 && decide (n < 6)) = true then n + 1 else n), (if (rOk a1 a2 a3 && decide (n < 6)) = true then upd kn n a1 else kn), (if (rOk a1 a2 a3 && decide (n < 6)) = true then upd sp n a2 else sp), (if (rOk a1 a2 a3 && decide (n < 6)) = true then upd py n a3 else py))) := by
  refine MI_of (cc := cX4_person) (maxL := 4) (ty := .int) (by decide) rfl (Nat.le_of_ble_eq_true rfl) (fun p e s m args below meth c A Q hx hb hml hown hts hK hN hA hret H locs ls hl hP hD hS => ?_)
  have hown : s.vm.findClass RX4 = some m.cls := hown
  have hl : lv_has ls 4 [(0, .ref (q 0)), (1, .int a1), (2, .int a2), (3, .int a3)] := hl
  have hin4 : ∀ w ∈ u_ws RX4 TX4 25, w ∈ wsX4_person := fun w h => List.mem_cons_of_mem _ (List.mem_append_right _ h)
  have f66 : (Cond.fieldLink RX4 66 "GlassBoothsModel" "people" "I").before args s = true := hts _ (by decide +kernel)
  have f7 : (Cond.fieldLink RX4 7 "GlassBoothsModel" "knows" "[I").before args s = true := hts _ (by decide +kernel)
  have f13 : (Cond.fieldLink RX4 13 "GlassBoothsModel" "speaks" "[I").before args s = true := hts _ (by decide +kernel)
  have f16 : (Cond.fieldLink RX4 16 "GlassBoothsModel" "pay" "[I").before args s = true := hts _ (by decide +kernel)
  have hw := h_X4_person n se li wm ch ne np al wo il fl wa bo so sd ro cp nr ti on he la kn sp py a1 a2 a3 hn   
  unfold v_X4_person_0 at hw
  refine lv_iload_n hx hb dX4_person_0 rfl (lv_at hl 1 rfl) ?_
  refine lv_iconst (v := (0 : Int32)) hx hb dX4_person_1 (by decide) ?_
  refine lv_bipush (v := (31 : Int32)) hx hb dX4_person_2 (by decide) ?_
  refine zc_i0 (va_runS (As := [.int a1, .int (0 : Int32), .int (31 : Int32)]) (rest := []) ⟨hx, hb, hml, hown, hts⟩ ((c_X4_in l D cI cZ a1 (0 : Int32) (31 : Int32)  ) H.size) (va_cwS 3 hts gX4_person_X4_in rfl rfl rfl (by decide +kernel) ⟨Nat.le_of_ble_eq_true rfl, Nat.le_of_ble_eq_true rfl⟩) (ps_of hK hN hP hD [] rfl rfl) rfl rfl hl.1 rfl (lv_room (Nat.le_of_ble_eq_true rfl)) dX4_person_4 ⟨Nat.zero_le _, Nat.zero_le _⟩) hP hD hS hA (fun r u H locs hu hP hD hS => ?_)
  subst hu
  refine lv_if_eq (tgt := 38) hx hb dX4_person_7 (by decide) (fun hc => ?_) (fun hc => ?_)
  · replace hw := hw.1 hc
    refine lv_bipush (v := (-3 : Int32)) hx hb dX4_person_38 (by decide) ?_
    exact hret _ (nI n, kn, sp, py) _ _ _ _ hw rfl hP hD hS dX4_person_40
  · replace hw := hw.2 hc
    refine lv_iload_n hx hb dX4_person_10 rfl (lv_at hl 2 rfl) ?_
    refine lv_iconst (v := (0 : Int32)) hx hb dX4_person_11 (by decide) ?_
    refine lv_bipush (v := (31 : Int32)) hx hb dX4_person_12 (by decide) ?_
    refine zc_i0 (va_runS (As := [.int a2, .int (0 : Int32), .int (31 : Int32)]) (rest := []) ⟨hx, hb, hml, hown, hts⟩ ((c_X4_in l D cI cZ a2 (0 : Int32) (31 : Int32)  ) H.size) (va_cwS 3 hts gX4_person_X4_in rfl rfl rfl (by decide +kernel) ⟨Nat.le_of_ble_eq_true rfl, Nat.le_of_ble_eq_true rfl⟩) (ps_of hK hN hP hD [] rfl rfl) rfl rfl hl.1 rfl (lv_room (Nat.le_of_ble_eq_true rfl)) dX4_person_14 ⟨Nat.zero_le _, Nat.zero_le _⟩) hP hD hS hA (fun r u H locs hu hP hD hS => ?_)
    subst hu
    refine lv_if_eq (tgt := 38) hx hb dX4_person_17 (by decide) (fun hc => ?_) (fun hc => ?_)
    · replace hw := hw.1 hc
      refine lv_bipush (v := (-3 : Int32)) hx hb dX4_person_38 (by decide) ?_
      exact hret _ (nI n, kn, sp, py) _ _ _ _ hw rfl hP hD hS dX4_person_40
    · replace hw := hw.2 hc
      refine lv_iload_n hx hb dX4_person_20 rfl (lv_at hl 2 rfl) ?_
      refine lv_iload_n hx hb dX4_person_21 rfl (lv_at hl 1 rfl) ?_
      refine lv_iconst (v := (-1 : Int32)) hx hb dX4_person_22 (by decide) ?_
      refine lv_ixor hx hb dX4_person_23 ?_
      refine lv_iand hx hb dX4_person_24 ?_
      refine lv_if_ne (tgt := 38) hx hb dX4_person_25 (by decide) (fun hc => ?_) (fun hc => ?_)
      · replace hw := hw.2 hc
        refine lv_bipush (v := (-3 : Int32)) hx hb dX4_person_38 (by decide) ?_
        exact hret _ (nI n, kn, sp, py) _ _ _ _ hw rfl hP hD hS dX4_person_40
      · replace hw := hw.1 hc
        refine lv_iload_n hx hb dX4_person_28 rfl (lv_at hl 3 rfl) ?_
        refine lv_iconst (v := (1 : Int32)) hx hb dX4_person_29 (by decide) ?_
        refine lv_bipush (v := (99 : Int32)) hx hb dX4_person_30 (by decide) ?_
        refine zc_i0 (va_runS (As := [.int a3, .int (1 : Int32), .int (99 : Int32)]) (rest := []) ⟨hx, hb, hml, hown, hts⟩ ((c_X4_in l D cI cZ a3 (1 : Int32) (99 : Int32)  ) H.size) (va_cwS 3 hts gX4_person_X4_in rfl rfl rfl (by decide +kernel) ⟨Nat.le_of_ble_eq_true rfl, Nat.le_of_ble_eq_true rfl⟩) (ps_of hK hN hP hD [] rfl rfl) rfl rfl hl.1 rfl (lv_room (Nat.le_of_ble_eq_true rfl)) dX4_person_32 ⟨Nat.zero_le _, Nat.zero_le _⟩) hP hD hS hA (fun r u H locs hu hP hD hS => ?_)
        subst hu
        refine lv_if_ne (tgt := 41) hx hb dX4_person_35 (by decide) (fun hc => ?_) (fun hc => ?_)
        · replace hw := hw.2 hc
          refine lv_aload_n hx hb dX4_person_41 rfl (lv_at hl 0 rfl) ?_
          refine va_get (D := D) (ci := 4) (v := .int (nI n)) (C := RX4) (T := TX4) (N := 25) hx hb hts hin4 hown hK hP 0 rfl rfl 0 (by decide) f66 (fun _ h9 => h9) rfl dX4_person_42 ?_
          refine lv_bipush (v := (6 : Int32)) hx hb dX4_person_45 (by decide) ?_
          refine lv_icmp_ne (tgt := 53) hx hb dX4_person_47 (by decide) (fun hc => ?_) (fun hc => ?_)
          · replace hw := hw.2 hc
            refine lv_aload_n hx hb dX4_person_53 rfl (lv_at hl 0 rfl) ?_
            refine va_get (D := D) (ci := 4) (v := .ref (q 1)) (C := RX4) (T := TX4) (N := 25) hx hb hts hin4 hown hK hP 0 rfl rfl 1 (by decide) f7 (fun _ h9 => h9) rfl dX4_person_54 ?_
            refine lv_aload_n hx hb dX4_person_57 rfl (lv_at hl 0 rfl) ?_
            refine va_get (D := D) (ci := 4) (v := .int (nI n)) (C := RX4) (T := TX4) (N := 25) hx hb hts hin4 hown hK hP 0 rfl rfl 0 (by decide) f66 (fun _ h9 => h9) rfl dX4_person_58 ?_
            refine lv_iload_n hx hb dX4_person_61 rfl (lv_at hl 1 rfl) ?_
            obtain ⟨hv, hw⟩ := hw
            refine va_iast hx hb hK hP hD hS 1 0 rfl rfl hv dX4_person_62 (fun H locs hP hD hS => ?_)
            have hP : va_P D vwCl (wR cI cZ q (nI n) se li wm ch ne np al wo (upd kn (nI n).toNatClampNeg a1) sp py il fl wa bo so sd ro cp nr ti on he la) H := hP
            have hD : va_D A (wR cI cZ q (nI n) se li wm ch ne np al wo (upd kn (nI n).toNatClampNeg a1) sp py il fl wa bo so sd ro cp nr ti on he la) := hD
            refine lv_aload_n hx hb dX4_person_63 rfl (lv_at hl 0 rfl) ?_
            refine va_get (D := D) (ci := 4) (v := .ref (q 2)) (C := RX4) (T := TX4) (N := 25) hx hb hts hin4 hown hK hP 0 rfl rfl 2 (by decide) f13 (fun _ h9 => h9) rfl dX4_person_64 ?_
            refine lv_aload_n hx hb dX4_person_67 rfl (lv_at hl 0 rfl) ?_
            refine va_get (D := D) (ci := 4) (v := .int (nI n)) (C := RX4) (T := TX4) (N := 25) hx hb hts hin4 hown hK hP 0 rfl rfl 0 (by decide) f66 (fun _ h9 => h9) rfl dX4_person_68 ?_
            refine lv_iload_n hx hb dX4_person_71 rfl (lv_at hl 2 rfl) ?_
            obtain ⟨hv, hw⟩ := hw
            refine va_iast hx hb hK hP hD hS 2 0 rfl rfl hv dX4_person_72 (fun H locs hP hD hS => ?_)
            have hP : va_P D vwCl (wR cI cZ q (nI n) se li wm ch ne np al wo (upd kn (nI n).toNatClampNeg a1) (upd sp (nI n).toNatClampNeg a2) py il fl wa bo so sd ro cp nr ti on he la) H := hP
            have hD : va_D A (wR cI cZ q (nI n) se li wm ch ne np al wo (upd kn (nI n).toNatClampNeg a1) (upd sp (nI n).toNatClampNeg a2) py il fl wa bo so sd ro cp nr ti on he la) := hD
            refine lv_aload_n hx hb dX4_person_73 rfl (lv_at hl 0 rfl) ?_
            refine va_get (D := D) (ci := 4) (v := .ref (q 3)) (C := RX4) (T := TX4) (N := 25) hx hb hts hin4 hown hK hP 0 rfl rfl 3 (by decide) f16 (fun _ h9 => h9) rfl dX4_person_74 ?_
            refine lv_aload_n hx hb dX4_person_77 rfl (lv_at hl 0 rfl) ?_
            refine va_get (D := D) (ci := 4) (v := .int (nI n)) (C := RX4) (T := TX4) (N := 25) hx hb hts hin4 hown hK hP 0 rfl rfl 0 (by decide) f66 (fun _ h9 => h9) rfl dX4_person_78 ?_
            refine lv_iload_n hx hb dX4_person_81 rfl (lv_at hl 3 rfl) ?_
            obtain ⟨hv, hw⟩ := hw
            refine va_iast hx hb hK hP hD hS 3 0 rfl rfl hv dX4_person_82 (fun H locs hP hD hS => ?_)
            have hP : va_P D vwCl (wR cI cZ q (nI n) se li wm ch ne np al wo (upd kn (nI n).toNatClampNeg a1) (upd sp (nI n).toNatClampNeg a2) (upd py (nI n).toNatClampNeg a3) il fl wa bo so sd ro cp nr ti on he la) H := hP
            have hD : va_D A (wR cI cZ q (nI n) se li wm ch ne np al wo (upd kn (nI n).toNatClampNeg a1) (upd sp (nI n).toNatClampNeg a2) (upd py (nI n).toNatClampNeg a3) il fl wa bo so sd ro cp nr ti on he la) := hD
            refine lv_aload_n hx hb dX4_person_83 rfl (lv_at hl 0 rfl) ?_
            refine lv_dup hx hb dX4_person_84 rfl ?_
            refine va_get (D := D) (ci := 4) (v := .int (nI n)) (C := RX4) (T := TX4) (N := 25) hx hb hts hin4 hown hK hP 0 rfl rfl 0 (by decide) f66 (fun _ h9 => h9) rfl dX4_person_85 ?_
            refine lv_iconst (v := (1 : Int32)) hx hb dX4_person_88 (by decide) ?_
            refine lv_iadd hx hb dX4_person_89 ?_
            refine va_put (D := D) (ci := 4) (v := .int ((nI n) + (1 : Int32))) (ty := .int) (C := RX4) (T := TX4) (N := 25) hx hb hts hin4 tyX4 tyX4_ok nmX4 hown hK hP hD hS 0 rfl rfl 0 (by decide) f66 (fun _ h9 => h9) rfl (by decide +kernel) rfl rfl (Nat.le_of_ble_eq_true rfl) dX4_person_90 (fun H locs hP hD hS => ?_)
            have hP : va_P D vwCl (wR cI cZ q ((nI n) + (1 : Int32)) se li wm ch ne np al wo (upd kn (nI n).toNatClampNeg a1) (upd sp (nI n).toNatClampNeg a2) (upd py (nI n).toNatClampNeg a3) il fl wa bo so sd ro cp nr ti on he la) H := hP
            have hD : va_D A (wR cI cZ q ((nI n) + (1 : Int32)) se li wm ch ne np al wo (upd kn (nI n).toNatClampNeg a1) (upd sp (nI n).toNatClampNeg a2) (upd py (nI n).toNatClampNeg a3) il fl wa bo so sd ro cp nr ti on he la) := hD
            refine lv_aload_n hx hb dX4_person_93 rfl (lv_at hl 0 rfl) ?_
            refine va_get (D := D) (ci := 4) (v := .int ((nI n) + (1 : Int32))) (C := RX4) (T := TX4) (N := 25) hx hb hts hin4 hown hK hP 0 rfl rfl 0 (by decide) f66 (fun _ h9 => h9) rfl dX4_person_94 ?_
            refine lv_iconst (v := (1 : Int32)) hx hb dX4_person_97 (by decide) ?_
            refine lv_isub hx hb dX4_person_98 ?_
            exact hret _ ((nI n) + (1 : Int32), upd kn (nI n).toNatClampNeg a1, upd sp (nI n).toNatClampNeg a2, upd py (nI n).toNatClampNeg a3) _ _ _ _ hw rfl hP hD hS dX4_person_99
          · replace hw := hw.1 hc
            refine lv_bipush (v := (-5 : Int32)) hx hb dX4_person_50 (by decide) ?_
            exact hret _ (nI n, kn, sp, py) _ _ _ _ hw rfl hP hD hS dX4_person_52
        · replace hw := hw.1 hc
          refine lv_bipush (v := (-3 : Int32)) hx hb dX4_person_38 (by decide) ?_
          exact hret _ (nI n, kn, sp, py) _ _ _ _ hw rfl hP hD hS dX4_person_40
set_option maxHeartbeats 4000000 in
set_option maxRecDepth 100000 in
theorem c_X4_ill (l : Launch) (D : va_G) (cI cZ : ClassId) (q : Nat → Nat) (n : Nat) (se : Int32) (li : Int32) (wm : Int32) (ch : Int32) (ne : Int32) (np : Int32) (al : Int32) (wo : Int32) (kn : Nat → Int32) (sp : Nat → Int32) (py : Nat → Int32) (il : Nat → Int32) (fl : Nat → Int32) (wa : Nat → Int32) (bo : Nat → Int32) (so : Nat → Int32) (sd : Nat → Int32) (ro : Nat → Int32) (cp : Nat → Int32) (nr : Nat → Int32) (ti : Nat → Int32) (on : Nat → Int32) (he : Nat → Int32) (la : Nat → Int32) (a1 : Int32) (a2 : Int32) (hn : n ≤ 6) : MI l yX4_ill wsX4_ill ({ frames := 6, cells := 0, slots := 0, locals := 240 }) D cI cZ [.ref (q 0), .int a1, .int a2] (wR cI cZ q (nI n) se li wm ch ne np al wo kn sp py il fl wa bo so sd ro cp nr ti on he la) (fun u : (Nat → Int32) => (wR cI cZ q (nI n) se li wm ch ne np al wo kn sp py u fl wa bo so sd ro cp nr ti on he la)) (fun r u => r = (if inR a1 0 (nI n - 1) = true then (if il a1.toNatClampNeg = 0 then 0 else 1) else (-2)) ∧ u = (if inR a1 0 (nI n - 1) = true then upd il a1.toNatClampNeg (vp_nar .boolean a2) else il)) := by
  refine MI_of (cc := cX4_ill) (maxL := 4) (ty := .int) (by decide) rfl (Nat.le_of_ble_eq_true rfl) (fun p e s m args below meth c A Q hx hb hml hown hts hK hN hA hret H locs ls hl hP hD hS => ?_)
  have hown : s.vm.findClass RX4 = some m.cls := hown
  have hl : lv_has ls 4 [(0, .ref (q 0)), (1, .int a1), (2, .int a2)] := hl
  have hin4 : ∀ w ∈ u_ws RX4 TX4 25, w ∈ wsX4_ill := fun w h => List.mem_cons_of_mem _ (List.mem_append_right _ h)
  have f19 : (Cond.fieldLink RX4 19 "GlassBoothsModel" "isIll" "[Z").before args s = true := hts _ (by decide +kernel)
  have hw := h_X4_ill n se li wm ch ne np al wo kn sp py fl wa bo so sd ro cp nr ti on he la il a1 a2 hn   
  unfold v_X4_ill_0 at hw
  refine lv_aload_n hx hb dX4_ill_0 rfl (lv_at hl 0 rfl) ?_
  refine lv_iload_n hx hb dX4_ill_1 rfl (lv_at hl 1 rfl) ?_
  refine zc_i (fun u => (wR cI cZ q (nI n) se li wm ch ne np al wo kn sp py il fl wa bo so sd ro cp nr ti on he la)) [0, 1, 2, 3, 4, 5, 6, 7, 8, 9, 10, 11, 12, 13, 14, 15, 16] [] [0, 1, 2, 3, 4, 5, 6, 7, 8, 9, 10, 11, 12, 13, 14, 15, 16] (va_runV (As := [.int a1]) (rest := []) ⟨hx, hb, hml, hown, hts⟩ ((c_X4_isPerson l D cI cZ q n se li wm ch ne np al wo kn sp py il fl wa bo so sd ro cp nr ti on he la a1 hn ) H.size) (cwV 1 hts gX4_ill_X4_isPerson rfl rfl rfl (by decide +kernel) ⟨Nat.le_of_ble_eq_true rfl, Nat.le_of_ble_eq_true rfl⟩) (pv_of hK hN hP hD [0, 1, 2, 3, 4, 5, 6, 7, 8, 9, 10, 11, 12, 13, 14, 15, 16] rfl rfl 4 0 rfl rfl) rfl rfl hl.1 rfl (lv_room (Nat.le_of_ble_eq_true rfl)) dX4_ill_2 ⟨Nat.zero_le _, Nat.zero_le _⟩) hP hD hS hA rfl rfl rfl (by decide) (fun _ => rfl) rfl (fun r u H locs hu hP hD hS => ?_)
  subst hu
  have hP : va_P D vwCl (wR cI cZ q (nI n) se li wm ch ne np al wo kn sp py il fl wa bo so sd ro cp nr ti on he la) H := hP
  have hD : va_D A (wR cI cZ q (nI n) se li wm ch ne np al wo kn sp py il fl wa bo so sd ro cp nr ti on he la) := hD
  refine lv_if_ne (tgt := 11) hx hb dX4_ill_5 (by decide) (fun hc => ?_) (fun hc => ?_)
  · replace hw := hw.2 hc
    refine lv_aload_n hx hb dX4_ill_11 rfl (lv_at hl 0 rfl) ?_
    refine va_get (D := D) (ci := 4) (v := .ref (q 4)) (C := RX4) (T := TX4) (N := 25) hx hb hts hin4 hown hK hP 0 rfl rfl 4 (by decide) f19 (fun _ h9 => h9) rfl dX4_ill_12 ?_
    refine lv_iload_n hx hb dX4_ill_15 rfl (lv_at hl 1 rfl) ?_
    obtain ⟨hv, hw⟩ := hw
    refine va_zald hx hb hK hP 4 1 rfl rfl hv dX4_ill_16 ?_
    refine lv_istore_n (lv' := [(3, .int (il a1.toNatClampNeg)), (0, .ref (q 0)), (1, .int a1), (2, .int a2)]) hx hb dX4_ill_17 rfl hl (by decide) rfl (fun ls hl => ?_)
    refine lv_aload_n hx hb dX4_ill_18 rfl (lv_at hl 1 rfl) ?_
    refine va_get (D := D) (ci := 4) (v := .ref (q 4)) (C := RX4) (T := TX4) (N := 25) hx hb hts hin4 hown hK hP 0 rfl rfl 4 (by decide) f19 (fun _ h9 => h9) rfl dX4_ill_19 ?_
    refine lv_iload_n hx hb dX4_ill_22 rfl (lv_at hl 2 rfl) ?_
    refine lv_iload_n hx hb dX4_ill_23 rfl (lv_at hl 3 rfl) ?_
    obtain ⟨hv, hw⟩ := hw
    refine va_zast hx hb hK hP hD hS 4 1 rfl rfl hv dX4_ill_24 (fun H locs hP hD hS => ?_)
    have hP : va_P D vwCl (wR cI cZ q (nI n) se li wm ch ne np al wo kn sp py (upd il a1.toNatClampNeg (vp_nar .boolean a2)) fl wa bo so sd ro cp nr ti on he la) H := hP
    have hD : va_D A (wR cI cZ q (nI n) se li wm ch ne np al wo kn sp py (upd il a1.toNatClampNeg (vp_nar .boolean a2)) fl wa bo so sd ro cp nr ti on he la) := hD
    refine lv_iload_n hx hb dX4_ill_25 rfl (lv_at hl 0 rfl) ?_
    refine lv_if_eq (tgt := 33) hx hb dX4_ill_26 (by decide) (fun hc => ?_) (fun hc => ?_)
    · replace hw := hw.1 hc
      refine lv_iconst (v := (0 : Int32)) hx hb dX4_ill_33 (by decide) ?_
      exact hret _ (upd il a1.toNatClampNeg (vp_nar .boolean a2)) _ _ _ _ hw rfl hP hD hS dX4_ill_34
    · replace hw := hw.2 hc
      refine lv_iconst (v := (1 : Int32)) hx hb dX4_ill_29 (by decide) ?_
      refine lv_goto (tgt := 34) hx hb dX4_ill_30 (by decide) ?_
      exact hret _ (upd il a1.toNatClampNeg (vp_nar .boolean a2)) _ _ _ _ hw rfl hP hD hS dX4_ill_34
  · replace hw := hw.1 hc
    refine lv_bipush (v := (-2 : Int32)) hx hb dX4_ill_8 (by decide) ?_
    exact hret _ il _ _ _ _ hw rfl hP hD hS dX4_ill_10
set_option maxHeartbeats 4000000 in
set_option maxRecDepth 100000 in
theorem c_X4_session (l : Launch) (D : va_G) (cI cZ : ClassId) (q : Nat → Nat) (n : Nat) (se : Int32) (li : Int32) (wm : Int32) (ch : Int32) (ne : Int32) (np : Int32) (al : Int32) (wo : Int32) (kn : Nat → Int32) (sp : Nat → Int32) (py : Nat → Int32) (il : Nat → Int32) (fl : Nat → Int32) (wa : Nat → Int32) (bo : Nat → Int32) (so : Nat → Int32) (sd : Nat → Int32) (ro : Nat → Int32) (cp : Nat → Int32) (nr : Nat → Int32) (ti : Nat → Int32) (on : Nat → Int32) (he : Nat → Int32) (la : Nat → Int32) (a1 : Int32) (a2 : Int32) (a3 : Int32) (hn : n ≤ 6) : MI l yX4_session wsX4_session ({ frames := 6, cells := 0, slots := 0, locals := 240 }) D cI cZ [.ref (q 0), .int a1, .int a2, .int a3] (wR cI cZ q (nI n) se li wm ch ne np al wo kn sp py il fl wa bo so sd ro cp nr ti on he la) (fun u : (Nat → Int32) × (Nat → Int32) => (wR cI cZ q (nI n) se li wm ch ne np al wo kn sp py il u.1 u.2 bo so sd ro cp nr ti on he la)) (fun r u => r = (if inR a1 0 1 = true then (if (inR a2 0 31 && inR a3 0 31) = true then 1 else (-3)) else (-2)) ∧ u = ((if (inR a1 0 1 && (inR a2 0 31 && inR a3 0 31)) = true then upd fl a1.toNatClampNeg a2 else fl), (if (inR a1 0 1 && (inR a2 0 31 && inR a3 0 31)) = true then upd wa a1.toNatClampNeg a3 else wa))) := by
  refine MI_of (cc := cX4_session) (maxL := 4) (ty := .int) (by decide) rfl (Nat.le_of_ble_eq_true rfl) (fun p e s m args below meth c A Q hx hb hml hown hts hK hN hA hret H locs ls hl hP hD hS => ?_)
  have hown : s.vm.findClass RX4 = some m.cls := hown
  have hl : lv_has ls 4 [(0, .ref (q 0)), (1, .int a1), (2, .int a2), (3, .int a3)] := hl
  have hin4 : ∀ w ∈ u_ws RX4 TX4 25, w ∈ wsX4_session := fun w h => List.mem_cons_of_mem _ (List.mem_append_right _ h)
  have f23 : (Cond.fieldLink RX4 23 "GlassBoothsModel" "floors" "[I").before args s = true := hts _ (by decide +kernel)
  have f26 : (Cond.fieldLink RX4 26 "GlassBoothsModel" "wanted" "[I").before args s = true := hts _ (by decide +kernel)
  have hw := h_X4_session n se li wm ch ne np al wo kn sp py il bo so sd ro cp nr ti on he la fl wa a1 a2 a3 hn   
  unfold v_X4_session_0 at hw
  refine lv_iload_n hx hb dX4_session_0 rfl (lv_at hl 1 rfl) ?_
  refine zc_i0 (va_runS (As := [.int a1]) (rest := []) ⟨hx, hb, hml, hown, hts⟩ ((c_X4_isSession l D cI cZ a1  ) H.size) (va_cwS 1 hts gX4_session_X4_isSession rfl rfl rfl (by decide +kernel) ⟨Nat.le_of_ble_eq_true rfl, Nat.le_of_ble_eq_true rfl⟩) (ps_of hK hN hP hD [] rfl rfl) rfl rfl hl.1 rfl (lv_room (Nat.le_of_ble_eq_true rfl)) dX4_session_1 ⟨Nat.zero_le _, Nat.zero_le _⟩) hP hD hS hA (fun r u H locs hu hP hD hS => ?_)
  subst hu
  refine lv_if_ne (tgt := 10) hx hb dX4_session_4 (by decide) (fun hc => ?_) (fun hc => ?_)
  · replace hw := hw.2 hc
    refine lv_iload_n hx hb dX4_session_10 rfl (lv_at hl 2 rfl) ?_
    refine lv_iconst (v := (0 : Int32)) hx hb dX4_session_11 (by decide) ?_
    refine lv_bipush (v := (31 : Int32)) hx hb dX4_session_12 (by decide) ?_
    refine zc_i0 (va_runS (As := [.int a2, .int (0 : Int32), .int (31 : Int32)]) (rest := []) ⟨hx, hb, hml, hown, hts⟩ ((c_X4_in l D cI cZ a2 (0 : Int32) (31 : Int32)  ) H.size) (va_cwS 3 hts gX4_session_X4_in rfl rfl rfl (by decide +kernel) ⟨Nat.le_of_ble_eq_true rfl, Nat.le_of_ble_eq_true rfl⟩) (ps_of hK hN hP hD [] rfl rfl) rfl rfl hl.1 rfl (lv_room (Nat.le_of_ble_eq_true rfl)) dX4_session_14 ⟨Nat.zero_le _, Nat.zero_le _⟩) hP hD hS hA (fun r u H locs hu hP hD hS => ?_)
    subst hu
    refine lv_if_eq (tgt := 30) hx hb dX4_session_17 (by decide) (fun hc => ?_) (fun hc => ?_)
    · replace hw := hw.1 hc
      refine lv_bipush (v := (-3 : Int32)) hx hb dX4_session_30 (by decide) ?_
      exact hret _ (fl, wa) _ _ _ _ hw rfl hP hD hS dX4_session_32
    · replace hw := hw.2 hc
      refine lv_iload_n hx hb dX4_session_20 rfl (lv_at hl 3 rfl) ?_
      refine lv_iconst (v := (0 : Int32)) hx hb dX4_session_21 (by decide) ?_
      refine lv_bipush (v := (31 : Int32)) hx hb dX4_session_22 (by decide) ?_
      refine zc_i0 (va_runS (As := [.int a3, .int (0 : Int32), .int (31 : Int32)]) (rest := []) ⟨hx, hb, hml, hown, hts⟩ ((c_X4_in l D cI cZ a3 (0 : Int32) (31 : Int32)  ) H.size) (va_cwS 3 hts gX4_session_X4_in rfl rfl rfl (by decide +kernel) ⟨Nat.le_of_ble_eq_true rfl, Nat.le_of_ble_eq_true rfl⟩) (ps_of hK hN hP hD [] rfl rfl) rfl rfl hl.1 rfl (lv_room (Nat.le_of_ble_eq_true rfl)) dX4_session_24 ⟨Nat.zero_le _, Nat.zero_le _⟩) hP hD hS hA (fun r u H locs hu hP hD hS => ?_)
      subst hu
      refine lv_if_ne (tgt := 33) hx hb dX4_session_27 (by decide) (fun hc => ?_) (fun hc => ?_)
      · replace hw := hw.2 hc
        refine lv_aload_n hx hb dX4_session_33 rfl (lv_at hl 0 rfl) ?_
        refine va_get (D := D) (ci := 4) (v := .ref (q 5)) (C := RX4) (T := TX4) (N := 25) hx hb hts hin4 hown hK hP 0 rfl rfl 5 (by decide) f23 (fun _ h9 => h9) rfl dX4_session_34 ?_
        refine lv_iload_n hx hb dX4_session_37 rfl (lv_at hl 1 rfl) ?_
        refine lv_iload_n hx hb dX4_session_38 rfl (lv_at hl 2 rfl) ?_
        obtain ⟨hv, hw⟩ := hw
        refine va_iast hx hb hK hP hD hS 5 0 rfl rfl hv dX4_session_39 (fun H locs hP hD hS => ?_)
        have hP : va_P D vwCl (wR cI cZ q (nI n) se li wm ch ne np al wo kn sp py il (upd fl a1.toNatClampNeg a2) wa bo so sd ro cp nr ti on he la) H := hP
        have hD : va_D A (wR cI cZ q (nI n) se li wm ch ne np al wo kn sp py il (upd fl a1.toNatClampNeg a2) wa bo so sd ro cp nr ti on he la) := hD
        refine lv_aload_n hx hb dX4_session_40 rfl (lv_at hl 0 rfl) ?_
        refine va_get (D := D) (ci := 4) (v := .ref (q 6)) (C := RX4) (T := TX4) (N := 25) hx hb hts hin4 hown hK hP 0 rfl rfl 6 (by decide) f26 (fun _ h9 => h9) rfl dX4_session_41 ?_
        refine lv_iload_n hx hb dX4_session_44 rfl (lv_at hl 1 rfl) ?_
        refine lv_iload_n hx hb dX4_session_45 rfl (lv_at hl 3 rfl) ?_
        obtain ⟨hv, hw⟩ := hw
        refine va_iast hx hb hK hP hD hS 6 0 rfl rfl hv dX4_session_46 (fun H locs hP hD hS => ?_)
        have hP : va_P D vwCl (wR cI cZ q (nI n) se li wm ch ne np al wo kn sp py il (upd fl a1.toNatClampNeg a2) (upd wa a1.toNatClampNeg a3) bo so sd ro cp nr ti on he la) H := hP
        have hD : va_D A (wR cI cZ q (nI n) se li wm ch ne np al wo kn sp py il (upd fl a1.toNatClampNeg a2) (upd wa a1.toNatClampNeg a3) bo so sd ro cp nr ti on he la) := hD
        refine lv_iconst (v := (1 : Int32)) hx hb dX4_session_47 (by decide) ?_
        exact hret _ (upd fl a1.toNatClampNeg a2, upd wa a1.toNatClampNeg a3) _ _ _ _ hw rfl hP hD hS dX4_session_48
      · replace hw := hw.1 hc
        refine lv_bipush (v := (-3 : Int32)) hx hb dX4_session_30 (by decide) ?_
        exact hret _ (fl, wa) _ _ _ _ hw rfl hP hD hS dX4_session_32
  · replace hw := hw.1 hc
    refine lv_bipush (v := (-2 : Int32)) hx hb dX4_session_7 (by decide) ?_
    exact hret _ (fl, wa) _ _ _ _ hw rfl hP hD hS dX4_session_9
set_option maxHeartbeats 4000000 in
set_option maxRecDepth 100000 in
theorem c_X4_seats (l : Launch) (D : va_G) (cI cZ : ClassId) (q : Nat → Nat) (n : Nat) (se : Int32) (li : Int32) (wm : Int32) (ch : Int32) (ne : Int32) (np : Int32) (al : Int32) (wo : Int32) (kn : Nat → Int32) (sp : Nat → Int32) (py : Nat → Int32) (il : Nat → Int32) (fl : Nat → Int32) (wa : Nat → Int32) (bo : Nat → Int32) (so : Nat → Int32) (sd : Nat → Int32) (ro : Nat → Int32) (cp : Nat → Int32) (nr : Nat → Int32) (ti : Nat → Int32) (on : Nat → Int32) (he : Nat → Int32) (la : Nat → Int32) (a1 : Int32) (hn : n ≤ 6) : MI l yX4_seats wsX4_seats ({ frames := 4, cells := 0, slots := 0, locals := 160 }) D cI cZ [.ref (q 0), .int a1] (wR cI cZ q (nI n) se li wm ch ne np al wo kn sp py il fl wa bo so sd ro cp nr ti on he la) (fun u : Int32 => (wR cI cZ q (nI n) u li wm ch ne np al wo kn sp py il fl wa bo so sd ro cp nr ti on he la)) (fun r u => r = (if inR a1 1 2 = true then se else (-3)) ∧ u = (if inR a1 1 2 = true then a1 else se)) := by
  refine MI_of (cc := cX4_seats) (maxL := 3) (ty := .int) (by decide) rfl (Nat.le_of_ble_eq_true rfl) (fun p e s m args below meth c A Q hx hb hml hown hts hK hN hA hret H locs ls hl hP hD hS => ?_)
  have hown : s.vm.findClass RX4 = some m.cls := hown
  have hl : lv_has ls 3 [(0, .ref (q 0)), (1, .int a1)] := hl
  have hin4 : ∀ w ∈ u_ws RX4 TX4 25, w ∈ wsX4_seats := fun w h => List.mem_cons_of_mem _ (List.mem_append_right _ h)
  have f29 : (Cond.fieldLink RX4 29 "GlassBoothsModel" "seats" "I").before args s = true := hts _ (by decide +kernel)
  have hw := h_X4_seats n li wm ch ne np al wo kn sp py il fl wa bo so sd ro cp nr ti on he la se a1 hn   
  unfold v_X4_seats_0 at hw
  refine lv_iload_n hx hb dX4_seats_0 rfl (lv_at hl 1 rfl) ?_
  refine lv_iconst (v := (1 : Int32)) hx hb dX4_seats_1 (by decide) ?_
  refine lv_iconst (v := (2 : Int32)) hx hb dX4_seats_2 (by decide) ?_
  refine zc_i0 (va_runS (As := [.int a1, .int (1 : Int32), .int (2 : Int32)]) (rest := []) ⟨hx, hb, hml, hown, hts⟩ ((c_X4_in l D cI cZ a1 (1 : Int32) (2 : Int32)  ) H.size) (va_cwS 3 hts gX4_seats_X4_in rfl rfl rfl (by decide +kernel) ⟨Nat.le_of_ble_eq_true rfl, Nat.le_of_ble_eq_true rfl⟩) (ps_of hK hN hP hD [] rfl rfl) rfl rfl hl.1 rfl (lv_room (Nat.le_of_ble_eq_true rfl)) dX4_seats_3 ⟨Nat.zero_le _, Nat.zero_le _⟩) hP hD hS hA (fun r u H locs hu hP hD hS => ?_)
  subst hu
  refine lv_if_ne (tgt := 12) hx hb dX4_seats_6 (by decide) (fun hc => ?_) (fun hc => ?_)
  · replace hw := hw.2 hc
    refine lv_aload_n hx hb dX4_seats_12 rfl (lv_at hl 0 rfl) ?_
    refine va_get (D := D) (ci := 4) (v := .int se) (C := RX4) (T := TX4) (N := 25) hx hb hts hin4 hown hK hP 0 rfl rfl 7 (by decide) f29 (fun _ h9 => h9) rfl dX4_seats_13 ?_
    refine lv_istore_n (lv' := [(2, .int se), (0, .ref (q 0)), (1, .int a1)]) hx hb dX4_seats_16 rfl hl (by decide) rfl (fun ls hl => ?_)
    refine lv_aload_n hx hb dX4_seats_17 rfl (lv_at hl 1 rfl) ?_
    refine lv_iload_n hx hb dX4_seats_18 rfl (lv_at hl 2 rfl) ?_
    refine va_put (D := D) (ci := 4) (v := .int a1) (ty := .int) (C := RX4) (T := TX4) (N := 25) hx hb hts hin4 tyX4 tyX4_ok nmX4 hown hK hP hD hS 0 rfl rfl 7 (by decide) f29 (fun _ h9 => h9) rfl (by decide +kernel) rfl rfl (Nat.le_of_ble_eq_true rfl) dX4_seats_19 (fun H locs hP hD hS => ?_)
    have hP : va_P D vwCl (wR cI cZ q (nI n) a1 li wm ch ne np al wo kn sp py il fl wa bo so sd ro cp nr ti on he la) H := hP
    have hD : va_D A (wR cI cZ q (nI n) a1 li wm ch ne np al wo kn sp py il fl wa bo so sd ro cp nr ti on he la) := hD
    refine lv_iload_n hx hb dX4_seats_22 rfl (lv_at hl 0 rfl) ?_
    exact hret _ a1 _ _ _ _ hw rfl hP hD hS dX4_seats_23
  · replace hw := hw.1 hc
    refine lv_bipush (v := (-3 : Int32)) hx hb dX4_seats_9 (by decide) ?_
    exact hret _ se _ _ _ _ hw rfl hP hD hS dX4_seats_11
set_option maxHeartbeats 4000000 in
set_option maxRecDepth 100000 in
theorem c_X4_isTeam (l : Launch) (D : va_G) (cI cZ : ClassId) (q : Nat → Nat) (n : Nat) (se : Int32) (li : Int32) (wm : Int32) (ch : Int32) (ne : Int32) (np : Int32) (al : Int32) (wo : Int32) (kn : Nat → Int32) (sp : Nat → Int32) (py : Nat → Int32) (il : Nat → Int32) (fl : Nat → Int32) (wa : Nat → Int32) (bo : Nat → Int32) (so : Nat → Int32) (sd : Nat → Int32) (ro : Nat → Int32) (cp : Nat → Int32) (nr : Nat → Int32) (ti : Nat → Int32) (on : Nat → Int32) (he : Nat → Int32) (la : Nat → Int32) (a1 : Int32) (hn : n ≤ 6) (h0 : inB a1 2 = true) : MI l yX4_isTeam wsX4_isTeam ({ frames := 4, cells := 0, slots := 0, locals := 160 }) D cI cZ [.ref (q 0), .int a1] (wR cI cZ q (nI n) se li wm ch ne np al wo kn sp py il fl wa bo so sd ro cp nr ti on he la) (fun _ : Unit => (wR cI cZ q (nI n) se li wm ch ne np al wo kn sp py il fl wa bo so sd ro cp nr ti on he la)) (fun r _ => r = bI (itF n sp il (wa a1.toNatClampNeg) se ro)) := by
  refine MI_of (cc := cX4_isTeam) (maxL := 6) (ty := .boolean) (by decide) rfl (Nat.le_of_ble_eq_true rfl) (fun p e s m args below meth c A Q hx hb hml hown hts hK hN hA hret H locs ls hl hP hD hS => ?_)
  have hown : s.vm.findClass RX4 = some m.cls := hown
  have hl : lv_has ls 6 [(0, .ref (q 0)), (1, .int a1)] := hl
  have hin4 : ∀ w ∈ u_ws RX4 TX4 25, w ∈ wsX4_isTeam := fun w h => List.mem_cons_of_mem _ (List.mem_append_right _ h)
  have f66 : (Cond.fieldLink RX4 66 "GlassBoothsModel" "people" "I").before args s = true := hts _ (by decide +kernel)
  have f45 : (Cond.fieldLink RX4 45 "GlassBoothsModel" "row" "[I").before args s = true := hts _ (by decide +kernel)
  have f26 : (Cond.fieldLink RX4 26 "GlassBoothsModel" "wanted" "[I").before args s = true := hts _ (by decide +kernel)
  have f13 : (Cond.fieldLink RX4 13 "GlassBoothsModel" "speaks" "[I").before args s = true := hts _ (by decide +kernel)
  have f19 : (Cond.fieldLink RX4 19 "GlassBoothsModel" "isIll" "[Z").before args s = true := hts _ (by decide +kernel)
  have f29 : (Cond.fieldLink RX4 29 "GlassBoothsModel" "seats" "I").before args s = true := hts _ (by decide +kernel)
  obtain ⟨K4, k4i, k4e⟩ := ex_K3 (fun (x1 : Int32) (x2 : Int32) (x3 : Int32) => ∀ (H : Heap) (locs : List Loc) (ls : Array Slot), lv_has ls 6 [(0, .ref (q 0)), (1, .int x1), (2, .int x2), (3, .int x3)] → va_P D vwCl (wR cI cZ q (nI n) se li wm ch ne np al wo kn sp py il fl wa bo so sd ro cp nr ti on he la) H → va_D A (wR cI cZ q (nI n) se li wm ch ne np al wo kn sp py il fl wa bo so sd ro cp nr ti on he la) → va_S A s.heap H locs → W p l e (headSpec wsX4_isTeam ({ frames := 4, cells := 0, slots := 0, locals := 160 })).room s m args below meth c H locs 0 0 Q (F0 m 4 ls []))
  obtain ⟨K85, k85i, k85e⟩ := ex_K3 (fun (x1 : Int32) (x2 : Int32) (x3 : Int32) => ∀ (H : Heap) (locs : List Loc) (ls : Array Slot), lv_has ls 6 [(0, .ref (q 0)), (1, .int x1), (2, .int x2), (3, .int x3)] → va_P D vwCl (wR cI cZ q (nI n) se li wm ch ne np al wo kn sp py il fl wa bo so sd ro cp nr ti on he la) H → va_D A (wR cI cZ q (nI n) se li wm ch ne np al wo kn sp py il fl wa bo so sd ro cp nr ti on he la) → va_S A s.heap H locs → W p l e (headSpec wsX4_isTeam ({ frames := 4, cells := 0, slots := 0, locals := 160 })).room s m args below meth c H locs 0 0 Q (F0 m 85 ls []))
  obtain ⟨K100, k100i, k100e⟩ := ex_K4 (fun (x1 : Int32) (x3 : Int32) (x4 : Int32) (x5 : Int32) => ∀ (H : Heap) (locs : List Loc) (ls : Array Slot), lv_has ls 6 [(0, .ref (q 0)), (1, .int x1), (3, .int x3), (4, .int x4), (5, .int x5)] → va_P D vwCl (wR cI cZ q (nI n) se li wm ch ne np al wo kn sp py il fl wa bo so sd ro cp nr ti on he la) H → va_D A (wR cI cZ q (nI n) se li wm ch ne np al wo kn sp py il fl wa bo so sd ro cp nr ti on he la) → va_S A s.heap H locs → W p l e (headSpec wsX4_isTeam ({ frames := 4, cells := 0, slots := 0, locals := 160 })).room s m args below meth c H locs 0 0 Q (F0 m 100 ls []))
  have J76 : ∀ x1 x3 s0, v_X4_isTeam_76 n se li wm ch ne np al wo kn sp py il fl wa bo so sd ro cp nr ti on he la (fun r _ => r = bI (itF n sp il (wa a1.toNatClampNeg) se ro)) K4 K85 K100 x1 x3 s0 → ∀ (H : Heap) (locs : List Loc) (ls : Array Slot), lv_has ls 6 [(0, .ref (q 0)), (1, .int x1), (3, .int x3)] → va_P D vwCl (wR cI cZ q (nI n) se li wm ch ne np al wo kn sp py il fl wa bo so sd ro cp nr ti on he la) H → va_D A (wR cI cZ q (nI n) se li wm ch ne np al wo kn sp py il fl wa bo so sd ro cp nr ti on he la) → va_S A s.heap H locs → W p l e (headSpec wsX4_isTeam ({ frames := 4, cells := 0, slots := 0, locals := 160 })).room s m args below meth c H locs 0 0 Q (F0 m 76 ls [.int s0]) := by
    intro x1 x3 s0 hw
    intro H locs ls hl hP hD hS
    unfold v_X4_isTeam_76 at hw
    refine lv_istore_n (lv' := [(2, .int s0), (0, .ref (q 0)), (1, .int x1), (3, .int x3)]) hx hb dX4_isTeam_76 rfl hl (by decide) rfl (fun ls hl => ?_)
    refine lv_iinc (v := x3 + 1) (lv' := [(3, .int (x3 + 1)), (2, .int s0), (0, .ref (q 0)), (1, .int x1)]) hx hb dX4_isTeam_77 hl (k := 3) rfl rfl (by decide) rfl (fun ls hl => ?_)
    refine lv_goto (tgt := 4) hx hb dX4_isTeam_80 (by decide) ?_
    exact k4e _ _ _ hw _ _ _ (lv_sub hl [2, 3, 1, 0] rfl) hP hD hS
  have J71 : ∀ x1 x3, v_X4_isTeam_71 n se li wm ch ne np al wo kn sp py il fl wa bo so sd ro cp nr ti on he la (fun r _ => r = bI (itF n sp il (wa a1.toNatClampNeg) se ro)) K4 K85 K100 x1 x3 → ∀ (H : Heap) (locs : List Loc) (ls : Array Slot), lv_has ls 6 [(0, .ref (q 0)), (1, .int x1), (3, .int x3)] → va_P D vwCl (wR cI cZ q (nI n) se li wm ch ne np al wo kn sp py il fl wa bo so sd ro cp nr ti on he la) H → va_D A (wR cI cZ q (nI n) se li wm ch ne np al wo kn sp py il fl wa bo so sd ro cp nr ti on he la) → va_S A s.heap H locs → W p l e (headSpec wsX4_isTeam ({ frames := 4, cells := 0, slots := 0, locals := 160 })).room s m args below meth c H locs 0 0 Q (F0 m 71 ls []) := by
    intro x1 x3 hw
    intro H locs ls hl hP hD hS
    unfold v_X4_isTeam_71 at hw
    refine lv_iconst (v := (1 : Int32)) hx hb dX4_isTeam_71 (by decide) ?_
    refine lv_goto (tgt := 76) hx hb dX4_isTeam_72 (by decide) ?_
    exact J76 _ _ _ hw _ _ _ (lv_sub hl [0, 1, 2] rfl) hP hD hS
  have J75 : ∀ x1 x3, v_X4_isTeam_75 n se li wm ch ne np al wo kn sp py il fl wa bo so sd ro cp nr ti on he la (fun r _ => r = bI (itF n sp il (wa a1.toNatClampNeg) se ro)) K4 K85 K100 x1 x3 → ∀ (H : Heap) (locs : List Loc) (ls : Array Slot), lv_has ls 6 [(0, .ref (q 0)), (1, .int x1), (3, .int x3)] → va_P D vwCl (wR cI cZ q (nI n) se li wm ch ne np al wo kn sp py il fl wa bo so sd ro cp nr ti on he la) H → va_D A (wR cI cZ q (nI n) se li wm ch ne np al wo kn sp py il fl wa bo so sd ro cp nr ti on he la) → va_S A s.heap H locs → W p l e (headSpec wsX4_isTeam ({ frames := 4, cells := 0, slots := 0, locals := 160 })).room s m args below meth c H locs 0 0 Q (F0 m 75 ls []) := by
    intro x1 x3 hw
    intro H locs ls hl hP hD hS
    unfold v_X4_isTeam_75 at hw
    refine lv_iconst (v := (0 : Int32)) hx hb dX4_isTeam_75 (by decide) ?_
    exact J76 _ _ _ hw _ _ _ (lv_sub hl [0, 1, 2] rfl) hP hD hS
  have J83 : ∀ x1 x2, v_X4_isTeam_83 n se li wm ch ne np al wo kn sp py il fl wa bo so sd ro cp nr ti on he la (fun r _ => r = bI (itF n sp il (wa a1.toNatClampNeg) se ro)) K4 K85 K100 x1 x2 → ∀ (H : Heap) (locs : List Loc) (ls : Array Slot), lv_has ls 6 [(0, .ref (q 0)), (1, .int x1), (2, .int x2)] → va_P D vwCl (wR cI cZ q (nI n) se li wm ch ne np al wo kn sp py il fl wa bo so sd ro cp nr ti on he la) H → va_D A (wR cI cZ q (nI n) se li wm ch ne np al wo kn sp py il fl wa bo so sd ro cp nr ti on he la) → va_S A s.heap H locs → W p l e (headSpec wsX4_isTeam ({ frames := 4, cells := 0, slots := 0, locals := 160 })).room s m args below meth c H locs 0 0 Q (F0 m 83 ls []) := by
    intro x1 x2 hw
    intro H locs ls hl hP hD hS
    unfold v_X4_isTeam_83 at hw
    refine lv_iconst (v := (0 : Int32)) hx hb dX4_isTeam_83 (by decide) ?_
    refine lv_istore_n (lv' := [(3, .int (0 : Int32)), (0, .ref (q 0)), (1, .int x1), (2, .int x2)]) hx hb dX4_isTeam_84 rfl hl (by decide) rfl (fun ls hl => ?_)
    exact k85e _ _ _ hw _ _ _ (lv_sub hl [1, 2, 3, 0] rfl) hP hD hS
  have R4 : ∀ x1 x2 x3, v_X4_isTeam_4 n se li wm ch ne np al wo kn sp py il fl wa bo so sd ro cp nr ti on he la (fun r _ => r = bI (itF n sp il (wa a1.toNatClampNeg) se ro)) K4 K85 K100 x1 x2 x3 → K4 x1 x2 x3 := by
    intro x1 x2 x3 hw
    refine k4i _ _ _ ?_
    intro H locs ls hl hP hD hS
    unfold v_X4_isTeam_4 at hw
    refine lv_iload_n hx hb dX4_isTeam_4 rfl (lv_at hl 3 rfl) ?_
    refine lv_aload_n hx hb dX4_isTeam_5 rfl (lv_at hl 0 rfl) ?_
    refine va_get (D := D) (ci := 4) (v := .int (nI n)) (C := RX4) (T := TX4) (N := 25) hx hb hts hin4 hown hK hP 0 rfl rfl 0 (by decide) f66 (fun _ h9 => h9) rfl dX4_isTeam_6 ?_
    refine lv_icmp_ge (tgt := 83) hx hb dX4_isTeam_9 (by decide) (fun hc => ?_) (fun hc => ?_)
    · replace hw := hw.1 hc
      exact J83 _ _ hw _ _ _ (lv_sub hl [0, 1, 2] rfl) hP hD hS
    · replace hw := hw.2 hc
      refine lv_iload_n hx hb dX4_isTeam_12 rfl (lv_at hl 2 rfl) ?_
      refine lv_if_eq (tgt := 83) hx hb dX4_isTeam_13 (by decide) (fun hc => ?_) (fun hc => ?_)
      · replace hw := hw.1 hc
        exact J83 _ _ hw _ _ _ (lv_sub hl [0, 1, 2] rfl) hP hD hS
      · replace hw := hw.2 hc
        refine lv_aload_n hx hb dX4_isTeam_16 rfl (lv_at hl 0 rfl) ?_
        refine va_get (D := D) (ci := 4) (v := .ref (q 10)) (C := RX4) (T := TX4) (N := 25) hx hb hts hin4 hown hK hP 0 rfl rfl 12 (by decide) f45 (fun _ h9 => h9) rfl dX4_isTeam_17 ?_
        refine lv_iload_n hx hb dX4_isTeam_20 rfl (lv_at hl 3 rfl) ?_
        obtain ⟨hv, hw⟩ := hw
        refine va_iald hx hb hK hP 10 0 rfl rfl hv dX4_isTeam_21 ?_
        refine lv_iconst (v := (5 : Int32)) hx hb dX4_isTeam_22 (by decide) ?_
        refine lv_icmp_eq (tgt := 71) hx hb dX4_isTeam_23 (by decide) (fun hc => ?_) (fun hc => ?_)
        · replace hw := hw.1 hc
          exact J71 _ _ hw _ _ _ (lv_sub hl [0, 1, 3] rfl) hP hD hS
        · replace hw := hw.2 hc
          refine lv_aload_n hx hb dX4_isTeam_26 rfl (lv_at hl 0 rfl) ?_
          refine va_get (D := D) (ci := 4) (v := .ref (q 6)) (C := RX4) (T := TX4) (N := 25) hx hb hts hin4 hown hK hP 0 rfl rfl 6 (by decide) f26 (fun _ h9 => h9) rfl dX4_isTeam_27 ?_
          refine lv_iload_n hx hb dX4_isTeam_30 rfl (lv_at hl 1 rfl) ?_
          obtain ⟨hv, hw⟩ := hw
          refine va_iald hx hb hK hP 6 0 rfl rfl hv dX4_isTeam_31 ?_
          refine lv_aload_n hx hb dX4_isTeam_32 rfl (lv_at hl 0 rfl) ?_
          refine va_get (D := D) (ci := 4) (v := .ref (q 10)) (C := RX4) (T := TX4) (N := 25) hx hb hts hin4 hown hK hP 0 rfl rfl 12 (by decide) f45 (fun _ h9 => h9) rfl dX4_isTeam_33 ?_
          refine lv_iload_n hx hb dX4_isTeam_36 rfl (lv_at hl 3 rfl) ?_
          obtain ⟨hv, hw⟩ := hw
          refine va_iald hx hb hK hP 10 0 rfl rfl hv dX4_isTeam_37 ?_
          refine zc_i0 (va_runS (As := [.int (wa x1.toNatClampNeg), .int (ro x3.toNatClampNeg)]) (rest := []) ⟨hx, hb, hml, hown, hts⟩ ((c_X4_has l D cI cZ (wa x1.toNatClampNeg) (ro x3.toNatClampNeg)  ) H.size) (va_cwS 2 hts gX4_isTeam_X4_has rfl rfl rfl (by decide +kernel) ⟨Nat.le_of_ble_eq_true rfl, Nat.le_of_ble_eq_true rfl⟩) (ps_of hK hN hP hD [] rfl rfl) rfl rfl hl.1 rfl (lv_room (Nat.le_of_ble_eq_true rfl)) dX4_isTeam_38 ⟨Nat.zero_le _, Nat.zero_le _⟩) hP hD hS hA (fun r u H locs hu hP hD hS => ?_)
          subst hu
          refine lv_if_eq (tgt := 75) hx hb dX4_isTeam_41 (by decide) (fun hc => ?_) (fun hc => ?_)
          · replace hw := hw.1 hc
            exact J75 _ _ hw _ _ _ (lv_sub hl [0, 1, 3] rfl) hP hD hS
          · replace hw := hw.2 hc
            refine lv_aload_n hx hb dX4_isTeam_44 rfl (lv_at hl 0 rfl) ?_
            refine va_get (D := D) (ci := 4) (v := .ref (q 2)) (C := RX4) (T := TX4) (N := 25) hx hb hts hin4 hown hK hP 0 rfl rfl 2 (by decide) f13 (fun _ h9 => h9) rfl dX4_isTeam_45 ?_
            refine lv_iload_n hx hb dX4_isTeam_48 rfl (lv_at hl 3 rfl) ?_
            obtain ⟨hv, hw⟩ := hw
            refine va_iald hx hb hK hP 2 0 rfl rfl hv dX4_isTeam_49 ?_
            refine lv_aload_n hx hb dX4_isTeam_50 rfl (lv_at hl 0 rfl) ?_
            refine va_get (D := D) (ci := 4) (v := .ref (q 10)) (C := RX4) (T := TX4) (N := 25) hx hb hts hin4 hown hK hP 0 rfl rfl 12 (by decide) f45 (fun _ h9 => h9) rfl dX4_isTeam_51 ?_
            refine lv_iload_n hx hb dX4_isTeam_54 rfl (lv_at hl 3 rfl) ?_
            obtain ⟨hv, hw⟩ := hw
            refine va_iald hx hb hK hP 10 0 rfl rfl hv dX4_isTeam_55 ?_
            refine zc_i0 (va_runS (As := [.int (sp x3.toNatClampNeg), .int (ro x3.toNatClampNeg)]) (rest := []) ⟨hx, hb, hml, hown, hts⟩ ((c_X4_has l D cI cZ (sp x3.toNatClampNeg) (ro x3.toNatClampNeg)  ) H.size) (va_cwS 2 hts gX4_isTeam_X4_has rfl rfl rfl (by decide +kernel) ⟨Nat.le_of_ble_eq_true rfl, Nat.le_of_ble_eq_true rfl⟩) (ps_of hK hN hP hD [] rfl rfl) rfl rfl hl.1 rfl (lv_room (Nat.le_of_ble_eq_true rfl)) dX4_isTeam_56 ⟨Nat.zero_le _, Nat.zero_le _⟩) hP hD hS hA (fun r u H locs hu hP hD hS => ?_)
            subst hu
            refine lv_if_eq (tgt := 75) hx hb dX4_isTeam_59 (by decide) (fun hc => ?_) (fun hc => ?_)
            · replace hw := hw.1 hc
              exact J75 _ _ hw _ _ _ (lv_sub hl [0, 1, 3] rfl) hP hD hS
            · replace hw := hw.2 hc
              refine lv_aload_n hx hb dX4_isTeam_62 rfl (lv_at hl 0 rfl) ?_
              refine va_get (D := D) (ci := 4) (v := .ref (q 4)) (C := RX4) (T := TX4) (N := 25) hx hb hts hin4 hown hK hP 0 rfl rfl 4 (by decide) f19 (fun _ h9 => h9) rfl dX4_isTeam_63 ?_
              refine lv_iload_n hx hb dX4_isTeam_66 rfl (lv_at hl 3 rfl) ?_
              obtain ⟨hv, hw⟩ := hw
              refine va_zald hx hb hK hP 4 1 rfl rfl hv dX4_isTeam_67 ?_
              refine lv_if_ne (tgt := 75) hx hb dX4_isTeam_68 (by decide) (fun hc => ?_) (fun hc => ?_)
              · replace hw := hw.2 hc
                exact J75 _ _ hw _ _ _ (lv_sub hl [0, 1, 3] rfl) hP hD hS
              · replace hw := hw.1 hc
                exact J71 _ _ hw _ _ _ (lv_sub hl [0, 1, 3] rfl) hP hD hS
  have R85 : ∀ x1 x2 x3, v_X4_isTeam_85 n se li wm ch ne np al wo kn sp py il fl wa bo so sd ro cp nr ti on he la (fun r _ => r = bI (itF n sp il (wa a1.toNatClampNeg) se ro)) K4 K85 K100 x1 x2 x3 → K85 x1 x2 x3 := by
    intro x1 x2 x3 hw
    refine k85i _ _ _ ?_
    intro H locs ls hl hP hD hS
    unfold v_X4_isTeam_85 at hw
    refine lv_iload_n hx hb dX4_isTeam_85 rfl (lv_at hl 3 rfl) ?_
    refine lv_iconst (v := (5 : Int32)) hx hb dX4_isTeam_86 (by decide) ?_
    refine lv_icmp_ge (tgt := 170) hx hb dX4_isTeam_87 (by decide) (fun hc => ?_) (fun hc => ?_)
    · replace hw := hw.1 hc
      refine lv_iload_n hx hb dX4_isTeam_170 rfl (lv_at hl 2 rfl) ?_
      exact hret _ () _ _ _ _ hw.2 hw.1 hP hD hS dX4_isTeam_171
    · replace hw := hw.2 hc
      refine lv_iload_n hx hb dX4_isTeam_90 rfl (lv_at hl 2 rfl) ?_
      refine lv_if_eq (tgt := 170) hx hb dX4_isTeam_91 (by decide) (fun hc => ?_) (fun hc => ?_)
      · replace hw := hw.1 hc
        refine lv_iload_n hx hb dX4_isTeam_170 rfl (lv_at hl 2 rfl) ?_
        exact hret _ () _ _ _ _ hw.2 hw.1 hP hD hS dX4_isTeam_171
      · replace hw := hw.2 hc
        refine lv_iconst (v := (0 : Int32)) hx hb dX4_isTeam_94 (by decide) ?_
        refine lv_istore (lv' := [(4, .int (0 : Int32)), (0, .ref (q 0)), (1, .int x1), (2, .int x2), (3, .int x3)]) hx hb dX4_isTeam_95 hl (by decide) rfl (fun ls hl => ?_)
        refine lv_iconst (v := (0 : Int32)) hx hb dX4_isTeam_97 (by decide) ?_
        refine lv_istore (lv' := [(5, .int (0 : Int32)), (4, .int (0 : Int32)), (0, .ref (q 0)), (1, .int x1), (2, .int x2), (3, .int x3)]) hx hb dX4_isTeam_98 hl (by decide) rfl (fun ls hl => ?_)
        exact k100e _ _ _ _ hw _ _ _ (lv_sub hl [2, 3, 5, 1, 0] rfl) hP hD hS
  have J127 : ∀ x1 x3 x5 s0 s1, v_X4_isTeam_127 n se li wm ch ne np al wo kn sp py il fl wa bo so sd ro cp nr ti on he la (fun r _ => r = bI (itF n sp il (wa a1.toNatClampNeg) se ro)) K4 K85 K100 x1 x3 x5 s0 s1 → ∀ (H : Heap) (locs : List Loc) (ls : Array Slot), lv_has ls 6 [(0, .ref (q 0)), (1, .int x1), (3, .int x3), (5, .int x5)] → va_P D vwCl (wR cI cZ q (nI n) se li wm ch ne np al wo kn sp py il fl wa bo so sd ro cp nr ti on he la) H → va_D A (wR cI cZ q (nI n) se li wm ch ne np al wo kn sp py il fl wa bo so sd ro cp nr ti on he la) → va_S A s.heap H locs → W p l e (headSpec wsX4_isTeam ({ frames := 4, cells := 0, slots := 0, locals := 160 })).room s m args below meth c H locs 0 0 Q (F0 m 127 ls [.int s0, .int s1]) := by
    intro x1 x3 x5 s0 s1 hw
    intro H locs ls hl hP hD hS
    unfold v_X4_isTeam_127 at hw
    refine lv_iadd hx hb dX4_isTeam_127 ?_
    refine lv_istore (lv' := [(4, .int (s1 + s0)), (0, .ref (q 0)), (1, .int x1), (3, .int x3), (5, .int x5)]) hx hb dX4_isTeam_128 hl (by decide) rfl (fun ls hl => ?_)
    refine lv_iinc (v := x5 + 1) (lv' := [(5, .int (x5 + 1)), (4, .int (s1 + s0)), (0, .ref (q 0)), (1, .int x1), (3, .int x3)]) hx hb dX4_isTeam_130 hl (k := 4) rfl rfl (by decide) rfl (fun ls hl => ?_)
    refine lv_goto (tgt := 100) hx hb dX4_isTeam_133 (by decide) ?_
    exact k100e _ _ _ _ hw _ _ _ (lv_sub hl [2, 3, 4, 1, 0] rfl) hP hD hS
  have J163 : ∀ x1 x3 s0, v_X4_isTeam_163 n se li wm ch ne np al wo kn sp py il fl wa bo so sd ro cp nr ti on he la (fun r _ => r = bI (itF n sp il (wa a1.toNatClampNeg) se ro)) K4 K85 K100 x1 x3 s0 → ∀ (H : Heap) (locs : List Loc) (ls : Array Slot), lv_has ls 6 [(0, .ref (q 0)), (1, .int x1), (3, .int x3)] → va_P D vwCl (wR cI cZ q (nI n) se li wm ch ne np al wo kn sp py il fl wa bo so sd ro cp nr ti on he la) H → va_D A (wR cI cZ q (nI n) se li wm ch ne np al wo kn sp py il fl wa bo so sd ro cp nr ti on he la) → va_S A s.heap H locs → W p l e (headSpec wsX4_isTeam ({ frames := 4, cells := 0, slots := 0, locals := 160 })).room s m args below meth c H locs 0 0 Q (F0 m 163 ls [.int s0]) := by
    intro x1 x3 s0 hw
    intro H locs ls hl hP hD hS
    unfold v_X4_isTeam_163 at hw
    refine lv_istore_n (lv' := [(2, .int s0), (0, .ref (q 0)), (1, .int x1), (3, .int x3)]) hx hb dX4_isTeam_163 rfl hl (by decide) rfl (fun ls hl => ?_)
    refine lv_iinc (v := x3 + 1) (lv' := [(3, .int (x3 + 1)), (2, .int s0), (0, .ref (q 0)), (1, .int x1)]) hx hb dX4_isTeam_164 hl (k := 3) rfl rfl (by decide) rfl (fun ls hl => ?_)
    refine lv_goto (tgt := 85) hx hb dX4_isTeam_167 (by decide) ?_
    exact k85e _ _ _ hw _ _ _ (lv_sub hl [2, 3, 1, 0] rfl) hP hD hS
  have J158 : ∀ x1 x3, v_X4_isTeam_158 n se li wm ch ne np al wo kn sp py il fl wa bo so sd ro cp nr ti on he la (fun r _ => r = bI (itF n sp il (wa a1.toNatClampNeg) se ro)) K4 K85 K100 x1 x3 → ∀ (H : Heap) (locs : List Loc) (ls : Array Slot), lv_has ls 6 [(0, .ref (q 0)), (1, .int x1), (3, .int x3)] → va_P D vwCl (wR cI cZ q (nI n) se li wm ch ne np al wo kn sp py il fl wa bo so sd ro cp nr ti on he la) H → va_D A (wR cI cZ q (nI n) se li wm ch ne np al wo kn sp py il fl wa bo so sd ro cp nr ti on he la) → va_S A s.heap H locs → W p l e (headSpec wsX4_isTeam ({ frames := 4, cells := 0, slots := 0, locals := 160 })).room s m args below meth c H locs 0 0 Q (F0 m 158 ls []) := by
    intro x1 x3 hw
    intro H locs ls hl hP hD hS
    unfold v_X4_isTeam_158 at hw
    refine lv_iconst (v := (1 : Int32)) hx hb dX4_isTeam_158 (by decide) ?_
    refine lv_goto (tgt := 163) hx hb dX4_isTeam_159 (by decide) ?_
    exact J163 _ _ _ hw _ _ _ (lv_sub hl [0, 1, 2] rfl) hP hD hS
  have R100 : ∀ x1 x3 x4 x5, v_X4_isTeam_100 n se li wm ch ne np al wo kn sp py il fl wa bo so sd ro cp nr ti on he la (fun r _ => r = bI (itF n sp il (wa a1.toNatClampNeg) se ro)) K4 K85 K100 x1 x3 x4 x5 → K100 x1 x3 x4 x5 := by
    intro x1 x3 x4 x5 hw
    refine k100i _ _ _ _ ?_
    intro H locs ls hl hP hD hS
    unfold v_X4_isTeam_100 at hw
    refine lv_iload hx hb dX4_isTeam_100 (lv_at hl 4 rfl) ?_
    refine lv_aload_n hx hb dX4_isTeam_102 rfl (lv_at hl 0 rfl) ?_
    refine va_get (D := D) (ci := 4) (v := .int (nI n)) (C := RX4) (T := TX4) (N := 25) hx hb hts hin4 hown hK hP 0 rfl rfl 0 (by decide) f66 (fun _ h9 => h9) rfl dX4_isTeam_103 ?_
    refine lv_icmp_ge (tgt := 136) hx hb dX4_isTeam_106 (by decide) (fun hc => ?_) (fun hc => ?_)
    · replace hw := hw.1 hc
      refine lv_aload_n hx hb dX4_isTeam_136 rfl (lv_at hl 0 rfl) ?_
      refine va_get (D := D) (ci := 4) (v := .ref (q 6)) (C := RX4) (T := TX4) (N := 25) hx hb hts hin4 hown hK hP 0 rfl rfl 6 (by decide) f26 (fun _ h9 => h9) rfl dX4_isTeam_137 ?_
      refine lv_iload_n hx hb dX4_isTeam_140 rfl (lv_at hl 1 rfl) ?_
      obtain ⟨hv, hw⟩ := hw
      refine va_iald hx hb hK hP 6 0 rfl rfl hv dX4_isTeam_141 ?_
      refine lv_iload_n hx hb dX4_isTeam_142 rfl (lv_at hl 2 rfl) ?_
      refine zc_i0 (va_runS (As := [.int (wa x1.toNatClampNeg), .int x3]) (rest := []) ⟨hx, hb, hml, hown, hts⟩ ((c_X4_has l D cI cZ (wa x1.toNatClampNeg) x3  ) H.size) (va_cwS 2 hts gX4_isTeam_X4_has rfl rfl rfl (by decide +kernel) ⟨Nat.le_of_ble_eq_true rfl, Nat.le_of_ble_eq_true rfl⟩) (ps_of hK hN hP hD [] rfl rfl) rfl rfl hl.1 rfl (lv_room (Nat.le_of_ble_eq_true rfl)) dX4_isTeam_143 ⟨Nat.zero_le _, Nat.zero_le _⟩) hP hD hS hA (fun r u H locs hu hP hD hS => ?_)
      subst hu
      refine lv_if_eq (tgt := 158) hx hb dX4_isTeam_146 (by decide) (fun hc => ?_) (fun hc => ?_)
      · replace hw := hw.1 hc
        exact J158 _ _ hw _ _ _ (lv_sub hl [0, 1, 2] rfl) hP hD hS
      · replace hw := hw.2 hc
        refine lv_iload hx hb dX4_isTeam_149 (lv_at hl 3 rfl) ?_
        refine lv_aload_n hx hb dX4_isTeam_151 rfl (lv_at hl 0 rfl) ?_
        refine va_get (D := D) (ci := 4) (v := .int se) (C := RX4) (T := TX4) (N := 25) hx hb hts hin4 hown hK hP 0 rfl rfl 7 (by decide) f29 (fun _ h9 => h9) rfl dX4_isTeam_152 ?_
        refine lv_icmp_ne (tgt := 162) hx hb dX4_isTeam_155 (by decide) (fun hc => ?_) (fun hc => ?_)
        · replace hw := hw.2 hc
          refine lv_iconst (v := (0 : Int32)) hx hb dX4_isTeam_162 (by decide) ?_
          exact J163 _ _ _ hw _ _ _ (lv_sub hl [0, 1, 2] rfl) hP hD hS
        · replace hw := hw.1 hc
          exact J158 _ _ hw _ _ _ (lv_sub hl [0, 1, 2] rfl) hP hD hS
    · replace hw := hw.2 hc
      refine lv_iload hx hb dX4_isTeam_109 (lv_at hl 3 rfl) ?_
      refine lv_aload_n hx hb dX4_isTeam_111 rfl (lv_at hl 0 rfl) ?_
      refine va_get (D := D) (ci := 4) (v := .ref (q 10)) (C := RX4) (T := TX4) (N := 25) hx hb hts hin4 hown hK hP 0 rfl rfl 12 (by decide) f45 (fun _ h9 => h9) rfl dX4_isTeam_112 ?_
      refine lv_iload hx hb dX4_isTeam_115 (lv_at hl 4 rfl) ?_
      obtain ⟨hv, hw⟩ := hw
      refine va_iald hx hb hK hP 10 0 rfl rfl hv dX4_isTeam_117 ?_
      refine lv_iload_n hx hb dX4_isTeam_118 rfl (lv_at hl 2 rfl) ?_
      refine lv_icmp_ne (tgt := 126) hx hb dX4_isTeam_119 (by decide) (fun hc => ?_) (fun hc => ?_)
      · replace hw := hw.2 hc
        refine lv_iconst (v := (0 : Int32)) hx hb dX4_isTeam_126 (by decide) ?_
        exact J127 _ _ _ _ _ hw _ _ _ (lv_sub hl [0, 1, 2, 4] rfl) hP hD hS
      · replace hw := hw.1 hc
        refine lv_iconst (v := (1 : Int32)) hx hb dX4_isTeam_122 (by decide) ?_
        refine lv_goto (tgt := 127) hx hb dX4_isTeam_123 (by decide) ?_
        exact J127 _ _ _ _ _ hw _ _ _ (lv_sub hl [0, 1, 2, 4] rfl) hP hD hS
  have hw := h_X4_isTeam n se li wm ch ne np al wo kn sp py il fl wa bo so sd ro cp nr ti on he la  a1 hn h0 K4 K85 K100 R4 R85 R100
  unfold v_X4_isTeam_0 at hw
  refine lv_iconst (v := (1 : Int32)) hx hb dX4_isTeam_0 (by decide) ?_
  refine lv_istore_n (lv' := [(2, .int (1 : Int32)), (0, .ref (q 0)), (1, .int a1)]) hx hb dX4_isTeam_1 rfl hl (by decide) rfl (fun ls hl => ?_)
  refine lv_iconst (v := (0 : Int32)) hx hb dX4_isTeam_2 (by decide) ?_
  refine lv_istore_n (lv' := [(3, .int (0 : Int32)), (2, .int (1 : Int32)), (0, .ref (q 0)), (1, .int a1)]) hx hb dX4_isTeam_3 rfl hl (by decide) rfl (fun ls hl => ?_)
  exact k4e _ _ _ hw _ _ _ (lv_sub hl [2, 3, 1, 0] rfl) hP hD hS
set_option maxHeartbeats 4000000 in
set_option maxRecDepth 100000 in
theorem c_X4_allKnow (l : Launch) (D : va_G) (cI cZ : ClassId) (q : Nat → Nat) (n : Nat) (se : Int32) (li : Int32) (wm : Int32) (ch : Int32) (ne : Int32) (np : Int32) (al : Int32) (wo : Int32) (kn : Nat → Int32) (sp : Nat → Int32) (py : Nat → Int32) (il : Nat → Int32) (fl : Nat → Int32) (wa : Nat → Int32) (bo : Nat → Int32) (so : Nat → Int32) (sd : Nat → Int32) (ro : Nat → Int32) (cp : Nat → Int32) (nr : Nat → Int32) (ti : Nat → Int32) (on : Nat → Int32) (he : Nat → Int32) (la : Nat → Int32) (a1 : Int32) (a2 : Int32) (hn : n ≤ 6) : MI l yX4_allKnow wsX4_allKnow ({ frames := 4, cells := 0, slots := 0, locals := 160 }) D cI cZ [.ref (q 0), .int a1, .int a2] (wR cI cZ q (nI n) se li wm ch ne np al wo kn sp py il fl wa bo so sd ro cp nr ti on he la) (fun _ : Unit => (wR cI cZ q (nI n) se li wm ch ne np al wo kn sp py il fl wa bo so sd ro cp nr ti on he la)) (fun r _ => r = bI (akF kn ro a1 a2 n)) := by
  refine MI_of (cc := cX4_allKnow) (maxL := 5) (ty := .boolean) (by decide) rfl (Nat.le_of_ble_eq_true rfl) (fun p e s m args below meth c A Q hx hb hml hown hts hK hN hA hret H locs ls hl hP hD hS => ?_)
  have hown : s.vm.findClass RX4 = some m.cls := hown
  have hl : lv_has ls 5 [(0, .ref (q 0)), (1, .int a1), (2, .int a2)] := hl
  have hin4 : ∀ w ∈ u_ws RX4 TX4 25, w ∈ wsX4_allKnow := fun w h => List.mem_cons_of_mem _ (List.mem_append_right _ h)
  have f66 : (Cond.fieldLink RX4 66 "GlassBoothsModel" "people" "I").before args s = true := hts _ (by decide +kernel)
  have f45 : (Cond.fieldLink RX4 45 "GlassBoothsModel" "row" "[I").before args s = true := hts _ (by decide +kernel)
  have f7 : (Cond.fieldLink RX4 7 "GlassBoothsModel" "knows" "[I").before args s = true := hts _ (by decide +kernel)
  obtain ⟨K5, k5i, k5e⟩ := ex_K4 (fun (x1 : Int32) (x2 : Int32) (x3 : Int32) (x4 : Int32) => ∀ (H : Heap) (locs : List Loc) (ls : Array Slot), lv_has ls 5 [(0, .ref (q 0)), (1, .int x1), (2, .int x2), (3, .int x3), (4, .int x4)] → va_P D vwCl (wR cI cZ q (nI n) se li wm ch ne np al wo kn sp py il fl wa bo so sd ro cp nr ti on he la) H → va_D A (wR cI cZ q (nI n) se li wm ch ne np al wo kn sp py il fl wa bo so sd ro cp nr ti on he la) → va_S A s.heap H locs → W p l e (headSpec wsX4_allKnow ({ frames := 4, cells := 0, slots := 0, locals := 160 })).room s m args below meth c H locs 0 0 Q (F0 m 5 ls []))
  have J48 : ∀ x1 x2 x4 s0, v_X4_allKnow_48 n se li wm ch ne np al wo kn sp py il fl wa bo so sd ro cp nr ti on he la (fun r _ => r = bI (akF kn ro a1 a2 n)) K5 x1 x2 x4 s0 → ∀ (H : Heap) (locs : List Loc) (ls : Array Slot), lv_has ls 5 [(0, .ref (q 0)), (1, .int x1), (2, .int x2), (4, .int x4)] → va_P D vwCl (wR cI cZ q (nI n) se li wm ch ne np al wo kn sp py il fl wa bo so sd ro cp nr ti on he la) H → va_D A (wR cI cZ q (nI n) se li wm ch ne np al wo kn sp py il fl wa bo so sd ro cp nr ti on he la) → va_S A s.heap H locs → W p l e (headSpec wsX4_allKnow ({ frames := 4, cells := 0, slots := 0, locals := 160 })).room s m args below meth c H locs 0 0 Q (F0 m 48 ls [.int s0]) := by
    intro x1 x2 x4 s0 hw
    intro H locs ls hl hP hD hS
    unfold v_X4_allKnow_48 at hw
    refine lv_istore_n (lv' := [(3, .int s0), (0, .ref (q 0)), (1, .int x1), (2, .int x2), (4, .int x4)]) hx hb dX4_allKnow_48 rfl hl (by decide) rfl (fun ls hl => ?_)
    refine lv_iinc (v := x4 + 1) (lv' := [(4, .int (x4 + 1)), (3, .int s0), (0, .ref (q 0)), (1, .int x1), (2, .int x2)]) hx hb dX4_allKnow_49 hl (k := 4) rfl rfl (by decide) rfl (fun ls hl => ?_)
    refine lv_goto (tgt := 5) hx hb dX4_allKnow_52 (by decide) ?_
    exact k5e _ _ _ _ hw _ _ _ (lv_sub hl [2, 3, 4, 1, 0] rfl) hP hD hS
  have J43 : ∀ x1 x2 x4, v_X4_allKnow_43 n se li wm ch ne np al wo kn sp py il fl wa bo so sd ro cp nr ti on he la (fun r _ => r = bI (akF kn ro a1 a2 n)) K5 x1 x2 x4 → ∀ (H : Heap) (locs : List Loc) (ls : Array Slot), lv_has ls 5 [(0, .ref (q 0)), (1, .int x1), (2, .int x2), (4, .int x4)] → va_P D vwCl (wR cI cZ q (nI n) se li wm ch ne np al wo kn sp py il fl wa bo so sd ro cp nr ti on he la) H → va_D A (wR cI cZ q (nI n) se li wm ch ne np al wo kn sp py il fl wa bo so sd ro cp nr ti on he la) → va_S A s.heap H locs → W p l e (headSpec wsX4_allKnow ({ frames := 4, cells := 0, slots := 0, locals := 160 })).room s m args below meth c H locs 0 0 Q (F0 m 43 ls []) := by
    intro x1 x2 x4 hw
    intro H locs ls hl hP hD hS
    unfold v_X4_allKnow_43 at hw
    refine lv_iconst (v := (1 : Int32)) hx hb dX4_allKnow_43 (by decide) ?_
    refine lv_goto (tgt := 48) hx hb dX4_allKnow_44 (by decide) ?_
    exact J48 _ _ _ _ hw _ _ _ (lv_sub hl [0, 1, 2, 3] rfl) hP hD hS
  have J47 : ∀ x1 x2 x4, v_X4_allKnow_47 n se li wm ch ne np al wo kn sp py il fl wa bo so sd ro cp nr ti on he la (fun r _ => r = bI (akF kn ro a1 a2 n)) K5 x1 x2 x4 → ∀ (H : Heap) (locs : List Loc) (ls : Array Slot), lv_has ls 5 [(0, .ref (q 0)), (1, .int x1), (2, .int x2), (4, .int x4)] → va_P D vwCl (wR cI cZ q (nI n) se li wm ch ne np al wo kn sp py il fl wa bo so sd ro cp nr ti on he la) H → va_D A (wR cI cZ q (nI n) se li wm ch ne np al wo kn sp py il fl wa bo so sd ro cp nr ti on he la) → va_S A s.heap H locs → W p l e (headSpec wsX4_allKnow ({ frames := 4, cells := 0, slots := 0, locals := 160 })).room s m args below meth c H locs 0 0 Q (F0 m 47 ls []) := by
    intro x1 x2 x4 hw
    intro H locs ls hl hP hD hS
    unfold v_X4_allKnow_47 at hw
    refine lv_iconst (v := (0 : Int32)) hx hb dX4_allKnow_47 (by decide) ?_
    exact J48 _ _ _ _ hw _ _ _ (lv_sub hl [0, 1, 2, 3] rfl) hP hD hS
  have R5 : ∀ x1 x2 x3 x4, v_X4_allKnow_5 n se li wm ch ne np al wo kn sp py il fl wa bo so sd ro cp nr ti on he la (fun r _ => r = bI (akF kn ro a1 a2 n)) K5 x1 x2 x3 x4 → K5 x1 x2 x3 x4 := by
    intro x1 x2 x3 x4 hw
    refine k5i _ _ _ _ ?_
    intro H locs ls hl hP hD hS
    unfold v_X4_allKnow_5 at hw
    refine lv_iload hx hb dX4_allKnow_5 (lv_at hl 4 rfl) ?_
    refine lv_aload_n hx hb dX4_allKnow_7 rfl (lv_at hl 0 rfl) ?_
    refine va_get (D := D) (ci := 4) (v := .int (nI n)) (C := RX4) (T := TX4) (N := 25) hx hb hts hin4 hown hK hP 0 rfl rfl 0 (by decide) f66 (fun _ h9 => h9) rfl dX4_allKnow_8 ?_
    refine lv_icmp_ge (tgt := 55) hx hb dX4_allKnow_11 (by decide) (fun hc => ?_) (fun hc => ?_)
    · replace hw := hw.1 hc
      refine lv_iload_n hx hb dX4_allKnow_55 rfl (lv_at hl 3 rfl) ?_
      exact hret _ () _ _ _ _ hw.2 hw.1 hP hD hS dX4_allKnow_56
    · replace hw := hw.2 hc
      refine lv_iload_n hx hb dX4_allKnow_14 rfl (lv_at hl 3 rfl) ?_
      refine lv_if_eq (tgt := 47) hx hb dX4_allKnow_15 (by decide) (fun hc => ?_) (fun hc => ?_)
      · replace hw := hw.1 hc
        exact J47 _ _ _ hw _ _ _ (lv_sub hl [0, 1, 2, 4] rfl) hP hD hS
      · replace hw := hw.2 hc
        refine lv_aload_n hx hb dX4_allKnow_18 rfl (lv_at hl 0 rfl) ?_
        refine va_get (D := D) (ci := 4) (v := .ref (q 10)) (C := RX4) (T := TX4) (N := 25) hx hb hts hin4 hown hK hP 0 rfl rfl 12 (by decide) f45 (fun _ h9 => h9) rfl dX4_allKnow_19 ?_
        refine lv_iload hx hb dX4_allKnow_22 (lv_at hl 4 rfl) ?_
        obtain ⟨hv, hw⟩ := hw
        refine va_iald hx hb hK hP 10 0 rfl rfl hv dX4_allKnow_24 ?_
        refine lv_iload_n hx hb dX4_allKnow_25 rfl (lv_at hl 1 rfl) ?_
        refine lv_icmp_ne (tgt := 43) hx hb dX4_allKnow_26 (by decide) (fun hc => ?_) (fun hc => ?_)
        · replace hw := hw.2 hc
          exact J43 _ _ _ hw _ _ _ (lv_sub hl [0, 1, 2, 4] rfl) hP hD hS
        · replace hw := hw.1 hc
          refine lv_aload_n hx hb dX4_allKnow_29 rfl (lv_at hl 0 rfl) ?_
          refine va_get (D := D) (ci := 4) (v := .ref (q 1)) (C := RX4) (T := TX4) (N := 25) hx hb hts hin4 hown hK hP 0 rfl rfl 1 (by decide) f7 (fun _ h9 => h9) rfl dX4_allKnow_30 ?_
          refine lv_iload hx hb dX4_allKnow_33 (lv_at hl 4 rfl) ?_
          obtain ⟨hv, hw⟩ := hw
          refine va_iald hx hb hK hP 1 0 rfl rfl hv dX4_allKnow_35 ?_
          refine lv_iload_n hx hb dX4_allKnow_36 rfl (lv_at hl 2 rfl) ?_
          refine zc_i0 (va_runS (As := [.int (kn x4.toNatClampNeg), .int x2]) (rest := []) ⟨hx, hb, hml, hown, hts⟩ ((c_X4_has l D cI cZ (kn x4.toNatClampNeg) x2  ) H.size) (va_cwS 2 hts gX4_allKnow_X4_has rfl rfl rfl (by decide +kernel) ⟨Nat.le_of_ble_eq_true rfl, Nat.le_of_ble_eq_true rfl⟩) (ps_of hK hN hP hD [] rfl rfl) rfl rfl hl.1 rfl (lv_room (Nat.le_of_ble_eq_true rfl)) dX4_allKnow_37 ⟨Nat.zero_le _, Nat.zero_le _⟩) hP hD hS hA (fun r u H locs hu hP hD hS => ?_)
          subst hu
          refine lv_if_eq (tgt := 47) hx hb dX4_allKnow_40 (by decide) (fun hc => ?_) (fun hc => ?_)
          · replace hw := hw.1 hc
            exact J47 _ _ _ hw _ _ _ (lv_sub hl [0, 1, 2, 4] rfl) hP hD hS
          · replace hw := hw.2 hc
            exact J43 _ _ _ hw _ _ _ (lv_sub hl [0, 1, 2, 4] rfl) hP hD hS
  have hw := h_X4_allKnow n se li wm ch ne np al wo kn sp py il fl wa bo so sd ro cp nr ti on he la  a1 a2 hn  K5 R5
  unfold v_X4_allKnow_0 at hw
  refine lv_iconst (v := (1 : Int32)) hx hb dX4_allKnow_0 (by decide) ?_
  refine lv_istore_n (lv' := [(3, .int (1 : Int32)), (0, .ref (q 0)), (1, .int a1), (2, .int a2)]) hx hb dX4_allKnow_1 rfl hl (by decide) rfl (fun ls hl => ?_)
  refine lv_iconst (v := (0 : Int32)) hx hb dX4_allKnow_2 (by decide) ?_
  refine lv_istore (lv' := [(4, .int (0 : Int32)), (3, .int (1 : Int32)), (0, .ref (q 0)), (1, .int a1), (2, .int a2)]) hx hb dX4_allKnow_3 hl (by decide) rfl (fun ls hl => ?_)
  exact k5e _ _ _ _ hw _ _ _ (lv_sub hl [2, 3, 4, 1, 0] rfl) hP hD hS
set_option maxHeartbeats 4000000 in
set_option maxRecDepth 100000 in
theorem c_X4_isWhole (l : Launch) (D : va_G) (cI cZ : ClassId) (q : Nat → Nat) (n : Nat) (se : Int32) (li : Int32) (wm : Int32) (ch : Int32) (ne : Int32) (np : Int32) (al : Int32) (wo : Int32) (kn : Nat → Int32) (sp : Nat → Int32) (py : Nat → Int32) (il : Nat → Int32) (fl : Nat → Int32) (wa : Nat → Int32) (bo : Nat → Int32) (so : Nat → Int32) (sd : Nat → Int32) (ro : Nat → Int32) (cp : Nat → Int32) (nr : Nat → Int32) (ti : Nat → Int32) (on : Nat → Int32) (he : Nat → Int32) (la : Nat → Int32) (a1 : Int32) (hn : n ≤ 6) (h0 : inB a1 2 = true) : MI l yX4_isWhole wsX4_isWhole ({ frames := 6, cells := 0, slots := 0, locals := 240 }) D cI cZ [.ref (q 0), .int a1] (wR cI cZ q (nI n) se li wm ch ne np al wo kn sp py il fl wa bo so sd ro cp nr ti on he la) (fun _ : Unit => (wR cI cZ q (nI n) se li wm ch ne np al wo kn sp py il fl wa bo so sd ro cp nr ti on he la)) (fun r _ => r = bI (iwF n kn (fl a1.toNatClampNeg) (wa a1.toNatClampNeg) ro)) := by
  refine MI_of (cc := cX4_isWhole) (maxL := 7) (ty := .boolean) (by decide) rfl (Nat.le_of_ble_eq_true rfl) (fun p e s m args below meth c A Q hx hb hml hown hts hK hN hA hret H locs ls hl hP hD hS => ?_)
  have hown : s.vm.findClass RX4 = some m.cls := hown
  have hl : lv_has ls 7 [(0, .ref (q 0)), (1, .int a1)] := hl
  have hin4 : ∀ w ∈ u_ws RX4 TX4 25, w ∈ wsX4_isWhole := fun w h => List.mem_cons_of_mem _ (List.mem_append_right _ h)
  have f23 : (Cond.fieldLink RX4 23 "GlassBoothsModel" "floors" "[I").before args s = true := hts _ (by decide +kernel)
  have f26 : (Cond.fieldLink RX4 26 "GlassBoothsModel" "wanted" "[I").before args s = true := hts _ (by decide +kernel)
  obtain ⟨K4, k4i, k4e⟩ := ex_K3 (fun (x1 : Int32) (x2 : Int32) (x3 : Int32) => ∀ (H : Heap) (locs : List Loc) (ls : Array Slot), lv_has ls 7 [(0, .ref (q 0)), (1, .int x1), (2, .int x2), (3, .int x3)] → va_P D vwCl (wR cI cZ q (nI n) se li wm ch ne np al wo kn sp py il fl wa bo so sd ro cp nr ti on he la) H → va_D A (wR cI cZ q (nI n) se li wm ch ne np al wo kn sp py il fl wa bo so sd ro cp nr ti on he la) → va_S A s.heap H locs → W p l e (headSpec wsX4_isWhole ({ frames := 6, cells := 0, slots := 0, locals := 240 })).room s m args below meth c H locs 0 0 Q (F0 m 4 ls []))
  obtain ⟨K12, k12i, k12e⟩ := ex_K4 (fun (x1 : Int32) (x2 : Int32) (x3 : Int32) (x4 : Int32) => ∀ (H : Heap) (locs : List Loc) (ls : Array Slot), lv_has ls 7 [(0, .ref (q 0)), (1, .int x1), (2, .int x2), (3, .int x3), (4, .int x4)] → va_P D vwCl (wR cI cZ q (nI n) se li wm ch ne np al wo kn sp py il fl wa bo so sd ro cp nr ti on he la) H → va_D A (wR cI cZ q (nI n) se li wm ch ne np al wo kn sp py il fl wa bo so sd ro cp nr ti on he la) → va_S A s.heap H locs → W p l e (headSpec wsX4_isWhole ({ frames := 6, cells := 0, slots := 0, locals := 240 })).room s m args below meth c H locs 0 0 Q (F0 m 12 ls []))
  obtain ⟨K63, k63i, k63e⟩ := ex_K6 (fun (x1 : Int32) (x2 : Int32) (x3 : Int32) (x4 : Int32) (x5 : Int32) (x6 : Int32) => ∀ (H : Heap) (locs : List Loc) (ls : Array Slot), lv_has ls 7 [(0, .ref (q 0)), (1, .int x1), (2, .int x2), (3, .int x3), (4, .int x4), (5, .int x5), (6, .int x6)] → va_P D vwCl (wR cI cZ q (nI n) se li wm ch ne np al wo kn sp py il fl wa bo so sd ro cp nr ti on he la) H → va_D A (wR cI cZ q (nI n) se li wm ch ne np al wo kn sp py il fl wa bo so sd ro cp nr ti on he la) → va_S A s.heap H locs → W p l e (headSpec wsX4_isWhole ({ frames := 6, cells := 0, slots := 0, locals := 240 })).room s m args below meth c H locs 0 0 Q (F0 m 63 ls []))
  have R4 : ∀ x1 x2 x3, v_X4_isWhole_4 n se li wm ch ne np al wo kn sp py il fl wa bo so sd ro cp nr ti on he la (fun r _ => r = bI (iwF n kn (fl a1.toNatClampNeg) (wa a1.toNatClampNeg) ro)) K4 K12 K63 x1 x2 x3 → K4 x1 x2 x3 := by
    intro x1 x2 x3 hw
    refine k4i _ _ _ ?_
    intro H locs ls hl hP hD hS
    unfold v_X4_isWhole_4 at hw
    refine lv_iload_n hx hb dX4_isWhole_4 rfl (lv_at hl 3 rfl) ?_
    refine lv_iconst (v := (5 : Int32)) hx hb dX4_isWhole_5 (by decide) ?_
    refine lv_icmp_ge (tgt := 162) hx hb dX4_isWhole_6 (by decide) (fun hc => ?_) (fun hc => ?_)
    · replace hw := hw.1 hc
      refine lv_iload_n hx hb dX4_isWhole_162 rfl (lv_at hl 2 rfl) ?_
      exact hret _ () _ _ _ _ hw.2 hw.1 hP hD hS dX4_isWhole_163
    · replace hw := hw.2 hc
      refine lv_iconst (v := (0 : Int32)) hx hb dX4_isWhole_9 (by decide) ?_
      refine lv_istore (lv' := [(4, .int (0 : Int32)), (0, .ref (q 0)), (1, .int x1), (2, .int x2), (3, .int x3)]) hx hb dX4_isWhole_10 hl (by decide) rfl (fun ls hl => ?_)
      exact k12e _ _ _ _ hw _ _ _ (lv_sub hl [1, 2, 3, 4, 0] rfl) hP hD hS
  have J150 : ∀ x1 x2 x3 x4, v_X4_isWhole_150 n se li wm ch ne np al wo kn sp py il fl wa bo so sd ro cp nr ti on he la (fun r _ => r = bI (iwF n kn (fl a1.toNatClampNeg) (wa a1.toNatClampNeg) ro)) K4 K12 K63 x1 x2 x3 x4 → ∀ (H : Heap) (locs : List Loc) (ls : Array Slot), lv_has ls 7 [(0, .ref (q 0)), (1, .int x1), (2, .int x2), (3, .int x3), (4, .int x4)] → va_P D vwCl (wR cI cZ q (nI n) se li wm ch ne np al wo kn sp py il fl wa bo so sd ro cp nr ti on he la) H → va_D A (wR cI cZ q (nI n) se li wm ch ne np al wo kn sp py il fl wa bo so sd ro cp nr ti on he la) → va_S A s.heap H locs → W p l e (headSpec wsX4_isWhole ({ frames := 6, cells := 0, slots := 0, locals := 240 })).room s m args below meth c H locs 0 0 Q (F0 m 150 ls []) := by
    intro x1 x2 x3 x4 hw
    intro H locs ls hl hP hD hS
    unfold v_X4_isWhole_150 at hw
    refine lv_iinc (v := x4 + 1) (lv' := [(4, .int (x4 + 1)), (0, .ref (q 0)), (1, .int x1), (2, .int x2), (3, .int x3)]) hx hb dX4_isWhole_150 hl (k := 4) rfl rfl (by decide) rfl (fun ls hl => ?_)
    refine lv_goto (tgt := 12) hx hb dX4_isWhole_153 (by decide) ?_
    exact k12e _ _ _ _ hw _ _ _ (lv_sub hl [1, 2, 3, 4, 0] rfl) hP hD hS
  have R12 : ∀ x1 x2 x3 x4, v_X4_isWhole_12 n se li wm ch ne np al wo kn sp py il fl wa bo so sd ro cp nr ti on he la (fun r _ => r = bI (iwF n kn (fl a1.toNatClampNeg) (wa a1.toNatClampNeg) ro)) K4 K12 K63 x1 x2 x3 x4 → K12 x1 x2 x3 x4 := by
    intro x1 x2 x3 x4 hw
    refine k12i _ _ _ _ ?_
    intro H locs ls hl hP hD hS
    unfold v_X4_isWhole_12 at hw
    refine lv_iload hx hb dX4_isWhole_12 (lv_at hl 4 rfl) ?_
    refine lv_iconst (v := (5 : Int32)) hx hb dX4_isWhole_14 (by decide) ?_
    refine lv_icmp_ge (tgt := 156) hx hb dX4_isWhole_15 (by decide) (fun hc => ?_) (fun hc => ?_)
    · replace hw := hw.1 hc
      refine lv_iinc (v := x3 + 1) (lv' := [(3, .int (x3 + 1)), (0, .ref (q 0)), (1, .int x1), (2, .int x2), (4, .int x4)]) hx hb dX4_isWhole_156 hl (k := 3) rfl rfl (by decide) rfl (fun ls hl => ?_)
      refine lv_goto (tgt := 4) hx hb dX4_isWhole_159 (by decide) ?_
      exact k4e _ _ _ hw _ _ _ (lv_sub hl [1, 2, 3, 0] rfl) hP hD hS
    · replace hw := hw.2 hc
      refine lv_aload_n hx hb dX4_isWhole_18 rfl (lv_at hl 0 rfl) ?_
      refine va_get (D := D) (ci := 4) (v := .ref (q 5)) (C := RX4) (T := TX4) (N := 25) hx hb hts hin4 hown hK hP 0 rfl rfl 5 (by decide) f23 (fun _ h9 => h9) rfl dX4_isWhole_19 ?_
      refine lv_iload_n hx hb dX4_isWhole_22 rfl (lv_at hl 1 rfl) ?_
      obtain ⟨hv, hw⟩ := hw
      refine va_iald hx hb hK hP 5 0 rfl rfl hv dX4_isWhole_23 ?_
      refine lv_iload_n hx hb dX4_isWhole_24 rfl (lv_at hl 3 rfl) ?_
      refine zc_i0 (va_runS (As := [.int (fl x1.toNatClampNeg), .int x3]) (rest := []) ⟨hx, hb, hml, hown, hts⟩ ((c_X4_has l D cI cZ (fl x1.toNatClampNeg) x3  ) H.size) (va_cwS 2 hts gX4_isWhole_X4_has rfl rfl rfl (by decide +kernel) ⟨Nat.le_of_ble_eq_true rfl, Nat.le_of_ble_eq_true rfl⟩) (ps_of hK hN hP hD [] rfl rfl) rfl rfl hl.1 rfl (lv_room (Nat.le_of_ble_eq_true rfl)) dX4_isWhole_25 ⟨Nat.zero_le _, Nat.zero_le _⟩) hP hD hS hA (fun r u H locs hu hP hD hS => ?_)
      subst hu
      refine lv_if_eq (tgt := 150) hx hb dX4_isWhole_28 (by decide) (fun hc => ?_) (fun hc => ?_)
      · replace hw := hw.1 hc
        exact J150 _ _ _ _ hw _ _ _ (lv_sub hl [0, 1, 2, 3, 4] rfl) hP hD hS
      · replace hw := hw.2 hc
        refine lv_aload_n hx hb dX4_isWhole_31 rfl (lv_at hl 0 rfl) ?_
        refine va_get (D := D) (ci := 4) (v := .ref (q 6)) (C := RX4) (T := TX4) (N := 25) hx hb hts hin4 hown hK hP 0 rfl rfl 6 (by decide) f26 (fun _ h9 => h9) rfl dX4_isWhole_32 ?_
        refine lv_iload_n hx hb dX4_isWhole_35 rfl (lv_at hl 1 rfl) ?_
        obtain ⟨hv, hw⟩ := hw
        refine va_iald hx hb hK hP 6 0 rfl rfl hv dX4_isWhole_36 ?_
        refine lv_iload hx hb dX4_isWhole_37 (lv_at hl 4 rfl) ?_
        refine zc_i0 (va_runS (As := [.int (wa x1.toNatClampNeg), .int x4]) (rest := []) ⟨hx, hb, hml, hown, hts⟩ ((c_X4_has l D cI cZ (wa x1.toNatClampNeg) x4  ) H.size) (va_cwS 2 hts gX4_isWhole_X4_has rfl rfl rfl (by decide +kernel) ⟨Nat.le_of_ble_eq_true rfl, Nat.le_of_ble_eq_true rfl⟩) (ps_of hK hN hP hD [] rfl rfl) rfl rfl hl.1 rfl (lv_room (Nat.le_of_ble_eq_true rfl)) dX4_isWhole_39 ⟨Nat.zero_le _, Nat.zero_le _⟩) hP hD hS hA (fun r u H locs hu hP hD hS => ?_)
        subst hu
        refine lv_if_eq (tgt := 150) hx hb dX4_isWhole_42 (by decide) (fun hc => ?_) (fun hc => ?_)
        · replace hw := hw.1 hc
          exact J150 _ _ _ _ hw _ _ _ (lv_sub hl [0, 1, 2, 3, 4] rfl) hP hD hS
        · replace hw := hw.2 hc
          refine lv_iload hx hb dX4_isWhole_45 (lv_at hl 4 rfl) ?_
          refine lv_iload_n hx hb dX4_isWhole_47 rfl (lv_at hl 3 rfl) ?_
          refine lv_icmp_eq (tgt := 150) hx hb dX4_isWhole_48 (by decide) (fun hc => ?_) (fun hc => ?_)
          · replace hw := hw.1 hc
            exact J150 _ _ _ _ hw _ _ _ (lv_sub hl [0, 1, 2, 3, 4] rfl) hP hD hS
          · replace hw := hw.2 hc
            refine lv_aload_n hx hb dX4_isWhole_51 rfl (lv_at hl 0 rfl) ?_
            refine lv_iload hx hb dX4_isWhole_52 (lv_at hl 4 rfl) ?_
            refine lv_iload_n hx hb dX4_isWhole_54 rfl (lv_at hl 3 rfl) ?_
            refine zc_i (fun u => (wR cI cZ q (nI n) se li wm ch ne np al wo kn sp py il fl wa bo so sd ro cp nr ti on he la)) [0, 1, 2, 3, 4, 5, 6, 7, 8, 9, 10, 11, 12, 13, 14, 15, 16] [] [0, 1, 2, 3, 4, 5, 6, 7, 8, 9, 10, 11, 12, 13, 14, 15, 16] (va_runV (As := [.int x4, .int x3]) (rest := []) ⟨hx, hb, hml, hown, hts⟩ ((c_X4_allKnow l D cI cZ q n se li wm ch ne np al wo kn sp py il fl wa bo so sd ro cp nr ti on he la x4 x3 hn ) H.size) (cwV 2 hts gX4_isWhole_X4_allKnow rfl rfl rfl (by decide +kernel) ⟨Nat.le_of_ble_eq_true rfl, Nat.le_of_ble_eq_true rfl⟩) (pv_of hK hN hP hD [0, 1, 2, 3, 4, 5, 6, 7, 8, 9, 10, 11, 12, 13, 14, 15, 16] rfl rfl 4 0 rfl rfl) rfl rfl hl.1 rfl (lv_room (Nat.le_of_ble_eq_true rfl)) dX4_isWhole_55 ⟨Nat.zero_le _, Nat.zero_le _⟩) hP hD hS hA rfl rfl rfl (by decide) (fun _ => rfl) rfl (fun r u H locs hu hP hD hS => ?_)
            subst hu
            have hP : va_P D vwCl (wR cI cZ q (nI n) se li wm ch ne np al wo kn sp py il fl wa bo so sd ro cp nr ti on he la) H := hP
            have hD : va_D A (wR cI cZ q (nI n) se li wm ch ne np al wo kn sp py il fl wa bo so sd ro cp nr ti on he la) := hD
            refine lv_istore (lv' := [(5, .int (bI (akF kn ro x4 x3 n))), (0, .ref (q 0)), (1, .int x1), (2, .int x2), (3, .int x3), (4, .int x4)]) hx hb dX4_isWhole_58 hl (by decide) rfl (fun ls hl => ?_)
            refine lv_iconst (v := (0 : Int32)) hx hb dX4_isWhole_60 (by decide) ?_
            refine lv_istore (lv' := [(6, .int (0 : Int32)), (5, .int (bI (akF kn ro x4 x3 n))), (0, .ref (q 0)), (1, .int x1), (2, .int x2), (3, .int x3), (4, .int x4)]) hx hb dX4_isWhole_61 hl (by decide) rfl (fun ls hl => ?_)
            exact k63e _ _ _ _ _ _ hw _ _ _ (lv_sub hl [2, 3, 4, 5, 6, 1, 0] rfl) hP hD hS
  have J127 : ∀ x1 x2 x3 x4 x6 s0, v_X4_isWhole_127 n se li wm ch ne np al wo kn sp py il fl wa bo so sd ro cp nr ti on he la (fun r _ => r = bI (iwF n kn (fl a1.toNatClampNeg) (wa a1.toNatClampNeg) ro)) K4 K12 K63 x1 x2 x3 x4 x6 s0 → ∀ (H : Heap) (locs : List Loc) (ls : Array Slot), lv_has ls 7 [(0, .ref (q 0)), (1, .int x1), (2, .int x2), (3, .int x3), (4, .int x4), (6, .int x6)] → va_P D vwCl (wR cI cZ q (nI n) se li wm ch ne np al wo kn sp py il fl wa bo so sd ro cp nr ti on he la) H → va_D A (wR cI cZ q (nI n) se li wm ch ne np al wo kn sp py il fl wa bo so sd ro cp nr ti on he la) → va_S A s.heap H locs → W p l e (headSpec wsX4_isWhole ({ frames := 6, cells := 0, slots := 0, locals := 240 })).room s m args below meth c H locs 0 0 Q (F0 m 127 ls [.int s0]) := by
    intro x1 x2 x3 x4 x6 s0 hw
    intro H locs ls hl hP hD hS
    unfold v_X4_isWhole_127 at hw
    refine lv_istore (lv' := [(5, .int s0), (0, .ref (q 0)), (1, .int x1), (2, .int x2), (3, .int x3), (4, .int x4), (6, .int x6)]) hx hb dX4_isWhole_127 hl (by decide) rfl (fun ls hl => ?_)
    refine lv_iinc (v := x6 + 1) (lv' := [(6, .int (x6 + 1)), (5, .int s0), (0, .ref (q 0)), (1, .int x1), (2, .int x2), (3, .int x3), (4, .int x4)]) hx hb dX4_isWhole_129 hl (k := 6) rfl rfl (by decide) rfl (fun ls hl => ?_)
    refine lv_goto (tgt := 63) hx hb dX4_isWhole_132 (by decide) ?_
    exact k63e _ _ _ _ _ _ hw _ _ _ (lv_sub hl [2, 3, 4, 5, 6, 1, 0] rfl) hP hD hS
  have J122 : ∀ x1 x2 x3 x4 x6, v_X4_isWhole_122 n se li wm ch ne np al wo kn sp py il fl wa bo so sd ro cp nr ti on he la (fun r _ => r = bI (iwF n kn (fl a1.toNatClampNeg) (wa a1.toNatClampNeg) ro)) K4 K12 K63 x1 x2 x3 x4 x6 → ∀ (H : Heap) (locs : List Loc) (ls : Array Slot), lv_has ls 7 [(0, .ref (q 0)), (1, .int x1), (2, .int x2), (3, .int x3), (4, .int x4), (6, .int x6)] → va_P D vwCl (wR cI cZ q (nI n) se li wm ch ne np al wo kn sp py il fl wa bo so sd ro cp nr ti on he la) H → va_D A (wR cI cZ q (nI n) se li wm ch ne np al wo kn sp py il fl wa bo so sd ro cp nr ti on he la) → va_S A s.heap H locs → W p l e (headSpec wsX4_isWhole ({ frames := 6, cells := 0, slots := 0, locals := 240 })).room s m args below meth c H locs 0 0 Q (F0 m 122 ls []) := by
    intro x1 x2 x3 x4 x6 hw
    intro H locs ls hl hP hD hS
    unfold v_X4_isWhole_122 at hw
    refine lv_iconst (v := (1 : Int32)) hx hb dX4_isWhole_122 (by decide) ?_
    refine lv_goto (tgt := 127) hx hb dX4_isWhole_123 (by decide) ?_
    exact J127 _ _ _ _ _ _ hw _ _ _ (lv_sub hl [0, 1, 2, 3, 4, 5] rfl) hP hD hS
  have J126 : ∀ x1 x2 x3 x4 x6, v_X4_isWhole_126 n se li wm ch ne np al wo kn sp py il fl wa bo so sd ro cp nr ti on he la (fun r _ => r = bI (iwF n kn (fl a1.toNatClampNeg) (wa a1.toNatClampNeg) ro)) K4 K12 K63 x1 x2 x3 x4 x6 → ∀ (H : Heap) (locs : List Loc) (ls : Array Slot), lv_has ls 7 [(0, .ref (q 0)), (1, .int x1), (2, .int x2), (3, .int x3), (4, .int x4), (6, .int x6)] → va_P D vwCl (wR cI cZ q (nI n) se li wm ch ne np al wo kn sp py il fl wa bo so sd ro cp nr ti on he la) H → va_D A (wR cI cZ q (nI n) se li wm ch ne np al wo kn sp py il fl wa bo so sd ro cp nr ti on he la) → va_S A s.heap H locs → W p l e (headSpec wsX4_isWhole ({ frames := 6, cells := 0, slots := 0, locals := 240 })).room s m args below meth c H locs 0 0 Q (F0 m 126 ls []) := by
    intro x1 x2 x3 x4 x6 hw
    intro H locs ls hl hP hD hS
    unfold v_X4_isWhole_126 at hw
    refine lv_iconst (v := (0 : Int32)) hx hb dX4_isWhole_126 (by decide) ?_
    exact J127 _ _ _ _ _ _ hw _ _ _ (lv_sub hl [0, 1, 2, 3, 4, 5] rfl) hP hD hS
  have J149 : ∀ x1 x3 x4 s0, v_X4_isWhole_149 n se li wm ch ne np al wo kn sp py il fl wa bo so sd ro cp nr ti on he la (fun r _ => r = bI (iwF n kn (fl a1.toNatClampNeg) (wa a1.toNatClampNeg) ro)) K4 K12 K63 x1 x3 x4 s0 → ∀ (H : Heap) (locs : List Loc) (ls : Array Slot), lv_has ls 7 [(0, .ref (q 0)), (1, .int x1), (3, .int x3), (4, .int x4)] → va_P D vwCl (wR cI cZ q (nI n) se li wm ch ne np al wo kn sp py il fl wa bo so sd ro cp nr ti on he la) H → va_D A (wR cI cZ q (nI n) se li wm ch ne np al wo kn sp py il fl wa bo so sd ro cp nr ti on he la) → va_S A s.heap H locs → W p l e (headSpec wsX4_isWhole ({ frames := 6, cells := 0, slots := 0, locals := 240 })).room s m args below meth c H locs 0 0 Q (F0 m 149 ls [.int s0]) := by
    intro x1 x3 x4 s0 hw
    intro H locs ls hl hP hD hS
    unfold v_X4_isWhole_149 at hw
    refine lv_istore_n (lv' := [(2, .int s0), (0, .ref (q 0)), (1, .int x1), (3, .int x3), (4, .int x4)]) hx hb dX4_isWhole_149 rfl hl (by decide) rfl (fun ls hl => ?_)
    exact J150 _ _ _ _ hw _ _ _ (lv_sub hl [1, 2, 0, 3, 4] rfl) hP hD hS
  have J148 : ∀ x1 x3 x4, v_X4_isWhole_148 n se li wm ch ne np al wo kn sp py il fl wa bo so sd ro cp nr ti on he la (fun r _ => r = bI (iwF n kn (fl a1.toNatClampNeg) (wa a1.toNatClampNeg) ro)) K4 K12 K63 x1 x3 x4 → ∀ (H : Heap) (locs : List Loc) (ls : Array Slot), lv_has ls 7 [(0, .ref (q 0)), (1, .int x1), (3, .int x3), (4, .int x4)] → va_P D vwCl (wR cI cZ q (nI n) se li wm ch ne np al wo kn sp py il fl wa bo so sd ro cp nr ti on he la) H → va_D A (wR cI cZ q (nI n) se li wm ch ne np al wo kn sp py il fl wa bo so sd ro cp nr ti on he la) → va_S A s.heap H locs → W p l e (headSpec wsX4_isWhole ({ frames := 6, cells := 0, slots := 0, locals := 240 })).room s m args below meth c H locs 0 0 Q (F0 m 148 ls []) := by
    intro x1 x3 x4 hw
    intro H locs ls hl hP hD hS
    unfold v_X4_isWhole_148 at hw
    refine lv_iconst (v := (0 : Int32)) hx hb dX4_isWhole_148 (by decide) ?_
    exact J149 _ _ _ _ hw _ _ _ (lv_sub hl [0, 1, 2, 3] rfl) hP hD hS
  have R63 : ∀ x1 x2 x3 x4 x5 x6, v_X4_isWhole_63 n se li wm ch ne np al wo kn sp py il fl wa bo so sd ro cp nr ti on he la (fun r _ => r = bI (iwF n kn (fl a1.toNatClampNeg) (wa a1.toNatClampNeg) ro)) K4 K12 K63 x1 x2 x3 x4 x5 x6 → K63 x1 x2 x3 x4 x5 x6 := by
    intro x1 x2 x3 x4 x5 x6 hw
    refine k63i _ _ _ _ _ _ ?_
    intro H locs ls hl hP hD hS
    unfold v_X4_isWhole_63 at hw
    refine lv_iload hx hb dX4_isWhole_63 (lv_at hl 6 rfl) ?_
    refine lv_iconst (v := (5 : Int32)) hx hb dX4_isWhole_65 (by decide) ?_
    refine lv_icmp_ge (tgt := 135) hx hb dX4_isWhole_66 (by decide) (fun hc => ?_) (fun hc => ?_)
    · replace hw := hw.1 hc
      refine lv_iload_n hx hb dX4_isWhole_135 rfl (lv_at hl 2 rfl) ?_
      refine lv_if_eq (tgt := 148) hx hb dX4_isWhole_136 (by decide) (fun hc => ?_) (fun hc => ?_)
      · replace hw := hw.1 hc
        exact J148 _ _ _ hw _ _ _ (lv_sub hl [0, 1, 3, 4] rfl) hP hD hS
      · replace hw := hw.2 hc
        refine lv_iload hx hb dX4_isWhole_139 (lv_at hl 5 rfl) ?_
        refine lv_if_eq (tgt := 148) hx hb dX4_isWhole_141 (by decide) (fun hc => ?_) (fun hc => ?_)
        · replace hw := hw.1 hc
          exact J148 _ _ _ hw _ _ _ (lv_sub hl [0, 1, 3, 4] rfl) hP hD hS
        · replace hw := hw.2 hc
          refine lv_iconst (v := (1 : Int32)) hx hb dX4_isWhole_144 (by decide) ?_
          refine lv_goto (tgt := 149) hx hb dX4_isWhole_145 (by decide) ?_
          exact J149 _ _ _ _ hw _ _ _ (lv_sub hl [0, 1, 3, 4] rfl) hP hD hS
    · replace hw := hw.2 hc
      refine lv_iload hx hb dX4_isWhole_69 (lv_at hl 5 rfl) ?_
      refine lv_if_ne (tgt := 122) hx hb dX4_isWhole_71 (by decide) (fun hc => ?_) (fun hc => ?_)
      · replace hw := hw.2 hc
        exact J122 _ _ _ _ _ hw _ _ _ (lv_sub hl [0, 1, 2, 3, 4, 6] rfl) hP hD hS
      · replace hw := hw.1 hc
        refine lv_aload_n hx hb dX4_isWhole_74 rfl (lv_at hl 0 rfl) ?_
        refine va_get (D := D) (ci := 4) (v := .ref (q 6)) (C := RX4) (T := TX4) (N := 25) hx hb hts hin4 hown hK hP 0 rfl rfl 6 (by decide) f26 (fun _ h9 => h9) rfl dX4_isWhole_75 ?_
        refine lv_iload_n hx hb dX4_isWhole_78 rfl (lv_at hl 1 rfl) ?_
        obtain ⟨hv, hw⟩ := hw
        refine va_iald hx hb hK hP 6 0 rfl rfl hv dX4_isWhole_79 ?_
        refine lv_iload hx hb dX4_isWhole_80 (lv_at hl 6 rfl) ?_
        refine zc_i0 (va_runS (As := [.int (wa x1.toNatClampNeg), .int x6]) (rest := []) ⟨hx, hb, hml, hown, hts⟩ ((c_X4_has l D cI cZ (wa x1.toNatClampNeg) x6  ) H.size) (va_cwS 2 hts gX4_isWhole_X4_has rfl rfl rfl (by decide +kernel) ⟨Nat.le_of_ble_eq_true rfl, Nat.le_of_ble_eq_true rfl⟩) (ps_of hK hN hP hD [] rfl rfl) rfl rfl hl.1 rfl (lv_room (Nat.le_of_ble_eq_true rfl)) dX4_isWhole_82 ⟨Nat.zero_le _, Nat.zero_le _⟩) hP hD hS hA (fun r u H locs hu hP hD hS => ?_)
        subst hu
        refine lv_if_eq (tgt := 126) hx hb dX4_isWhole_85 (by decide) (fun hc => ?_) (fun hc => ?_)
        · replace hw := hw.1 hc
          exact J126 _ _ _ _ _ hw _ _ _ (lv_sub hl [0, 1, 2, 3, 4, 6] rfl) hP hD hS
        · replace hw := hw.2 hc
          refine lv_iload hx hb dX4_isWhole_88 (lv_at hl 6 rfl) ?_
          refine lv_iload_n hx hb dX4_isWhole_90 rfl (lv_at hl 3 rfl) ?_
          refine lv_icmp_eq (tgt := 126) hx hb dX4_isWhole_91 (by decide) (fun hc => ?_) (fun hc => ?_)
          · replace hw := hw.1 hc
            exact J126 _ _ _ _ _ hw _ _ _ (lv_sub hl [0, 1, 2, 3, 4, 6] rfl) hP hD hS
          · replace hw := hw.2 hc
            refine lv_iload hx hb dX4_isWhole_94 (lv_at hl 6 rfl) ?_
            refine lv_iload hx hb dX4_isWhole_96 (lv_at hl 4 rfl) ?_
            refine lv_icmp_eq (tgt := 126) hx hb dX4_isWhole_98 (by decide) (fun hc => ?_) (fun hc => ?_)
            · replace hw := hw.1 hc
              exact J126 _ _ _ _ _ hw _ _ _ (lv_sub hl [0, 1, 2, 3, 4, 6] rfl) hP hD hS
            · replace hw := hw.2 hc
              refine lv_aload_n hx hb dX4_isWhole_101 rfl (lv_at hl 0 rfl) ?_
              refine lv_iload hx hb dX4_isWhole_102 (lv_at hl 4 rfl) ?_
              refine lv_iload hx hb dX4_isWhole_104 (lv_at hl 6 rfl) ?_
              refine zc_i (fun u => (wR cI cZ q (nI n) se li wm ch ne np al wo kn sp py il fl wa bo so sd ro cp nr ti on he la)) [0, 1, 2, 3, 4, 5, 6, 7, 8, 9, 10, 11, 12, 13, 14, 15, 16] [] [0, 1, 2, 3, 4, 5, 6, 7, 8, 9, 10, 11, 12, 13, 14, 15, 16] (va_runV (As := [.int x4, .int x6]) (rest := []) ⟨hx, hb, hml, hown, hts⟩ ((c_X4_allKnow l D cI cZ q n se li wm ch ne np al wo kn sp py il fl wa bo so sd ro cp nr ti on he la x4 x6 hn ) H.size) (cwV 2 hts gX4_isWhole_X4_allKnow rfl rfl rfl (by decide +kernel) ⟨Nat.le_of_ble_eq_true rfl, Nat.le_of_ble_eq_true rfl⟩) (pv_of hK hN hP hD [0, 1, 2, 3, 4, 5, 6, 7, 8, 9, 10, 11, 12, 13, 14, 15, 16] rfl rfl 4 0 rfl rfl) rfl rfl hl.1 rfl (lv_room (Nat.le_of_ble_eq_true rfl)) dX4_isWhole_106 ⟨Nat.zero_le _, Nat.zero_le _⟩) hP hD hS hA rfl rfl rfl (by decide) (fun _ => rfl) rfl (fun r u H locs hu hP hD hS => ?_)
              subst hu
              have hP : va_P D vwCl (wR cI cZ q (nI n) se li wm ch ne np al wo kn sp py il fl wa bo so sd ro cp nr ti on he la) H := hP
              have hD : va_D A (wR cI cZ q (nI n) se li wm ch ne np al wo kn sp py il fl wa bo so sd ro cp nr ti on he la) := hD
              refine lv_if_eq (tgt := 126) hx hb dX4_isWhole_109 (by decide) (fun hc => ?_) (fun hc => ?_)
              · replace hw := hw.1 hc
                exact J126 _ _ _ _ _ hw _ _ _ (lv_sub hl [0, 1, 2, 3, 4, 6] rfl) hP hD hS
              · replace hw := hw.2 hc
                refine lv_aload_n hx hb dX4_isWhole_112 rfl (lv_at hl 0 rfl) ?_
                refine lv_iload hx hb dX4_isWhole_113 (lv_at hl 6 rfl) ?_
                refine lv_iload_n hx hb dX4_isWhole_115 rfl (lv_at hl 3 rfl) ?_
                refine zc_i (fun u => (wR cI cZ q (nI n) se li wm ch ne np al wo kn sp py il fl wa bo so sd ro cp nr ti on he la)) [0, 1, 2, 3, 4, 5, 6, 7, 8, 9, 10, 11, 12, 13, 14, 15, 16] [] [0, 1, 2, 3, 4, 5, 6, 7, 8, 9, 10, 11, 12, 13, 14, 15, 16] (va_runV (As := [.int x6, .int x3]) (rest := []) ⟨hx, hb, hml, hown, hts⟩ ((c_X4_allKnow l D cI cZ q n se li wm ch ne np al wo kn sp py il fl wa bo so sd ro cp nr ti on he la x6 x3 hn ) H.size) (cwV 2 hts gX4_isWhole_X4_allKnow rfl rfl rfl (by decide +kernel) ⟨Nat.le_of_ble_eq_true rfl, Nat.le_of_ble_eq_true rfl⟩) (pv_of hK hN hP hD [0, 1, 2, 3, 4, 5, 6, 7, 8, 9, 10, 11, 12, 13, 14, 15, 16] rfl rfl 4 0 rfl rfl) rfl rfl hl.1 rfl (lv_room (Nat.le_of_ble_eq_true rfl)) dX4_isWhole_116 ⟨Nat.zero_le _, Nat.zero_le _⟩) hP hD hS hA rfl rfl rfl (by decide) (fun _ => rfl) rfl (fun r u H locs hu hP hD hS => ?_)
                subst hu
                have hP : va_P D vwCl (wR cI cZ q (nI n) se li wm ch ne np al wo kn sp py il fl wa bo so sd ro cp nr ti on he la) H := hP
                have hD : va_D A (wR cI cZ q (nI n) se li wm ch ne np al wo kn sp py il fl wa bo so sd ro cp nr ti on he la) := hD
                refine lv_if_eq (tgt := 126) hx hb dX4_isWhole_119 (by decide) (fun hc => ?_) (fun hc => ?_)
                · replace hw := hw.1 hc
                  exact J126 _ _ _ _ _ hw _ _ _ (lv_sub hl [0, 1, 2, 3, 4, 6] rfl) hP hD hS
                · replace hw := hw.2 hc
                  exact J122 _ _ _ _ _ hw _ _ _ (lv_sub hl [0, 1, 2, 3, 4, 6] rfl) hP hD hS
  have hw := h_X4_isWhole n se li wm ch ne np al wo kn sp py il fl wa bo so sd ro cp nr ti on he la  a1 hn h0 K4 K12 K63 R4 R12 R63
  unfold v_X4_isWhole_0 at hw
  refine lv_iconst (v := (1 : Int32)) hx hb dX4_isWhole_0 (by decide) ?_
  refine lv_istore_n (lv' := [(2, .int (1 : Int32)), (0, .ref (q 0)), (1, .int a1)]) hx hb dX4_isWhole_1 rfl hl (by decide) rfl (fun ls hl => ?_)
  refine lv_iconst (v := (0 : Int32)) hx hb dX4_isWhole_2 (by decide) ?_
  refine lv_istore_n (lv' := [(3, .int (0 : Int32)), (2, .int (1 : Int32)), (0, .ref (q 0)), (1, .int a1)]) hx hb dX4_isWhole_3 rfl hl (by decide) rfl (fun ls hl => ?_)
  exact k4e _ _ _ hw _ _ _ (lv_sub hl [2, 3, 1, 0] rfl) hP hD hS
set_option maxHeartbeats 4000000 in
set_option maxRecDepth 100000 in
theorem c_X4_findTeams (l : Launch) (D : va_G) (cI cZ : ClassId) (q : Nat → Nat) (n : Nat) (se : Int32) (li : Int32) (wm : Int32) (ch : Int32) (ne : Int32) (np : Int32) (al : Int32) (wo : Int32) (kn : Nat → Int32) (sp : Nat → Int32) (py : Nat → Int32) (il : Nat → Int32) (fl : Nat → Int32) (wa : Nat → Int32) (bo : Nat → Int32) (so : Nat → Int32) (sd : Nat → Int32) (ro : Nat → Int32) (cp : Nat → Int32) (nr : Nat → Int32) (ti : Nat → Int32) (on : Nat → Int32) (he : Nat → Int32) (la : Nat → Int32) (a1 : Int32) (hn : n ≤ 6) (h0 : inB a1 2 = true) : MV l yX4_findTeams wsX4_findTeams ({ frames := 8, cells := 0, slots := 0, locals := 320 }) D cI cZ [.ref (q 0), .int a1] (wR cI cZ q (nI n) se li wm ch ne np al wo kn sp py il fl wa bo so sd ro cp nr ti on he la) (fun u : Int32 × Int32 × Int32 × Int32 × Int32 × (Nat → Int32) × (Nat → Int32) × (Nat → Int32) => (wR cI cZ q (nI n) se li u.1 u.2.1 u.2.2.1 u.2.2.2.1 u.2.2.2.2.1 wo kn sp py il fl wa bo so sd u.2.2.2.2.2.1 u.2.2.2.2.2.2.1 u.2.2.2.2.2.2.2 ti on he la)) (fun u => u = ftF n kn sp py il fl wa bo se a1 (wm, ch, ne, np, al, ro, cp, nr)) := by
  refine MV_of (cc := cX4_findTeams) (maxL := 10) (by decide) rfl (Nat.le_of_ble_eq_true rfl) (fun p e s m args below meth c A Q hx hb hml hown hts hK hN hA hret H locs ls hl hP hD hS => ?_)
  have hown : s.vm.findClass RX4 = some m.cls := hown
  have hl : lv_has ls 10 [(0, .ref (q 0)), (1, .int a1)] := hl
  have hin4 : ∀ w ∈ u_ws RX4 TX4 25, w ∈ wsX4_findTeams := fun w h => List.mem_cons_of_mem _ (List.mem_append_right _ h)
  have f87 : (Cond.fieldLink RX4 87 "GlassBoothsModel" "wholeMany" "I").before args s = true := hts _ (by decide +kernel)
  have f90 : (Cond.fieldLink RX4 90 "GlassBoothsModel" "cheapest" "I").before args s = true := hts _ (by decide +kernel)
  have f93 : (Cond.fieldLink RX4 93 "GlassBoothsModel" "nearest" "I").before args s = true := hts _ (by decide +kernel)
  have f96 : (Cond.fieldLink RX4 96 "GlassBoothsModel" "always" "I").before args s = true := hts _ (by decide +kernel)
  have f66 : (Cond.fieldLink RX4 66 "GlassBoothsModel" "people" "I").before args s = true := hts _ (by decide +kernel)
  have f45 : (Cond.fieldLink RX4 45 "GlassBoothsModel" "row" "[I").before args s = true := hts _ (by decide +kernel)
  have f16 : (Cond.fieldLink RX4 16 "GlassBoothsModel" "pay" "[I").before args s = true := hts _ (by decide +kernel)
  have f33 : (Cond.fieldLink RX4 33 "GlassBoothsModel" "booth" "[I").before args s = true := hts _ (by decide +kernel)
  have f105 : (Cond.fieldLink RX4 105 "GlassBoothsModel" "nearPay" "I").before args s = true := hts _ (by decide +kernel)
  have f48 : (Cond.fieldLink RX4 48 "GlassBoothsModel" "cheap" "[I").before args s = true := hts _ (by decide +kernel)
  have f51 : (Cond.fieldLink RX4 51 "GlassBoothsModel" "near" "[I").before args s = true := hts _ (by decide +kernel)
  obtain ⟨K25, k25i, k25e⟩ := ex_K11 (fun (x1 : Int32) (x2 : Int32) (x3 : Int32) (wm_ : Int32) (ch_ : Int32) (ne_ : Int32) (np_ : Int32) (al_ : Int32) (ro_ : Nat → Int32) (cp_ : Nat → Int32) (nr_ : Nat → Int32) => ∀ (H : Heap) (locs : List Loc) (ls : Array Slot), lv_has ls 10 [(0, .ref (q 0)), (1, .int x1), (2, .int x2), (3, .int x3)] → va_P D vwCl (wR cI cZ q (nI n) se li wm_ ch_ ne_ np_ al_ wo kn sp py il fl wa bo so sd ro_ cp_ nr_ ti on he la) H → va_D A (wR cI cZ q (nI n) se li wm_ ch_ ne_ np_ al_ wo kn sp py il fl wa bo so sd ro_ cp_ nr_ ti on he la) → va_S A s.heap H locs → W p l e (headSpec wsX4_findTeams ({ frames := 8, cells := 0, slots := 0, locals := 320 })).room s m args below meth c H locs 0 0 Q (F0 m 25 ls []))
  obtain ⟨K46, k46i, k46e⟩ := ex_K11 (fun (x1 : Int32) (x2 : Int32) (x3 : Int32) (wm_ : Int32) (ch_ : Int32) (ne_ : Int32) (np_ : Int32) (al_ : Int32) (ro_ : Nat → Int32) (cp_ : Nat → Int32) (nr_ : Nat → Int32) => ∀ (H : Heap) (locs : List Loc) (ls : Array Slot), lv_has ls 10 [(0, .ref (q 0)), (1, .int x1), (2, .int x2), (3, .int x3)] → va_P D vwCl (wR cI cZ q (nI n) se li wm_ ch_ ne_ np_ al_ wo kn sp py il fl wa bo so sd ro_ cp_ nr_ ti on he la) H → va_D A (wR cI cZ q (nI n) se li wm_ ch_ ne_ np_ al_ wo kn sp py il fl wa bo so sd ro_ cp_ nr_ ti on he la) → va_S A s.heap H locs → W p l e (headSpec wsX4_findTeams ({ frames := 8, cells := 0, slots := 0, locals := 320 })).room s m args below meth c H locs 0 0 Q (F0 m 46 ls []))
  obtain ⟨K62, k62i, k62e⟩ := ex_K13 (fun (x1 : Int32) (x2 : Int32) (x3 : Int32) (x4 : Int32) (x5 : Int32) (wm_ : Int32) (ch_ : Int32) (ne_ : Int32) (np_ : Int32) (al_ : Int32) (ro_ : Nat → Int32) (cp_ : Nat → Int32) (nr_ : Nat → Int32) => ∀ (H : Heap) (locs : List Loc) (ls : Array Slot), lv_has ls 10 [(0, .ref (q 0)), (1, .int x1), (2, .int x2), (3, .int x3), (4, .int x4), (5, .int x5)] → va_P D vwCl (wR cI cZ q (nI n) se li wm_ ch_ ne_ np_ al_ wo kn sp py il fl wa bo so sd ro_ cp_ nr_ ti on he la) H → va_D A (wR cI cZ q (nI n) se li wm_ ch_ ne_ np_ al_ wo kn sp py il fl wa bo so sd ro_ cp_ nr_ ti on he la) → va_S A s.heap H locs → W p l e (headSpec wsX4_findTeams ({ frames := 8, cells := 0, slots := 0, locals := 320 })).room s m args below meth c H locs 0 0 Q (F0 m 62 ls []))
  obtain ⟨K117, k117i, k117e⟩ := ex_K14 (fun (x1 : Int32) (x2 : Int32) (x3 : Int32) (x5 : Int32) (x6 : Int32) (x7 : Int32) (wm_ : Int32) (ch_ : Int32) (ne_ : Int32) (np_ : Int32) (al_ : Int32) (ro_ : Nat → Int32) (cp_ : Nat → Int32) (nr_ : Nat → Int32) => ∀ (H : Heap) (locs : List Loc) (ls : Array Slot), lv_has ls 10 [(0, .ref (q 0)), (1, .int x1), (2, .int x2), (3, .int x3), (5, .int x5), (6, .int x6), (7, .int x7)] → va_P D vwCl (wR cI cZ q (nI n) se li wm_ ch_ ne_ np_ al_ wo kn sp py il fl wa bo so sd ro_ cp_ nr_ ti on he la) H → va_D A (wR cI cZ q (nI n) se li wm_ ch_ ne_ np_ al_ wo kn sp py il fl wa bo so sd ro_ cp_ nr_ ti on he la) → va_S A s.heap H locs → W p l e (headSpec wsX4_findTeams ({ frames := 8, cells := 0, slots := 0, locals := 320 })).room s m args below meth c H locs 0 0 Q (F0 m 117 ls []))
  obtain ⟨K298, k298i, k298e⟩ := ex_K16 (fun (x1 : Int32) (x2 : Int32) (x3 : Int32) (x5 : Int32) (x6 : Int32) (x7 : Int32) (x8 : Int32) (x9 : Int32) (wm_ : Int32) (ch_ : Int32) (ne_ : Int32) (np_ : Int32) (al_ : Int32) (ro_ : Nat → Int32) (cp_ : Nat → Int32) (nr_ : Nat → Int32) => ∀ (H : Heap) (locs : List Loc) (ls : Array Slot), lv_has ls 10 [(0, .ref (q 0)), (1, .int x1), (2, .int x2), (3, .int x3), (5, .int x5), (6, .int x6), (7, .int x7), (8, .int x8), (9, .int x9)] → va_P D vwCl (wR cI cZ q (nI n) se li wm_ ch_ ne_ np_ al_ wo kn sp py il fl wa bo so sd ro_ cp_ nr_ ti on he la) H → va_D A (wR cI cZ q (nI n) se li wm_ ch_ ne_ np_ al_ wo kn sp py il fl wa bo so sd ro_ cp_ nr_ ti on he la) → va_S A s.heap H locs → W p l e (headSpec wsX4_findTeams ({ frames := 8, cells := 0, slots := 0, locals := 320 })).room s m args below meth c H locs 0 0 Q (F0 m 298 ls []))
  have R25 : ∀ x1 x2 x3 wm_ ch_ ne_ np_ al_ ro_ cp_ nr_, v_X4_findTeams_25 n se li wo kn sp py il fl wa bo so sd ti on he la (fun u => u = ftF n kn sp py il fl wa bo se a1 (wm, ch, ne, np, al, ro, cp, nr)) K25 K46 K62 K117 K298 x1 x2 x3 wm_ ch_ ne_ np_ al_ ro_ cp_ nr_ → K25 x1 x2 x3 wm_ ch_ ne_ np_ al_ ro_ cp_ nr_ := by
    intro x1 x2 x3 wm_ ch_ ne_ np_ al_ ro_ cp_ nr_ hw
    refine k25i _ _ _ _ _ _ _ _ _ _ _ ?_
    intro H locs ls hl hP hD hS
    unfold v_X4_findTeams_25 at hw
    refine lv_iload_n hx hb dX4_findTeams_25 rfl (lv_at hl 3 rfl) ?_
    refine lv_aload_n hx hb dX4_findTeams_26 rfl (lv_at hl 0 rfl) ?_
    refine va_get (D := D) (ci := 4) (v := .int (nI n)) (C := RX4) (T := TX4) (N := 25) hx hb hts hin4 hown hK hP 0 rfl rfl 0 (by decide) f66 (fun _ h9 => h9) rfl dX4_findTeams_27 ?_
    refine lv_icmp_ge (tgt := 44) hx hb dX4_findTeams_30 (by decide) (fun hc => ?_) (fun hc => ?_)
    · replace hw := hw.1 hc
      refine lv_iconst (v := (0 : Int32)) hx hb dX4_findTeams_44 (by decide) ?_
      refine lv_istore_n (lv' := [(3, .int (0 : Int32)), (0, .ref (q 0)), (1, .int x1), (2, .int x2)]) hx hb dX4_findTeams_45 rfl hl (by decide) rfl (fun ls hl => ?_)
      exact k46e _ _ _ _ _ _ _ _ _ _ _ hw _ _ _ (lv_sub hl [1, 2, 3, 0] rfl) hP hD hS
    · replace hw := hw.2 hc
      refine lv_iload_n hx hb dX4_findTeams_33 rfl (lv_at hl 2 rfl) ?_
      refine lv_bipush (v := (6 : Int32)) hx hb dX4_findTeams_34 (by decide) ?_
      refine lv_imul hx hb dX4_findTeams_36 ?_
      refine lv_istore_n (lv' := [(2, .int (x2 * (6 : Int32))), (0, .ref (q 0)), (1, .int x1), (3, .int x3)]) hx hb dX4_findTeams_37 rfl hl (by decide) rfl (fun ls hl => ?_)
      refine lv_iinc (v := x3 + 1) (lv' := [(3, .int (x3 + 1)), (2, .int (x2 * (6 : Int32))), (0, .ref (q 0)), (1, .int x1)]) hx hb dX4_findTeams_38 hl (k := 3) rfl rfl (by decide) rfl (fun ls hl => ?_)
      refine lv_goto (tgt := 25) hx hb dX4_findTeams_41 (by decide) ?_
      exact k25e _ _ _ _ _ _ _ _ _ _ _ hw _ _ _ (lv_sub hl [2, 3, 1, 0] rfl) hP hD hS
  have R46 : ∀ x1 x2 x3 wm_ ch_ ne_ np_ al_ ro_ cp_ nr_, v_X4_findTeams_46 n se li wo kn sp py il fl wa bo so sd ti on he la (fun u => u = ftF n kn sp py il fl wa bo se a1 (wm, ch, ne, np, al, ro, cp, nr)) K25 K46 K62 K117 K298 x1 x2 x3 wm_ ch_ ne_ np_ al_ ro_ cp_ nr_ → K46 x1 x2 x3 wm_ ch_ ne_ np_ al_ ro_ cp_ nr_ := by
    intro x1 x2 x3 wm_ ch_ ne_ np_ al_ ro_ cp_ nr_ hw
    refine k46i _ _ _ _ _ _ _ _ _ _ _ ?_
    intro H locs ls hl hP hD hS
    unfold v_X4_findTeams_46 at hw
    refine lv_iload_n hx hb dX4_findTeams_46 rfl (lv_at hl 3 rfl) ?_
    refine lv_iload_n hx hb dX4_findTeams_47 rfl (lv_at hl 2 rfl) ?_
    refine lv_icmp_ge (tgt := 431) hx hb dX4_findTeams_48 (by decide) (fun hc => ?_) (fun hc => ?_)
    · replace hw := hw.1 hc
      exact hret (wm_, ch_, ne_, np_, al_, ro_, cp_, nr_) _ _ _ _ hw hP hD hS dX4_findTeams_431
    · replace hw := hw.2 hc
      refine lv_iload_n hx hb dX4_findTeams_51 rfl (lv_at hl 3 rfl) ?_
      refine lv_istore (lv' := [(4, .int x3), (0, .ref (q 0)), (1, .int x1), (2, .int x2), (3, .int x3)]) hx hb dX4_findTeams_52 hl (by decide) rfl (fun ls hl => ?_)
      refine lv_aload_n hx hb dX4_findTeams_54 rfl (lv_at hl 1 rfl) ?_
      refine va_get (D := D) (ci := 4) (v := .int (nI n)) (C := RX4) (T := TX4) (N := 25) hx hb hts hin4 hown hK hP 0 rfl rfl 0 (by decide) f66 (fun _ h9 => h9) rfl dX4_findTeams_55 ?_
      refine lv_iconst (v := (1 : Int32)) hx hb dX4_findTeams_58 (by decide) ?_
      refine lv_isub hx hb dX4_findTeams_59 ?_
      refine lv_istore (lv' := [(5, .int ((nI n) - (1 : Int32))), (4, .int x3), (0, .ref (q 0)), (1, .int x1), (2, .int x2), (3, .int x3)]) hx hb dX4_findTeams_60 hl (by decide) rfl (fun ls hl => ?_)
      exact k62e _ _ _ _ _ _ _ _ _ _ _ _ _ hw _ _ _ (lv_sub hl [2, 3, 4, 5, 1, 0] rfl) hP hD hS
  have J425 : ∀ x1 x2 x3 wm_ ch_ ne_ np_ al_ ro_ cp_ nr_, v_X4_findTeams_425 n se li wo kn sp py il fl wa bo so sd ti on he la (fun u => u = ftF n kn sp py il fl wa bo se a1 (wm, ch, ne, np, al, ro, cp, nr)) K25 K46 K62 K117 K298 x1 x2 x3 wm_ ch_ ne_ np_ al_ ro_ cp_ nr_ → ∀ (H : Heap) (locs : List Loc) (ls : Array Slot), lv_has ls 10 [(0, .ref (q 0)), (1, .int x1), (2, .int x2), (3, .int x3)] → va_P D vwCl (wR cI cZ q (nI n) se li wm_ ch_ ne_ np_ al_ wo kn sp py il fl wa bo so sd ro_ cp_ nr_ ti on he la) H → va_D A (wR cI cZ q (nI n) se li wm_ ch_ ne_ np_ al_ wo kn sp py il fl wa bo so sd ro_ cp_ nr_ ti on he la) → va_S A s.heap H locs → W p l e (headSpec wsX4_findTeams ({ frames := 8, cells := 0, slots := 0, locals := 320 })).room s m args below meth c H locs 0 0 Q (F0 m 425 ls []) := by
    intro x1 x2 x3 wm_ ch_ ne_ np_ al_ ro_ cp_ nr_ hw
    intro H locs ls hl hP hD hS
    unfold v_X4_findTeams_425 at hw
    refine lv_iinc (v := x3 + 1) (lv' := [(3, .int (x3 + 1)), (0, .ref (q 0)), (1, .int x1), (2, .int x2)]) hx hb dX4_findTeams_425 hl (k := 3) rfl rfl (by decide) rfl (fun ls hl => ?_)
    refine lv_goto (tgt := 46) hx hb dX4_findTeams_428 (by decide) ?_
    exact k46e _ _ _ _ _ _ _ _ _ _ _ hw _ _ _ (lv_sub hl [1, 2, 3, 0] rfl) hP hD hS
  have R62 : ∀ x1 x2 x3 x4 x5 wm_ ch_ ne_ np_ al_ ro_ cp_ nr_, v_X4_findTeams_62 n se li wo kn sp py il fl wa bo so sd ti on he la (fun u => u = ftF n kn sp py il fl wa bo se a1 (wm, ch, ne, np, al, ro, cp, nr)) K25 K46 K62 K117 K298 x1 x2 x3 x4 x5 wm_ ch_ ne_ np_ al_ ro_ cp_ nr_ → K62 x1 x2 x3 x4 x5 wm_ ch_ ne_ np_ al_ ro_ cp_ nr_ := by
    intro x1 x2 x3 x4 x5 wm_ ch_ ne_ np_ al_ ro_ cp_ nr_ hw
    refine k62i _ _ _ _ _ _ _ _ _ _ _ _ _ ?_
    intro H locs ls hl hP hD hS
    unfold v_X4_findTeams_62 at hw
    refine lv_iload hx hb dX4_findTeams_62 (lv_at hl 5 rfl) ?_
    refine lv_if_lt (tgt := 92) hx hb dX4_findTeams_64 (by decide) (fun hc => ?_) (fun hc => ?_)
    · replace hw := hw.1 hc
      refine lv_aload_n hx hb dX4_findTeams_92 rfl (lv_at hl 0 rfl) ?_
      refine lv_iload_n hx hb dX4_findTeams_93 rfl (lv_at hl 1 rfl) ?_
      obtain ⟨hp0, hw⟩ := hw
      refine zc_i (fun u => (wR cI cZ q (nI n) se li wm_ ch_ ne_ np_ al_ wo kn sp py il fl wa bo so sd ro_ cp_ nr_ ti on he la)) [0, 1, 2, 3, 4, 5, 6, 7, 8, 9, 10, 11, 12, 13, 14, 15, 16] [] [0, 1, 2, 3, 4, 5, 6, 7, 8, 9, 10, 11, 12, 13, 14, 15, 16] (va_runV (As := [.int x1]) (rest := []) ⟨hx, hb, hml, hown, hts⟩ ((c_X4_isTeam l D cI cZ q n se li wm_ ch_ ne_ np_ al_ wo kn sp py il fl wa bo so sd ro_ cp_ nr_ ti on he la x1 hn hp0) H.size) (cwV 1 hts gX4_findTeams_X4_isTeam rfl rfl rfl (by decide +kernel) ⟨Nat.le_of_ble_eq_true rfl, Nat.le_of_ble_eq_true rfl⟩) (pv_of hK hN hP hD [0, 1, 2, 3, 4, 5, 6, 7, 8, 9, 10, 11, 12, 13, 14, 15, 16] rfl rfl 4 0 rfl rfl) rfl rfl hl.1 rfl (lv_room (Nat.le_of_ble_eq_true rfl)) dX4_findTeams_94 ⟨Nat.zero_le _, Nat.zero_le _⟩) hP hD hS hA rfl rfl rfl (by decide) (fun _ => rfl) rfl (fun r u H locs hu hP hD hS => ?_)
      subst hu
      have hP : va_P D vwCl (wR cI cZ q (nI n) se li wm_ ch_ ne_ np_ al_ wo kn sp py il fl wa bo so sd ro_ cp_ nr_ ti on he la) H := hP
      have hD : va_D A (wR cI cZ q (nI n) se li wm_ ch_ ne_ np_ al_ wo kn sp py il fl wa bo so sd ro_ cp_ nr_ ti on he la) := hD
      refine lv_if_eq (tgt := 425) hx hb dX4_findTeams_97 (by decide) (fun hc => ?_) (fun hc => ?_)
      · replace hw := hw.1 hc
        exact J425 _ _ _ _ _ _ _ _ _ _ _ hw _ _ _ (lv_sub hl [0, 1, 2, 3] rfl) hP hD hS
      · replace hw := hw.2 hc
        refine lv_aload_n hx hb dX4_findTeams_100 rfl (lv_at hl 0 rfl) ?_
        refine lv_iload_n hx hb dX4_findTeams_101 rfl (lv_at hl 1 rfl) ?_
        obtain ⟨hp0, hw⟩ := hw
        refine zc_i (fun u => (wR cI cZ q (nI n) se li wm_ ch_ ne_ np_ al_ wo kn sp py il fl wa bo so sd ro_ cp_ nr_ ti on he la)) [0, 1, 2, 3, 4, 5, 6, 7, 8, 9, 10, 11, 12, 13, 14, 15, 16] [] [0, 1, 2, 3, 4, 5, 6, 7, 8, 9, 10, 11, 12, 13, 14, 15, 16] (va_runV (As := [.int x1]) (rest := []) ⟨hx, hb, hml, hown, hts⟩ ((c_X4_isWhole l D cI cZ q n se li wm_ ch_ ne_ np_ al_ wo kn sp py il fl wa bo so sd ro_ cp_ nr_ ti on he la x1 hn hp0) H.size) (cwV 1 hts gX4_findTeams_X4_isWhole rfl rfl rfl (by decide +kernel) ⟨Nat.le_of_ble_eq_true rfl, Nat.le_of_ble_eq_true rfl⟩) (pv_of hK hN hP hD [0, 1, 2, 3, 4, 5, 6, 7, 8, 9, 10, 11, 12, 13, 14, 15, 16] rfl rfl 4 0 rfl rfl) rfl rfl hl.1 rfl (lv_room (Nat.le_of_ble_eq_true rfl)) dX4_findTeams_102 ⟨Nat.zero_le _, Nat.zero_le _⟩) hP hD hS hA rfl rfl rfl (by decide) (fun _ => rfl) rfl (fun r u H locs hu hP hD hS => ?_)
        subst hu
        have hP : va_P D vwCl (wR cI cZ q (nI n) se li wm_ ch_ ne_ np_ al_ wo kn sp py il fl wa bo so sd ro_ cp_ nr_ ti on he la) H := hP
        have hD : va_D A (wR cI cZ q (nI n) se li wm_ ch_ ne_ np_ al_ wo kn sp py il fl wa bo so sd ro_ cp_ nr_ ti on he la) := hD
        refine lv_if_eq (tgt := 425) hx hb dX4_findTeams_105 (by decide) (fun hc => ?_) (fun hc => ?_)
        · replace hw := hw.1 hc
          exact J425 _ _ _ _ _ _ _ _ _ _ _ hw _ _ _ (lv_sub hl [0, 1, 2, 3] rfl) hP hD hS
        · replace hw := hw.2 hc
          refine lv_iconst (v := (0 : Int32)) hx hb dX4_findTeams_108 (by decide) ?_
          refine lv_istore (lv' := [(5, .int (0 : Int32)), (0, .ref (q 0)), (1, .int x1), (2, .int x2), (3, .int x3), (4, .int x4)]) hx hb dX4_findTeams_109 hl (by decide) rfl (fun ls hl => ?_)
          refine lv_iconst (v := (0 : Int32)) hx hb dX4_findTeams_111 (by decide) ?_
          refine lv_istore (lv' := [(6, .int (0 : Int32)), (5, .int (0 : Int32)), (0, .ref (q 0)), (1, .int x1), (2, .int x2), (3, .int x3), (4, .int x4)]) hx hb dX4_findTeams_112 hl (by decide) rfl (fun ls hl => ?_)
          refine lv_iconst (v := (0 : Int32)) hx hb dX4_findTeams_114 (by decide) ?_
          refine lv_istore (lv' := [(7, .int (0 : Int32)), (6, .int (0 : Int32)), (5, .int (0 : Int32)), (0, .ref (q 0)), (1, .int x1), (2, .int x2), (3, .int x3), (4, .int x4)]) hx hb dX4_findTeams_115 hl (by decide) rfl (fun ls hl => ?_)
          exact k117e _ _ _ _ _ _ _ _ _ _ _ _ _ _ hw _ _ _ (lv_sub hl [3, 4, 5, 6, 2, 1, 0] rfl) hP hD hS
    · replace hw := hw.2 hc
      refine lv_aload_n hx hb dX4_findTeams_67 rfl (lv_at hl 0 rfl) ?_
      refine va_get (D := D) (ci := 4) (v := .ref (q 10)) (C := RX4) (T := TX4) (N := 25) hx hb hts hin4 hown hK hP 0 rfl rfl 12 (by decide) f45 (fun _ h9 => h9) rfl dX4_findTeams_68 ?_
      refine lv_iload hx hb dX4_findTeams_71 (lv_at hl 5 rfl) ?_
      refine lv_iload hx hb dX4_findTeams_73 (lv_at hl 4 rfl) ?_
      refine lv_bipush (v := (6 : Int32)) hx hb dX4_findTeams_75 (by decide) ?_
      refine lv_irem hx hb dX4_findTeams_77 (by decide) ?_
      obtain ⟨hv, hw⟩ := hw
      refine va_iast hx hb hK hP hD hS 10 0 rfl rfl hv dX4_findTeams_78 (fun H locs hP hD hS => ?_)
      have hP : va_P D vwCl (wR cI cZ q (nI n) se li wm_ ch_ ne_ np_ al_ wo kn sp py il fl wa bo so sd (upd ro_ x5.toNatClampNeg (x4 - x4 / (6 : Int32) * (6 : Int32))) cp_ nr_ ti on he la) H := hP
      have hD : va_D A (wR cI cZ q (nI n) se li wm_ ch_ ne_ np_ al_ wo kn sp py il fl wa bo so sd (upd ro_ x5.toNatClampNeg (x4 - x4 / (6 : Int32) * (6 : Int32))) cp_ nr_ ti on he la) := hD
      refine lv_iload hx hb dX4_findTeams_79 (lv_at hl 4 rfl) ?_
      refine lv_bipush (v := (6 : Int32)) hx hb dX4_findTeams_81 (by decide) ?_
      refine lv_idiv hx hb dX4_findTeams_83 (by decide) ?_
      refine lv_istore (lv' := [(4, .int (x4 / (6 : Int32))), (0, .ref (q 0)), (1, .int x1), (2, .int x2), (3, .int x3), (5, .int x5)]) hx hb dX4_findTeams_84 hl (by decide) rfl (fun ls hl => ?_)
      refine lv_iinc (v := x5 + (-1)) (lv' := [(5, .int (x5 + (-1))), (4, .int (x4 / (6 : Int32))), (0, .ref (q 0)), (1, .int x1), (2, .int x2), (3, .int x3)]) hx hb dX4_findTeams_86 hl (k := 5) rfl rfl (by decide) rfl (fun ls hl => ?_)
      refine lv_goto (tgt := 62) hx hb dX4_findTeams_89 (by decide) ?_
      exact k62e _ _ _ _ _ _ _ _ _ _ _ _ _ hw _ _ _ (lv_sub hl [2, 3, 4, 5, 1, 0] rfl) hP hD hS
  have J210 : ∀ x1 x2 x3 x5 x6 x7 s0 wm_ ch_ ne_ np_ al_ ro_ cp_ nr_, v_X4_findTeams_210 n se li wo kn sp py il fl wa bo so sd ti on he la (fun u => u = ftF n kn sp py il fl wa bo se a1 (wm, ch, ne, np, al, ro, cp, nr)) K25 K46 K62 K117 K298 x1 x2 x3 x5 x6 x7 s0 wm_ ch_ ne_ np_ al_ ro_ cp_ nr_ → ∀ (H : Heap) (locs : List Loc) (ls : Array Slot), lv_has ls 10 [(0, .ref (q 0)), (1, .int x1), (2, .int x2), (3, .int x3), (5, .int x5), (6, .int x6), (7, .int x7)] → va_P D vwCl (wR cI cZ q (nI n) se li wm_ ch_ ne_ np_ al_ wo kn sp py il fl wa bo so sd ro_ cp_ nr_ ti on he la) H → va_D A (wR cI cZ q (nI n) se li wm_ ch_ ne_ np_ al_ wo kn sp py il fl wa bo so sd ro_ cp_ nr_ ti on he la) → va_S A s.heap H locs → W p l e (headSpec wsX4_findTeams ({ frames := 8, cells := 0, slots := 0, locals := 320 })).room s m args below meth c H locs 0 0 Q (F0 m 210 ls [.int s0, .ref (q 0)]) := by
    intro x1 x2 x3 x5 x6 x7 s0 wm_ ch_ ne_ np_ al_ ro_ cp_ nr_ hw
    intro H locs ls hl hP hD hS
    unfold v_X4_findTeams_210 at hw
    refine va_put (D := D) (ci := 4) (v := .int s0) (ty := .int) (C := RX4) (T := TX4) (N := 25) hx hb hts hin4 tyX4 tyX4_ok nmX4 hown hK hP hD hS 0 rfl rfl 19 (by decide) f96 (fun _ h9 => h9) rfl (by decide +kernel) rfl rfl (Nat.le_of_ble_eq_true rfl) dX4_findTeams_210 (fun H locs hP hD hS => ?_)
    have hP : va_P D vwCl (wR cI cZ q (nI n) se li wm_ ch_ ne_ np_ s0 wo kn sp py il fl wa bo so sd ro_ cp_ nr_ ti on he la) H := hP
    have hD : va_D A (wR cI cZ q (nI n) se li wm_ ch_ ne_ np_ s0 wo kn sp py il fl wa bo so sd ro_ cp_ nr_ ti on he la) := hD
    refine lv_iinc (v := x7 + 1) (lv' := [(7, .int (x7 + 1)), (0, .ref (q 0)), (1, .int x1), (2, .int x2), (3, .int x3), (5, .int x5), (6, .int x6)]) hx hb dX4_findTeams_213 hl (k := 6) rfl rfl (by decide) rfl (fun ls hl => ?_)
    refine lv_goto (tgt := 117) hx hb dX4_findTeams_216 (by decide) ?_
    exact k117e _ _ _ _ _ _ _ _ _ _ _ _ _ _ hw _ _ _ (lv_sub hl [1, 2, 3, 4, 5, 6, 0] rfl) hP hD hS
  have J177 : ∀ x1 x2 x3 x5 x7 s0 s1 wm_ ch_ ne_ np_ al_ ro_ cp_ nr_, v_X4_findTeams_177 n se li wo kn sp py il fl wa bo so sd ti on he la (fun u => u = ftF n kn sp py il fl wa bo se a1 (wm, ch, ne, np, al, ro, cp, nr)) K25 K46 K62 K117 K298 x1 x2 x3 x5 x7 s0 s1 wm_ ch_ ne_ np_ al_ ro_ cp_ nr_ → ∀ (H : Heap) (locs : List Loc) (ls : Array Slot), lv_has ls 10 [(0, .ref (q 0)), (1, .int x1), (2, .int x2), (3, .int x3), (5, .int x5), (7, .int x7)] → va_P D vwCl (wR cI cZ q (nI n) se li wm_ ch_ ne_ np_ al_ wo kn sp py il fl wa bo so sd ro_ cp_ nr_ ti on he la) H → va_D A (wR cI cZ q (nI n) se li wm_ ch_ ne_ np_ al_ wo kn sp py il fl wa bo so sd ro_ cp_ nr_ ti on he la) → va_S A s.heap H locs → W p l e (headSpec wsX4_findTeams ({ frames := 8, cells := 0, slots := 0, locals := 320 })).room s m args below meth c H locs 0 0 Q (F0 m 177 ls [.int s0, .int s1]) := by
    intro x1 x2 x3 x5 x7 s0 s1 wm_ ch_ ne_ np_ al_ ro_ cp_ nr_ hw
    intro H locs ls hl hP hD hS
    unfold v_X4_findTeams_177 at hw
    refine lv_iadd hx hb dX4_findTeams_177 ?_
    refine lv_istore (lv' := [(6, .int (s1 + s0)), (0, .ref (q 0)), (1, .int x1), (2, .int x2), (3, .int x3), (5, .int x5), (7, .int x7)]) hx hb dX4_findTeams_178 hl (by decide) rfl (fun ls hl => ?_)
    refine lv_aload_n hx hb dX4_findTeams_180 rfl (lv_at hl 1 rfl) ?_
    refine lv_aload_n hx hb dX4_findTeams_181 rfl (lv_at hl 1 rfl) ?_
    refine va_get (D := D) (ci := 4) (v := .ref (q 10)) (C := RX4) (T := TX4) (N := 25) hx hb hts hin4 hown hK hP 0 rfl rfl 12 (by decide) f45 (fun _ h9 => h9) rfl dX4_findTeams_182 ?_
    refine lv_iload hx hb dX4_findTeams_185 (lv_at hl 6 rfl) ?_
    obtain ⟨hv, hw⟩ := hw
    refine va_iald hx hb hK hP 10 0 rfl rfl hv dX4_findTeams_187 ?_
    refine lv_iconst (v := (5 : Int32)) hx hb dX4_findTeams_188 (by decide) ?_
    refine lv_icmp_ge (tgt := 199) hx hb dX4_findTeams_189 (by decide) (fun hc => ?_) (fun hc => ?_)
    · replace hw := hw.1 hc
      refine lv_aload_n hx hb dX4_findTeams_199 rfl (lv_at hl 1 rfl) ?_
      refine va_get (D := D) (ci := 4) (v := .int al_) (C := RX4) (T := TX4) (N := 25) hx hb hts hin4 hown hK hP 0 rfl rfl 19 (by decide) f96 (fun _ h9 => h9) rfl dX4_findTeams_200 ?_
      refine lv_iconst (v := (1 : Int32)) hx hb dX4_findTeams_203 (by decide) ?_
      refine lv_iload hx hb dX4_findTeams_204 (lv_at hl 6 rfl) ?_
      refine lv_ishl hx hb dX4_findTeams_206 ?_
      refine lv_iconst (v := (-1 : Int32)) hx hb dX4_findTeams_207 (by decide) ?_
      refine lv_ixor hx hb dX4_findTeams_208 ?_
      refine lv_iand hx hb dX4_findTeams_209 ?_
      exact J210 _ _ _ _ _ _ _ _ _ _ _ _ _ _ _ hw _ _ _ (lv_sub hl [1, 2, 3, 4, 5, 0, 6] rfl) hP hD hS
    · replace hw := hw.2 hc
      refine lv_aload_n hx hb dX4_findTeams_192 rfl (lv_at hl 1 rfl) ?_
      refine va_get (D := D) (ci := 4) (v := .int al_) (C := RX4) (T := TX4) (N := 25) hx hb hts hin4 hown hK hP 0 rfl rfl 19 (by decide) f96 (fun _ h9 => h9) rfl dX4_findTeams_193 ?_
      refine lv_goto (tgt := 210) hx hb dX4_findTeams_196 (by decide) ?_
      exact J210 _ _ _ _ _ _ _ _ _ _ _ _ _ _ _ hw _ _ _ (lv_sub hl [1, 2, 3, 4, 5, 0, 6] rfl) hP hD hS
  have J150 : ∀ x1 x2 x3 x6 x7 s0 s1 wm_ ch_ ne_ np_ al_ ro_ cp_ nr_, v_X4_findTeams_150 n se li wo kn sp py il fl wa bo so sd ti on he la (fun u => u = ftF n kn sp py il fl wa bo se a1 (wm, ch, ne, np, al, ro, cp, nr)) K25 K46 K62 K117 K298 x1 x2 x3 x6 x7 s0 s1 wm_ ch_ ne_ np_ al_ ro_ cp_ nr_ → ∀ (H : Heap) (locs : List Loc) (ls : Array Slot), lv_has ls 10 [(0, .ref (q 0)), (1, .int x1), (2, .int x2), (3, .int x3), (6, .int x6), (7, .int x7)] → va_P D vwCl (wR cI cZ q (nI n) se li wm_ ch_ ne_ np_ al_ wo kn sp py il fl wa bo so sd ro_ cp_ nr_ ti on he la) H → va_D A (wR cI cZ q (nI n) se li wm_ ch_ ne_ np_ al_ wo kn sp py il fl wa bo so sd ro_ cp_ nr_ ti on he la) → va_S A s.heap H locs → W p l e (headSpec wsX4_findTeams ({ frames := 8, cells := 0, slots := 0, locals := 320 })).room s m args below meth c H locs 0 0 Q (F0 m 150 ls [.int s0, .int s1]) := by
    intro x1 x2 x3 x6 x7 s0 s1 wm_ ch_ ne_ np_ al_ ro_ cp_ nr_ hw
    intro H locs ls hl hP hD hS
    unfold v_X4_findTeams_150 at hw
    refine lv_iadd hx hb dX4_findTeams_150 ?_
    refine lv_istore (lv' := [(5, .int (s1 + s0)), (0, .ref (q 0)), (1, .int x1), (2, .int x2), (3, .int x3), (6, .int x6), (7, .int x7)]) hx hb dX4_findTeams_151 hl (by decide) rfl (fun ls hl => ?_)
    refine lv_iload hx hb dX4_findTeams_153 (lv_at hl 5 rfl) ?_
    refine lv_aload_n hx hb dX4_findTeams_155 rfl (lv_at hl 1 rfl) ?_
    refine va_get (D := D) (ci := 4) (v := .ref (q 10)) (C := RX4) (T := TX4) (N := 25) hx hb hts hin4 hown hK hP 0 rfl rfl 12 (by decide) f45 (fun _ h9 => h9) rfl dX4_findTeams_156 ?_
    refine lv_iload hx hb dX4_findTeams_159 (lv_at hl 6 rfl) ?_
    obtain ⟨hv, hw⟩ := hw
    refine va_iald hx hb hK hP 10 0 rfl rfl hv dX4_findTeams_161 ?_
    refine lv_aload_n hx hb dX4_findTeams_162 rfl (lv_at hl 1 rfl) ?_
    refine va_get (D := D) (ci := 4) (v := .ref (q 7)) (C := RX4) (T := TX4) (N := 25) hx hb hts hin4 hown hK hP 0 rfl rfl 8 (by decide) f33 (fun _ h9 => h9) rfl dX4_findTeams_163 ?_
    refine lv_iload hx hb dX4_findTeams_166 (lv_at hl 6 rfl) ?_
    obtain ⟨hv, hw⟩ := hw
    refine va_iald hx hb hK hP 7 0 rfl rfl hv dX4_findTeams_168 ?_
    refine lv_icmp_eq (tgt := 176) hx hb dX4_findTeams_169 (by decide) (fun hc => ?_) (fun hc => ?_)
    · replace hw := hw.1 hc
      refine lv_iconst (v := (0 : Int32)) hx hb dX4_findTeams_176 (by decide) ?_
      exact J177 _ _ _ _ _ _ _ _ _ _ _ _ _ _ _ hw _ _ _ (lv_sub hl [1, 2, 3, 4, 0, 6] rfl) hP hD hS
    · replace hw := hw.2 hc
      refine lv_iconst (v := (1 : Int32)) hx hb dX4_findTeams_172 (by decide) ?_
      refine lv_goto (tgt := 177) hx hb dX4_findTeams_173 (by decide) ?_
      exact J177 _ _ _ _ _ _ _ _ _ _ _ _ _ _ _ hw _ _ _ (lv_sub hl [1, 2, 3, 4, 0, 6] rfl) hP hD hS
  have J293 : ∀ x1 x2 x3 x5 x6 x7 s0 wm_ ch_ ne_ np_ al_ ro_ cp_ nr_, v_X4_findTeams_293 n se li wo kn sp py il fl wa bo so sd ti on he la (fun u => u = ftF n kn sp py il fl wa bo se a1 (wm, ch, ne, np, al, ro, cp, nr)) K25 K46 K62 K117 K298 x1 x2 x3 x5 x6 x7 s0 wm_ ch_ ne_ np_ al_ ro_ cp_ nr_ → ∀ (H : Heap) (locs : List Loc) (ls : Array Slot), lv_has ls 10 [(0, .ref (q 0)), (1, .int x1), (2, .int x2), (3, .int x3), (5, .int x5), (6, .int x6), (7, .int x7)] → va_P D vwCl (wR cI cZ q (nI n) se li wm_ ch_ ne_ np_ al_ wo kn sp py il fl wa bo so sd ro_ cp_ nr_ ti on he la) H → va_D A (wR cI cZ q (nI n) se li wm_ ch_ ne_ np_ al_ wo kn sp py il fl wa bo so sd ro_ cp_ nr_ ti on he la) → va_S A s.heap H locs → W p l e (headSpec wsX4_findTeams ({ frames := 8, cells := 0, slots := 0, locals := 320 })).room s m args below meth c H locs 0 0 Q (F0 m 293 ls [.int s0]) := by
    intro x1 x2 x3 x5 x6 x7 s0 wm_ ch_ ne_ np_ al_ ro_ cp_ nr_ hw
    intro H locs ls hl hP hD hS
    unfold v_X4_findTeams_293 at hw
    refine lv_istore (lv' := [(8, .int s0), (0, .ref (q 0)), (1, .int x1), (2, .int x2), (3, .int x3), (5, .int x5), (6, .int x6), (7, .int x7)]) hx hb dX4_findTeams_293 hl (by decide) rfl (fun ls hl => ?_)
    refine lv_iconst (v := (0 : Int32)) hx hb dX4_findTeams_295 (by decide) ?_
    refine lv_istore (lv' := [(9, .int (0 : Int32)), (8, .int s0), (0, .ref (q 0)), (1, .int x1), (2, .int x2), (3, .int x3), (5, .int x5), (6, .int x6), (7, .int x7)]) hx hb dX4_findTeams_296 hl (by decide) rfl (fun ls hl => ?_)
    exact k298e _ _ _ _ _ _ _ _ _ _ _ _ _ _ _ _ hw _ _ _ (lv_sub hl [2, 3, 4, 5, 6, 7, 8, 1, 0] rfl) hP hD hS
  have J288 : ∀ x1 x2 x3 x5 x6 x7 wm_ ch_ ne_ np_ al_ ro_ cp_ nr_, v_X4_findTeams_288 n se li wo kn sp py il fl wa bo so sd ti on he la (fun u => u = ftF n kn sp py il fl wa bo se a1 (wm, ch, ne, np, al, ro, cp, nr)) K25 K46 K62 K117 K298 x1 x2 x3 x5 x6 x7 wm_ ch_ ne_ np_ al_ ro_ cp_ nr_ → ∀ (H : Heap) (locs : List Loc) (ls : Array Slot), lv_has ls 10 [(0, .ref (q 0)), (1, .int x1), (2, .int x2), (3, .int x3), (5, .int x5), (6, .int x6), (7, .int x7)] → va_P D vwCl (wR cI cZ q (nI n) se li wm_ ch_ ne_ np_ al_ wo kn sp py il fl wa bo so sd ro_ cp_ nr_ ti on he la) H → va_D A (wR cI cZ q (nI n) se li wm_ ch_ ne_ np_ al_ wo kn sp py il fl wa bo so sd ro_ cp_ nr_ ti on he la) → va_S A s.heap H locs → W p l e (headSpec wsX4_findTeams ({ frames := 8, cells := 0, slots := 0, locals := 320 })).room s m args below meth c H locs 0 0 Q (F0 m 288 ls []) := by
    intro x1 x2 x3 x5 x6 x7 wm_ ch_ ne_ np_ al_ ro_ cp_ nr_ hw
    intro H locs ls hl hP hD hS
    unfold v_X4_findTeams_288 at hw
    refine lv_iconst (v := (1 : Int32)) hx hb dX4_findTeams_288 (by decide) ?_
    refine lv_goto (tgt := 293) hx hb dX4_findTeams_289 (by decide) ?_
    exact J293 _ _ _ _ _ _ _ _ _ _ _ _ _ _ _ hw _ _ _ (lv_sub hl [0, 1, 2, 3, 4, 5, 6] rfl) hP hD hS
  have J292 : ∀ x1 x2 x3 x5 x6 x7 wm_ ch_ ne_ np_ al_ ro_ cp_ nr_, v_X4_findTeams_292 n se li wo kn sp py il fl wa bo so sd ti on he la (fun u => u = ftF n kn sp py il fl wa bo se a1 (wm, ch, ne, np, al, ro, cp, nr)) K25 K46 K62 K117 K298 x1 x2 x3 x5 x6 x7 wm_ ch_ ne_ np_ al_ ro_ cp_ nr_ → ∀ (H : Heap) (locs : List Loc) (ls : Array Slot), lv_has ls 10 [(0, .ref (q 0)), (1, .int x1), (2, .int x2), (3, .int x3), (5, .int x5), (6, .int x6), (7, .int x7)] → va_P D vwCl (wR cI cZ q (nI n) se li wm_ ch_ ne_ np_ al_ wo kn sp py il fl wa bo so sd ro_ cp_ nr_ ti on he la) H → va_D A (wR cI cZ q (nI n) se li wm_ ch_ ne_ np_ al_ wo kn sp py il fl wa bo so sd ro_ cp_ nr_ ti on he la) → va_S A s.heap H locs → W p l e (headSpec wsX4_findTeams ({ frames := 8, cells := 0, slots := 0, locals := 320 })).room s m args below meth c H locs 0 0 Q (F0 m 292 ls []) := by
    intro x1 x2 x3 x5 x6 x7 wm_ ch_ ne_ np_ al_ ro_ cp_ nr_ hw
    intro H locs ls hl hP hD hS
    unfold v_X4_findTeams_292 at hw
    refine lv_iconst (v := (0 : Int32)) hx hb dX4_findTeams_292 (by decide) ?_
    exact J293 _ _ _ _ _ _ _ _ _ _ _ _ _ _ _ hw _ _ _ (lv_sub hl [0, 1, 2, 3, 4, 5, 6] rfl) hP hD hS
  have J251 : ∀ x1 x2 x3 x5 x6 s0 wm_ ch_ ne_ np_ al_ ro_ cp_ nr_, v_X4_findTeams_251 n se li wo kn sp py il fl wa bo so sd ti on he la (fun u => u = ftF n kn sp py il fl wa bo se a1 (wm, ch, ne, np, al, ro, cp, nr)) K25 K46 K62 K117 K298 x1 x2 x3 x5 x6 s0 wm_ ch_ ne_ np_ al_ ro_ cp_ nr_ → ∀ (H : Heap) (locs : List Loc) (ls : Array Slot), lv_has ls 10 [(0, .ref (q 0)), (1, .int x1), (2, .int x2), (3, .int x3), (5, .int x5), (6, .int x6)] → va_P D vwCl (wR cI cZ q (nI n) se li wm_ ch_ ne_ np_ al_ wo kn sp py il fl wa bo so sd ro_ cp_ nr_ ti on he la) H → va_D A (wR cI cZ q (nI n) se li wm_ ch_ ne_ np_ al_ wo kn sp py il fl wa bo so sd ro_ cp_ nr_ ti on he la) → va_S A s.heap H locs → W p l e (headSpec wsX4_findTeams ({ frames := 8, cells := 0, slots := 0, locals := 320 })).room s m args below meth c H locs 0 0 Q (F0 m 251 ls [.int s0]) := by
    intro x1 x2 x3 x5 x6 s0 wm_ ch_ ne_ np_ al_ ro_ cp_ nr_ hw
    intro H locs ls hl hP hD hS
    unfold v_X4_findTeams_251 at hw
    refine lv_istore (lv' := [(7, .int s0), (0, .ref (q 0)), (1, .int x1), (2, .int x2), (3, .int x3), (5, .int x5), (6, .int x6)]) hx hb dX4_findTeams_251 hl (by decide) rfl (fun ls hl => ?_)
    refine lv_aload_n hx hb dX4_findTeams_253 rfl (lv_at hl 1 rfl) ?_
    refine va_get (D := D) (ci := 4) (v := .int ne_) (C := RX4) (T := TX4) (N := 25) hx hb hts hin4 hown hK hP 0 rfl rfl 16 (by decide) f93 (fun _ h9 => h9) rfl dX4_findTeams_254 ?_
    refine lv_iconst (v := (-1 : Int32)) hx hb dX4_findTeams_257 (by decide) ?_
    refine lv_icmp_eq (tgt := 288) hx hb dX4_findTeams_258 (by decide) (fun hc => ?_) (fun hc => ?_)
    · replace hw := hw.1 hc
      exact J288 _ _ _ _ _ _ _ _ _ _ _ _ _ _ hw _ _ _ (lv_sub hl [1, 2, 3, 4, 5, 6, 0] rfl) hP hD hS
    · replace hw := hw.2 hc
      refine lv_iload hx hb dX4_findTeams_261 (lv_at hl 6 rfl) ?_
      refine lv_aload_n hx hb dX4_findTeams_263 rfl (lv_at hl 1 rfl) ?_
      refine va_get (D := D) (ci := 4) (v := .int ne_) (C := RX4) (T := TX4) (N := 25) hx hb hts hin4 hown hK hP 0 rfl rfl 16 (by decide) f93 (fun _ h9 => h9) rfl dX4_findTeams_264 ?_
      refine lv_icmp_lt (tgt := 288) hx hb dX4_findTeams_267 (by decide) (fun hc => ?_) (fun hc => ?_)
      · replace hw := hw.1 hc
        exact J288 _ _ _ _ _ _ _ _ _ _ _ _ _ _ hw _ _ _ (lv_sub hl [1, 2, 3, 4, 5, 6, 0] rfl) hP hD hS
      · replace hw := hw.2 hc
        refine lv_iload hx hb dX4_findTeams_270 (lv_at hl 6 rfl) ?_
        refine lv_aload_n hx hb dX4_findTeams_272 rfl (lv_at hl 1 rfl) ?_
        refine va_get (D := D) (ci := 4) (v := .int ne_) (C := RX4) (T := TX4) (N := 25) hx hb hts hin4 hown hK hP 0 rfl rfl 16 (by decide) f93 (fun _ h9 => h9) rfl dX4_findTeams_273 ?_
        refine lv_icmp_ne (tgt := 292) hx hb dX4_findTeams_276 (by decide) (fun hc => ?_) (fun hc => ?_)
        · replace hw := hw.2 hc
          exact J292 _ _ _ _ _ _ _ _ _ _ _ _ _ _ hw _ _ _ (lv_sub hl [1, 2, 3, 4, 5, 6, 0] rfl) hP hD hS
        · replace hw := hw.1 hc
          refine lv_iload hx hb dX4_findTeams_279 (lv_at hl 5 rfl) ?_
          refine lv_aload_n hx hb dX4_findTeams_281 rfl (lv_at hl 1 rfl) ?_
          refine va_get (D := D) (ci := 4) (v := .int np_) (C := RX4) (T := TX4) (N := 25) hx hb hts hin4 hown hK hP 0 rfl rfl 17 (by decide) f105 (fun _ h9 => h9) rfl dX4_findTeams_282 ?_
          refine lv_icmp_ge (tgt := 292) hx hb dX4_findTeams_285 (by decide) (fun hc => ?_) (fun hc => ?_)
          · replace hw := hw.1 hc
            exact J292 _ _ _ _ _ _ _ _ _ _ _ _ _ _ hw _ _ _ (lv_sub hl [1, 2, 3, 4, 5, 6, 0] rfl) hP hD hS
          · replace hw := hw.2 hc
            exact J288 _ _ _ _ _ _ _ _ _ _ _ _ _ _ hw _ _ _ (lv_sub hl [1, 2, 3, 4, 5, 6, 0] rfl) hP hD hS
  have J246 : ∀ x1 x2 x3 x5 x6 wm_ ch_ ne_ np_ al_ ro_ cp_ nr_, v_X4_findTeams_246 n se li wo kn sp py il fl wa bo so sd ti on he la (fun u => u = ftF n kn sp py il fl wa bo se a1 (wm, ch, ne, np, al, ro, cp, nr)) K25 K46 K62 K117 K298 x1 x2 x3 x5 x6 wm_ ch_ ne_ np_ al_ ro_ cp_ nr_ → ∀ (H : Heap) (locs : List Loc) (ls : Array Slot), lv_has ls 10 [(0, .ref (q 0)), (1, .int x1), (2, .int x2), (3, .int x3), (5, .int x5), (6, .int x6)] → va_P D vwCl (wR cI cZ q (nI n) se li wm_ ch_ ne_ np_ al_ wo kn sp py il fl wa bo so sd ro_ cp_ nr_ ti on he la) H → va_D A (wR cI cZ q (nI n) se li wm_ ch_ ne_ np_ al_ wo kn sp py il fl wa bo so sd ro_ cp_ nr_ ti on he la) → va_S A s.heap H locs → W p l e (headSpec wsX4_findTeams ({ frames := 8, cells := 0, slots := 0, locals := 320 })).room s m args below meth c H locs 0 0 Q (F0 m 246 ls []) := by
    intro x1 x2 x3 x5 x6 wm_ ch_ ne_ np_ al_ ro_ cp_ nr_ hw
    intro H locs ls hl hP hD hS
    unfold v_X4_findTeams_246 at hw
    refine lv_iconst (v := (1 : Int32)) hx hb dX4_findTeams_246 (by decide) ?_
    refine lv_goto (tgt := 251) hx hb dX4_findTeams_247 (by decide) ?_
    exact J251 _ _ _ _ _ _ _ _ _ _ _ _ _ _ hw _ _ _ (lv_sub hl [0, 1, 2, 3, 4, 5] rfl) hP hD hS
  have R117 : ∀ x1 x2 x3 x5 x6 x7 wm_ ch_ ne_ np_ al_ ro_ cp_ nr_, v_X4_findTeams_117 n se li wo kn sp py il fl wa bo so sd ti on he la (fun u => u = ftF n kn sp py il fl wa bo se a1 (wm, ch, ne, np, al, ro, cp, nr)) K25 K46 K62 K117 K298 x1 x2 x3 x5 x6 x7 wm_ ch_ ne_ np_ al_ ro_ cp_ nr_ → K117 x1 x2 x3 x5 x6 x7 wm_ ch_ ne_ np_ al_ ro_ cp_ nr_ := by
    intro x1 x2 x3 x5 x6 x7 wm_ ch_ ne_ np_ al_ ro_ cp_ nr_ hw
    refine k117i _ _ _ _ _ _ _ _ _ _ _ _ _ _ ?_
    intro H locs ls hl hP hD hS
    unfold v_X4_findTeams_117 at hw
    refine lv_iload hx hb dX4_findTeams_117 (lv_at hl 6 rfl) ?_
    refine lv_aload_n hx hb dX4_findTeams_119 rfl (lv_at hl 0 rfl) ?_
    refine va_get (D := D) (ci := 4) (v := .int (nI n)) (C := RX4) (T := TX4) (N := 25) hx hb hts hin4 hown hK hP 0 rfl rfl 0 (by decide) f66 (fun _ h9 => h9) rfl dX4_findTeams_120 ?_
    refine lv_icmp_ge (tgt := 219) hx hb dX4_findTeams_123 (by decide) (fun hc => ?_) (fun hc => ?_)
    · replace hw := hw.1 hc
      refine lv_aload_n hx hb dX4_findTeams_219 rfl (lv_at hl 0 rfl) ?_
      refine lv_dup hx hb dX4_findTeams_220 rfl ?_
      refine va_get (D := D) (ci := 4) (v := .int wm_) (C := RX4) (T := TX4) (N := 25) hx hb hts hin4 hown hK hP 0 rfl rfl 13 (by decide) f87 (fun _ h9 => h9) rfl dX4_findTeams_221 ?_
      refine lv_iconst (v := (1 : Int32)) hx hb dX4_findTeams_224 (by decide) ?_
      refine lv_iadd hx hb dX4_findTeams_225 ?_
      refine va_put (D := D) (ci := 4) (v := .int (wm_ + (1 : Int32))) (ty := .int) (C := RX4) (T := TX4) (N := 25) hx hb hts hin4 tyX4 tyX4_ok nmX4 hown hK hP hD hS 0 rfl rfl 13 (by decide) f87 (fun _ h9 => h9) rfl (by decide +kernel) rfl rfl (Nat.le_of_ble_eq_true rfl) dX4_findTeams_226 (fun H locs hP hD hS => ?_)
      have hP : va_P D vwCl (wR cI cZ q (nI n) se li (wm_ + (1 : Int32)) ch_ ne_ np_ al_ wo kn sp py il fl wa bo so sd ro_ cp_ nr_ ti on he la) H := hP
      have hD : va_D A (wR cI cZ q (nI n) se li (wm_ + (1 : Int32)) ch_ ne_ np_ al_ wo kn sp py il fl wa bo so sd ro_ cp_ nr_ ti on he la) := hD
      refine lv_aload_n hx hb dX4_findTeams_229 rfl (lv_at hl 0 rfl) ?_
      refine va_get (D := D) (ci := 4) (v := .int ch_) (C := RX4) (T := TX4) (N := 25) hx hb hts hin4 hown hK hP 0 rfl rfl 14 (by decide) f90 (fun _ h9 => h9) rfl dX4_findTeams_230 ?_
      refine lv_iconst (v := (-1 : Int32)) hx hb dX4_findTeams_233 (by decide) ?_
      refine lv_icmp_eq (tgt := 246) hx hb dX4_findTeams_234 (by decide) (fun hc => ?_) (fun hc => ?_)
      · replace hw := hw.1 hc
        exact J246 _ _ _ _ _ _ _ _ _ _ _ _ _ hw _ _ _ (lv_sub hl [0, 1, 2, 3, 4, 5] rfl) hP hD hS
      · replace hw := hw.2 hc
        refine lv_iload hx hb dX4_findTeams_237 (lv_at hl 4 rfl) ?_
        refine lv_aload_n hx hb dX4_findTeams_239 rfl (lv_at hl 0 rfl) ?_
        refine va_get (D := D) (ci := 4) (v := .int ch_) (C := RX4) (T := TX4) (N := 25) hx hb hts hin4 hown hK hP 0 rfl rfl 14 (by decide) f90 (fun _ h9 => h9) rfl dX4_findTeams_240 ?_
        refine lv_icmp_ge (tgt := 250) hx hb dX4_findTeams_243 (by decide) (fun hc => ?_) (fun hc => ?_)
        · replace hw := hw.1 hc
          refine lv_iconst (v := (0 : Int32)) hx hb dX4_findTeams_250 (by decide) ?_
          exact J251 _ _ _ _ _ _ _ _ _ _ _ _ _ _ hw _ _ _ (lv_sub hl [0, 1, 2, 3, 4, 5] rfl) hP hD hS
        · replace hw := hw.2 hc
          exact J246 _ _ _ _ _ _ _ _ _ _ _ _ _ hw _ _ _ (lv_sub hl [0, 1, 2, 3, 4, 5] rfl) hP hD hS
    · replace hw := hw.2 hc
      refine lv_iload hx hb dX4_findTeams_126 (lv_at hl 4 rfl) ?_
      refine lv_aload_n hx hb dX4_findTeams_128 rfl (lv_at hl 0 rfl) ?_
      refine va_get (D := D) (ci := 4) (v := .ref (q 10)) (C := RX4) (T := TX4) (N := 25) hx hb hts hin4 hown hK hP 0 rfl rfl 12 (by decide) f45 (fun _ h9 => h9) rfl dX4_findTeams_129 ?_
      refine lv_iload hx hb dX4_findTeams_132 (lv_at hl 6 rfl) ?_
      obtain ⟨hv, hw⟩ := hw
      refine va_iald hx hb hK hP 10 0 rfl rfl hv dX4_findTeams_134 ?_
      refine lv_iconst (v := (5 : Int32)) hx hb dX4_findTeams_135 (by decide) ?_
      refine lv_icmp_ge (tgt := 149) hx hb dX4_findTeams_136 (by decide) (fun hc => ?_) (fun hc => ?_)
      · replace hw := hw.1 hc
        refine lv_iconst (v := (0 : Int32)) hx hb dX4_findTeams_149 (by decide) ?_
        exact J150 _ _ _ _ _ _ _ _ _ _ _ _ _ _ _ hw _ _ _ (lv_sub hl [0, 1, 2, 3, 5, 6] rfl) hP hD hS
      · replace hw := hw.2 hc
        refine lv_aload_n hx hb dX4_findTeams_139 rfl (lv_at hl 0 rfl) ?_
        refine va_get (D := D) (ci := 4) (v := .ref (q 3)) (C := RX4) (T := TX4) (N := 25) hx hb hts hin4 hown hK hP 0 rfl rfl 3 (by decide) f16 (fun _ h9 => h9) rfl dX4_findTeams_140 ?_
        refine lv_iload hx hb dX4_findTeams_143 (lv_at hl 6 rfl) ?_
        obtain ⟨hv, hw⟩ := hw
        refine va_iald hx hb hK hP 3 0 rfl rfl hv dX4_findTeams_145 ?_
        refine lv_goto (tgt := 150) hx hb dX4_findTeams_146 (by decide) ?_
        exact J150 _ _ _ _ _ _ _ _ _ _ _ _ _ _ _ hw _ _ _ (lv_sub hl [0, 1, 2, 3, 5, 6] rfl) hP hD hS
  have J364 : ∀ x1 x2 x3 x5 x6 x7 x8 x9 s0 s1 wm_ ch_ ne_ np_ al_ ro_ cp_ nr_, v_X4_findTeams_364 n se li wo kn sp py il fl wa bo so sd ti on he la (fun u => u = ftF n kn sp py il fl wa bo se a1 (wm, ch, ne, np, al, ro, cp, nr)) K25 K46 K62 K117 K298 x1 x2 x3 x5 x6 x7 x8 x9 s0 s1 wm_ ch_ ne_ np_ al_ ro_ cp_ nr_ → ∀ (H : Heap) (locs : List Loc) (ls : Array Slot), lv_has ls 10 [(0, .ref (q 0)), (1, .int x1), (2, .int x2), (3, .int x3), (5, .int x5), (6, .int x6), (7, .int x7), (8, .int x8), (9, .int x9)] → va_P D vwCl (wR cI cZ q (nI n) se li wm_ ch_ ne_ np_ al_ wo kn sp py il fl wa bo so sd ro_ cp_ nr_ ti on he la) H → va_D A (wR cI cZ q (nI n) se li wm_ ch_ ne_ np_ al_ wo kn sp py il fl wa bo so sd ro_ cp_ nr_ ti on he la) → va_S A s.heap H locs → W p l e (headSpec wsX4_findTeams ({ frames := 8, cells := 0, slots := 0, locals := 320 })).room s m args below meth c H locs 0 0 Q (F0 m 364 ls [.int s0, .int s1, .ref (q 12)]) := by
    intro x1 x2 x3 x5 x6 x7 x8 x9 s0 s1 wm_ ch_ ne_ np_ al_ ro_ cp_ nr_ hw
    intro H locs ls hl hP hD hS
    unfold v_X4_findTeams_364 at hw
    obtain ⟨hv, hw⟩ := hw
    refine va_iast hx hb hK hP hD hS 12 0 rfl rfl hv dX4_findTeams_364 (fun H locs hP hD hS => ?_)
    have hP : va_P D vwCl (wR cI cZ q (nI n) se li wm_ ch_ ne_ np_ al_ wo kn sp py il fl wa bo so sd ro_ cp_ (upd nr_ s1.toNatClampNeg s0) ti on he la) H := hP
    have hD : va_D A (wR cI cZ q (nI n) se li wm_ ch_ ne_ np_ al_ wo kn sp py il fl wa bo so sd ro_ cp_ (upd nr_ s1.toNatClampNeg s0) ti on he la) := hD
    refine lv_iinc (v := x9 + 1) (lv' := [(9, .int (x9 + 1)), (0, .ref (q 0)), (1, .int x1), (2, .int x2), (3, .int x3), (5, .int x5), (6, .int x6), (7, .int x7), (8, .int x8)]) hx hb dX4_findTeams_365 hl (k := 8) rfl rfl (by decide) rfl (fun ls hl => ?_)
    refine lv_goto (tgt := 298) hx hb dX4_findTeams_368 (by decide) ?_
    exact k298e _ _ _ _ _ _ _ _ _ _ _ _ _ _ _ _ hw _ _ _ (lv_sub hl [1, 2, 3, 4, 5, 6, 7, 8, 0] rfl) hP hD hS
  have J335 : ∀ x1 x2 x3 x5 x6 x7 x8 x9 s0 s1 wm_ ch_ ne_ np_ al_ ro_ cp_ nr_, v_X4_findTeams_335 n se li wo kn sp py il fl wa bo so sd ti on he la (fun u => u = ftF n kn sp py il fl wa bo se a1 (wm, ch, ne, np, al, ro, cp, nr)) K25 K46 K62 K117 K298 x1 x2 x3 x5 x6 x7 x8 x9 s0 s1 wm_ ch_ ne_ np_ al_ ro_ cp_ nr_ → ∀ (H : Heap) (locs : List Loc) (ls : Array Slot), lv_has ls 10 [(0, .ref (q 0)), (1, .int x1), (2, .int x2), (3, .int x3), (5, .int x5), (6, .int x6), (7, .int x7), (8, .int x8), (9, .int x9)] → va_P D vwCl (wR cI cZ q (nI n) se li wm_ ch_ ne_ np_ al_ wo kn sp py il fl wa bo so sd ro_ cp_ nr_ ti on he la) H → va_D A (wR cI cZ q (nI n) se li wm_ ch_ ne_ np_ al_ wo kn sp py il fl wa bo so sd ro_ cp_ nr_ ti on he la) → va_S A s.heap H locs → W p l e (headSpec wsX4_findTeams ({ frames := 8, cells := 0, slots := 0, locals := 320 })).room s m args below meth c H locs 0 0 Q (F0 m 335 ls [.int s0, .int s1, .ref (q 11)]) := by
    intro x1 x2 x3 x5 x6 x7 x8 x9 s0 s1 wm_ ch_ ne_ np_ al_ ro_ cp_ nr_ hw
    intro H locs ls hl hP hD hS
    unfold v_X4_findTeams_335 at hw
    obtain ⟨hv, hw⟩ := hw
    refine va_iast hx hb hK hP hD hS 11 0 rfl rfl hv dX4_findTeams_335 (fun H locs hP hD hS => ?_)
    have hP : va_P D vwCl (wR cI cZ q (nI n) se li wm_ ch_ ne_ np_ al_ wo kn sp py il fl wa bo so sd ro_ (upd cp_ s1.toNatClampNeg s0) nr_ ti on he la) H := hP
    have hD : va_D A (wR cI cZ q (nI n) se li wm_ ch_ ne_ np_ al_ wo kn sp py il fl wa bo so sd ro_ (upd cp_ s1.toNatClampNeg s0) nr_ ti on he la) := hD
    refine lv_aload_n hx hb dX4_findTeams_336 rfl (lv_at hl 0 rfl) ?_
    refine va_get (D := D) (ci := 4) (v := .ref (q 12)) (C := RX4) (T := TX4) (N := 25) hx hb hts hin4 hown hK hP 0 rfl rfl 18 (by decide) f51 (fun _ h9 => h9) rfl dX4_findTeams_337 ?_
    refine lv_iload hx hb dX4_findTeams_340 (lv_at hl 8 rfl) ?_
    refine lv_iload hx hb dX4_findTeams_342 (lv_at hl 7 rfl) ?_
    refine lv_if_eq (tgt := 357) hx hb dX4_findTeams_344 (by decide) (fun hc => ?_) (fun hc => ?_)
    · replace hw := hw.1 hc
      refine lv_aload_n hx hb dX4_findTeams_357 rfl (lv_at hl 0 rfl) ?_
      refine va_get (D := D) (ci := 4) (v := .ref (q 12)) (C := RX4) (T := TX4) (N := 25) hx hb hts hin4 hown hK hP 0 rfl rfl 18 (by decide) f51 (fun _ h9 => h9) rfl dX4_findTeams_358 ?_
      refine lv_iload hx hb dX4_findTeams_361 (lv_at hl 8 rfl) ?_
      obtain ⟨hv, hw⟩ := hw
      refine va_iald hx hb hK hP 12 0 rfl rfl hv dX4_findTeams_363 ?_
      exact J364 _ _ _ _ _ _ _ _ _ _ _ _ _ _ _ _ _ _ hw _ _ _ (lv_sub hl [0, 1, 2, 3, 4, 5, 6, 7, 8] rfl) hP hD hS
    · replace hw := hw.2 hc
      refine lv_aload_n hx hb dX4_findTeams_347 rfl (lv_at hl 0 rfl) ?_
      refine va_get (D := D) (ci := 4) (v := .ref (q 10)) (C := RX4) (T := TX4) (N := 25) hx hb hts hin4 hown hK hP 0 rfl rfl 12 (by decide) f45 (fun _ h9 => h9) rfl dX4_findTeams_348 ?_
      refine lv_iload hx hb dX4_findTeams_351 (lv_at hl 8 rfl) ?_
      obtain ⟨hv, hw⟩ := hw
      refine va_iald hx hb hK hP 10 0 rfl rfl hv dX4_findTeams_353 ?_
      refine lv_goto (tgt := 364) hx hb dX4_findTeams_354 (by decide) ?_
      exact J364 _ _ _ _ _ _ _ _ _ _ _ _ _ _ _ _ _ _ hw _ _ _ (lv_sub hl [0, 1, 2, 3, 4, 5, 6, 7, 8] rfl) hP hD hS
  have J422 : ∀ x1 x2 x3 s0 wm_ ch_ ne_ np_ al_ ro_ cp_ nr_, v_X4_findTeams_422 n se li wo kn sp py il fl wa bo so sd ti on he la (fun u => u = ftF n kn sp py il fl wa bo se a1 (wm, ch, ne, np, al, ro, cp, nr)) K25 K46 K62 K117 K298 x1 x2 x3 s0 wm_ ch_ ne_ np_ al_ ro_ cp_ nr_ → ∀ (H : Heap) (locs : List Loc) (ls : Array Slot), lv_has ls 10 [(0, .ref (q 0)), (1, .int x1), (2, .int x2), (3, .int x3)] → va_P D vwCl (wR cI cZ q (nI n) se li wm_ ch_ ne_ np_ al_ wo kn sp py il fl wa bo so sd ro_ cp_ nr_ ti on he la) H → va_D A (wR cI cZ q (nI n) se li wm_ ch_ ne_ np_ al_ wo kn sp py il fl wa bo so sd ro_ cp_ nr_ ti on he la) → va_S A s.heap H locs → W p l e (headSpec wsX4_findTeams ({ frames := 8, cells := 0, slots := 0, locals := 320 })).room s m args below meth c H locs 0 0 Q (F0 m 422 ls [.int s0, .ref (q 0)]) := by
    intro x1 x2 x3 s0 wm_ ch_ ne_ np_ al_ ro_ cp_ nr_ hw
    intro H locs ls hl hP hD hS
    unfold v_X4_findTeams_422 at hw
    refine va_put (D := D) (ci := 4) (v := .int s0) (ty := .int) (C := RX4) (T := TX4) (N := 25) hx hb hts hin4 tyX4 tyX4_ok nmX4 hown hK hP hD hS 0 rfl rfl 17 (by decide) f105 (fun _ h9 => h9) rfl (by decide +kernel) rfl rfl (Nat.le_of_ble_eq_true rfl) dX4_findTeams_422 (fun H locs hP hD hS => ?_)
    have hP : va_P D vwCl (wR cI cZ q (nI n) se li wm_ ch_ ne_ s0 al_ wo kn sp py il fl wa bo so sd ro_ cp_ nr_ ti on he la) H := hP
    have hD : va_D A (wR cI cZ q (nI n) se li wm_ ch_ ne_ s0 al_ wo kn sp py il fl wa bo so sd ro_ cp_ nr_ ti on he la) := hD
    exact J425 _ _ _ _ _ _ _ _ _ _ _ hw _ _ _ (lv_sub hl [0, 1, 2, 3] rfl) hP hD hS
  have J404 : ∀ x1 x2 x3 x5 x8 s0 wm_ ch_ ne_ np_ al_ ro_ cp_ nr_, v_X4_findTeams_404 n se li wo kn sp py il fl wa bo so sd ti on he la (fun u => u = ftF n kn sp py il fl wa bo se a1 (wm, ch, ne, np, al, ro, cp, nr)) K25 K46 K62 K117 K298 x1 x2 x3 x5 x8 s0 wm_ ch_ ne_ np_ al_ ro_ cp_ nr_ → ∀ (H : Heap) (locs : List Loc) (ls : Array Slot), lv_has ls 10 [(0, .ref (q 0)), (1, .int x1), (2, .int x2), (3, .int x3), (5, .int x5), (8, .int x8)] → va_P D vwCl (wR cI cZ q (nI n) se li wm_ ch_ ne_ np_ al_ wo kn sp py il fl wa bo so sd ro_ cp_ nr_ ti on he la) H → va_D A (wR cI cZ q (nI n) se li wm_ ch_ ne_ np_ al_ wo kn sp py il fl wa bo so sd ro_ cp_ nr_ ti on he la) → va_S A s.heap H locs → W p l e (headSpec wsX4_findTeams ({ frames := 8, cells := 0, slots := 0, locals := 320 })).room s m args below meth c H locs 0 0 Q (F0 m 404 ls [.int s0, .ref (q 0)]) := by
    intro x1 x2 x3 x5 x8 s0 wm_ ch_ ne_ np_ al_ ro_ cp_ nr_ hw
    intro H locs ls hl hP hD hS
    unfold v_X4_findTeams_404 at hw
    refine va_put (D := D) (ci := 4) (v := .int s0) (ty := .int) (C := RX4) (T := TX4) (N := 25) hx hb hts hin4 tyX4 tyX4_ok nmX4 hown hK hP hD hS 0 rfl rfl 16 (by decide) f93 (fun _ h9 => h9) rfl (by decide +kernel) rfl rfl (Nat.le_of_ble_eq_true rfl) dX4_findTeams_404 (fun H locs hP hD hS => ?_)
    have hP : va_P D vwCl (wR cI cZ q (nI n) se li wm_ ch_ s0 np_ al_ wo kn sp py il fl wa bo so sd ro_ cp_ nr_ ti on he la) H := hP
    have hD : va_D A (wR cI cZ q (nI n) se li wm_ ch_ s0 np_ al_ wo kn sp py il fl wa bo so sd ro_ cp_ nr_ ti on he la) := hD
    refine lv_aload_n hx hb dX4_findTeams_407 rfl (lv_at hl 0 rfl) ?_
    refine lv_iload hx hb dX4_findTeams_408 (lv_at hl 5 rfl) ?_
    refine lv_if_eq (tgt := 418) hx hb dX4_findTeams_410 (by decide) (fun hc => ?_) (fun hc => ?_)
    · replace hw := hw.1 hc
      refine lv_aload_n hx hb dX4_findTeams_418 rfl (lv_at hl 0 rfl) ?_
      refine va_get (D := D) (ci := 4) (v := .int np_) (C := RX4) (T := TX4) (N := 25) hx hb hts hin4 hown hK hP 0 rfl rfl 17 (by decide) f105 (fun _ h9 => h9) rfl dX4_findTeams_419 ?_
      exact J422 _ _ _ _ _ _ _ _ _ _ _ _ hw _ _ _ (lv_sub hl [0, 1, 2, 3] rfl) hP hD hS
    · replace hw := hw.2 hc
      refine lv_iload hx hb dX4_findTeams_413 (lv_at hl 4 rfl) ?_
      refine lv_goto (tgt := 422) hx hb dX4_findTeams_415 (by decide) ?_
      exact J422 _ _ _ _ _ _ _ _ _ _ _ _ hw _ _ _ (lv_sub hl [0, 1, 2, 3] rfl) hP hD hS
  have J386 : ∀ x1 x2 x3 x5 x6 x8 s0 wm_ ch_ ne_ np_ al_ ro_ cp_ nr_, v_X4_findTeams_386 n se li wo kn sp py il fl wa bo so sd ti on he la (fun u => u = ftF n kn sp py il fl wa bo se a1 (wm, ch, ne, np, al, ro, cp, nr)) K25 K46 K62 K117 K298 x1 x2 x3 x5 x6 x8 s0 wm_ ch_ ne_ np_ al_ ro_ cp_ nr_ → ∀ (H : Heap) (locs : List Loc) (ls : Array Slot), lv_has ls 10 [(0, .ref (q 0)), (1, .int x1), (2, .int x2), (3, .int x3), (5, .int x5), (6, .int x6), (8, .int x8)] → va_P D vwCl (wR cI cZ q (nI n) se li wm_ ch_ ne_ np_ al_ wo kn sp py il fl wa bo so sd ro_ cp_ nr_ ti on he la) H → va_D A (wR cI cZ q (nI n) se li wm_ ch_ ne_ np_ al_ wo kn sp py il fl wa bo so sd ro_ cp_ nr_ ti on he la) → va_S A s.heap H locs → W p l e (headSpec wsX4_findTeams ({ frames := 8, cells := 0, slots := 0, locals := 320 })).room s m args below meth c H locs 0 0 Q (F0 m 386 ls [.int s0, .ref (q 0)]) := by
    intro x1 x2 x3 x5 x6 x8 s0 wm_ ch_ ne_ np_ al_ ro_ cp_ nr_ hw
    intro H locs ls hl hP hD hS
    unfold v_X4_findTeams_386 at hw
    refine va_put (D := D) (ci := 4) (v := .int s0) (ty := .int) (C := RX4) (T := TX4) (N := 25) hx hb hts hin4 tyX4 tyX4_ok nmX4 hown hK hP hD hS 0 rfl rfl 14 (by decide) f90 (fun _ h9 => h9) rfl (by decide +kernel) rfl rfl (Nat.le_of_ble_eq_true rfl) dX4_findTeams_386 (fun H locs hP hD hS => ?_)
    have hP : va_P D vwCl (wR cI cZ q (nI n) se li wm_ s0 ne_ np_ al_ wo kn sp py il fl wa bo so sd ro_ cp_ nr_ ti on he la) H := hP
    have hD : va_D A (wR cI cZ q (nI n) se li wm_ s0 ne_ np_ al_ wo kn sp py il fl wa bo so sd ro_ cp_ nr_ ti on he la) := hD
    refine lv_aload_n hx hb dX4_findTeams_389 rfl (lv_at hl 0 rfl) ?_
    refine lv_iload hx hb dX4_findTeams_390 (lv_at hl 6 rfl) ?_
    refine lv_if_eq (tgt := 400) hx hb dX4_findTeams_392 (by decide) (fun hc => ?_) (fun hc => ?_)
    · replace hw := hw.1 hc
      refine lv_aload_n hx hb dX4_findTeams_400 rfl (lv_at hl 0 rfl) ?_
      refine va_get (D := D) (ci := 4) (v := .int ne_) (C := RX4) (T := TX4) (N := 25) hx hb hts hin4 hown hK hP 0 rfl rfl 16 (by decide) f93 (fun _ h9 => h9) rfl dX4_findTeams_401 ?_
      exact J404 _ _ _ _ _ _ _ _ _ _ _ _ _ _ hw _ _ _ (lv_sub hl [0, 1, 2, 3, 4, 6] rfl) hP hD hS
    · replace hw := hw.2 hc
      refine lv_iload hx hb dX4_findTeams_395 (lv_at hl 5 rfl) ?_
      refine lv_goto (tgt := 404) hx hb dX4_findTeams_397 (by decide) ?_
      exact J404 _ _ _ _ _ _ _ _ _ _ _ _ _ _ hw _ _ _ (lv_sub hl [0, 1, 2, 3, 4, 6] rfl) hP hD hS
  have R298 : ∀ x1 x2 x3 x5 x6 x7 x8 x9 wm_ ch_ ne_ np_ al_ ro_ cp_ nr_, v_X4_findTeams_298 n se li wo kn sp py il fl wa bo so sd ti on he la (fun u => u = ftF n kn sp py il fl wa bo se a1 (wm, ch, ne, np, al, ro, cp, nr)) K25 K46 K62 K117 K298 x1 x2 x3 x5 x6 x7 x8 x9 wm_ ch_ ne_ np_ al_ ro_ cp_ nr_ → K298 x1 x2 x3 x5 x6 x7 x8 x9 wm_ ch_ ne_ np_ al_ ro_ cp_ nr_ := by
    intro x1 x2 x3 x5 x6 x7 x8 x9 wm_ ch_ ne_ np_ al_ ro_ cp_ nr_ hw
    refine k298i _ _ _ _ _ _ _ _ _ _ _ _ _ _ _ _ ?_
    intro H locs ls hl hP hD hS
    unfold v_X4_findTeams_298 at hw
    refine lv_iload hx hb dX4_findTeams_298 (lv_at hl 8 rfl) ?_
    refine lv_aload_n hx hb dX4_findTeams_300 rfl (lv_at hl 0 rfl) ?_
    refine va_get (D := D) (ci := 4) (v := .int (nI n)) (C := RX4) (T := TX4) (N := 25) hx hb hts hin4 hown hK hP 0 rfl rfl 0 (by decide) f66 (fun _ h9 => h9) rfl dX4_findTeams_301 ?_
    refine lv_icmp_ge (tgt := 371) hx hb dX4_findTeams_304 (by decide) (fun hc => ?_) (fun hc => ?_)
    · replace hw := hw.1 hc
      refine lv_aload_n hx hb dX4_findTeams_371 rfl (lv_at hl 0 rfl) ?_
      refine lv_iload hx hb dX4_findTeams_372 (lv_at hl 6 rfl) ?_
      refine lv_if_eq (tgt := 382) hx hb dX4_findTeams_374 (by decide) (fun hc => ?_) (fun hc => ?_)
      · replace hw := hw.1 hc
        refine lv_aload_n hx hb dX4_findTeams_382 rfl (lv_at hl 0 rfl) ?_
        refine va_get (D := D) (ci := 4) (v := .int ch_) (C := RX4) (T := TX4) (N := 25) hx hb hts hin4 hown hK hP 0 rfl rfl 14 (by decide) f90 (fun _ h9 => h9) rfl dX4_findTeams_383 ?_
        exact J386 _ _ _ _ _ _ _ _ _ _ _ _ _ _ _ hw _ _ _ (lv_sub hl [0, 1, 2, 3, 4, 5, 7] rfl) hP hD hS
      · replace hw := hw.2 hc
        refine lv_iload hx hb dX4_findTeams_377 (lv_at hl 4 rfl) ?_
        refine lv_goto (tgt := 386) hx hb dX4_findTeams_379 (by decide) ?_
        exact J386 _ _ _ _ _ _ _ _ _ _ _ _ _ _ _ hw _ _ _ (lv_sub hl [0, 1, 2, 3, 4, 5, 7] rfl) hP hD hS
    · replace hw := hw.2 hc
      refine lv_aload_n hx hb dX4_findTeams_307 rfl (lv_at hl 0 rfl) ?_
      refine va_get (D := D) (ci := 4) (v := .ref (q 11)) (C := RX4) (T := TX4) (N := 25) hx hb hts hin4 hown hK hP 0 rfl rfl 15 (by decide) f48 (fun _ h9 => h9) rfl dX4_findTeams_308 ?_
      refine lv_iload hx hb dX4_findTeams_311 (lv_at hl 8 rfl) ?_
      refine lv_iload hx hb dX4_findTeams_313 (lv_at hl 6 rfl) ?_
      refine lv_if_eq (tgt := 328) hx hb dX4_findTeams_315 (by decide) (fun hc => ?_) (fun hc => ?_)
      · replace hw := hw.1 hc
        refine lv_aload_n hx hb dX4_findTeams_328 rfl (lv_at hl 0 rfl) ?_
        refine va_get (D := D) (ci := 4) (v := .ref (q 11)) (C := RX4) (T := TX4) (N := 25) hx hb hts hin4 hown hK hP 0 rfl rfl 15 (by decide) f48 (fun _ h9 => h9) rfl dX4_findTeams_329 ?_
        refine lv_iload hx hb dX4_findTeams_332 (lv_at hl 8 rfl) ?_
        obtain ⟨hv, hw⟩ := hw
        refine va_iald hx hb hK hP 11 0 rfl rfl hv dX4_findTeams_334 ?_
        exact J335 _ _ _ _ _ _ _ _ _ _ _ _ _ _ _ _ _ _ hw _ _ _ (lv_sub hl [0, 1, 2, 3, 4, 5, 6, 7, 8] rfl) hP hD hS
      · replace hw := hw.2 hc
        refine lv_aload_n hx hb dX4_findTeams_318 rfl (lv_at hl 0 rfl) ?_
        refine va_get (D := D) (ci := 4) (v := .ref (q 10)) (C := RX4) (T := TX4) (N := 25) hx hb hts hin4 hown hK hP 0 rfl rfl 12 (by decide) f45 (fun _ h9 => h9) rfl dX4_findTeams_319 ?_
        refine lv_iload hx hb dX4_findTeams_322 (lv_at hl 8 rfl) ?_
        obtain ⟨hv, hw⟩ := hw
        refine va_iald hx hb hK hP 10 0 rfl rfl hv dX4_findTeams_324 ?_
        refine lv_goto (tgt := 335) hx hb dX4_findTeams_325 (by decide) ?_
        exact J335 _ _ _ _ _ _ _ _ _ _ _ _ _ _ _ _ _ _ hw _ _ _ (lv_sub hl [0, 1, 2, 3, 4, 5, 6, 7, 8] rfl) hP hD hS
  have hw := h_X4_findTeams n se li wo kn sp py il fl wa bo so sd ti on he la wm ch ne np al ro cp nr a1 hn h0 K25 K46 K62 K117 K298 R25 R46 R62 R117 R298
  unfold v_X4_findTeams_0 at hw
  refine lv_aload_n hx hb dX4_findTeams_0 rfl (lv_at hl 0 rfl) ?_
  refine lv_iconst (v := (0 : Int32)) hx hb dX4_findTeams_1 (by decide) ?_
  refine va_put (D := D) (ci := 4) (v := .int (0 : Int32)) (ty := .int) (C := RX4) (T := TX4) (N := 25) hx hb hts hin4 tyX4 tyX4_ok nmX4 hown hK hP hD hS 0 rfl rfl 13 (by decide) f87 (fun _ h9 => h9) rfl (by decide +kernel) rfl rfl (Nat.le_of_ble_eq_true rfl) dX4_findTeams_2 (fun H locs hP hD hS => ?_)
  have hP : va_P D vwCl (wR cI cZ q (nI n) se li (0 : Int32) ch ne np al wo kn sp py il fl wa bo so sd ro cp nr ti on he la) H := hP
  have hD : va_D A (wR cI cZ q (nI n) se li (0 : Int32) ch ne np al wo kn sp py il fl wa bo so sd ro cp nr ti on he la) := hD
  refine lv_aload_n hx hb dX4_findTeams_5 rfl (lv_at hl 0 rfl) ?_
  refine lv_iconst (v := (-1 : Int32)) hx hb dX4_findTeams_6 (by decide) ?_
  refine va_put (D := D) (ci := 4) (v := .int (-1 : Int32)) (ty := .int) (C := RX4) (T := TX4) (N := 25) hx hb hts hin4 tyX4 tyX4_ok nmX4 hown hK hP hD hS 0 rfl rfl 14 (by decide) f90 (fun _ h9 => h9) rfl (by decide +kernel) rfl rfl (Nat.le_of_ble_eq_true rfl) dX4_findTeams_7 (fun H locs hP hD hS => ?_)
  have hP : va_P D vwCl (wR cI cZ q (nI n) se li (0 : Int32) (-1 : Int32) ne np al wo kn sp py il fl wa bo so sd ro cp nr ti on he la) H := hP
  have hD : va_D A (wR cI cZ q (nI n) se li (0 : Int32) (-1 : Int32) ne np al wo kn sp py il fl wa bo so sd ro cp nr ti on he la) := hD
  refine lv_aload_n hx hb dX4_findTeams_10 rfl (lv_at hl 0 rfl) ?_
  refine lv_iconst (v := (-1 : Int32)) hx hb dX4_findTeams_11 (by decide) ?_
  refine va_put (D := D) (ci := 4) (v := .int (-1 : Int32)) (ty := .int) (C := RX4) (T := TX4) (N := 25) hx hb hts hin4 tyX4 tyX4_ok nmX4 hown hK hP hD hS 0 rfl rfl 16 (by decide) f93 (fun _ h9 => h9) rfl (by decide +kernel) rfl rfl (Nat.le_of_ble_eq_true rfl) dX4_findTeams_12 (fun H locs hP hD hS => ?_)
  have hP : va_P D vwCl (wR cI cZ q (nI n) se li (0 : Int32) (-1 : Int32) (-1 : Int32) np al wo kn sp py il fl wa bo so sd ro cp nr ti on he la) H := hP
  have hD : va_D A (wR cI cZ q (nI n) se li (0 : Int32) (-1 : Int32) (-1 : Int32) np al wo kn sp py il fl wa bo so sd ro cp nr ti on he la) := hD
  refine lv_aload_n hx hb dX4_findTeams_15 rfl (lv_at hl 0 rfl) ?_
  refine lv_bipush (v := (63 : Int32)) hx hb dX4_findTeams_16 (by decide) ?_
  refine va_put (D := D) (ci := 4) (v := .int (63 : Int32)) (ty := .int) (C := RX4) (T := TX4) (N := 25) hx hb hts hin4 tyX4 tyX4_ok nmX4 hown hK hP hD hS 0 rfl rfl 19 (by decide) f96 (fun _ h9 => h9) rfl (by decide +kernel) rfl rfl (Nat.le_of_ble_eq_true rfl) dX4_findTeams_18 (fun H locs hP hD hS => ?_)
  have hP : va_P D vwCl (wR cI cZ q (nI n) se li (0 : Int32) (-1 : Int32) (-1 : Int32) np (63 : Int32) wo kn sp py il fl wa bo so sd ro cp nr ti on he la) H := hP
  have hD : va_D A (wR cI cZ q (nI n) se li (0 : Int32) (-1 : Int32) (-1 : Int32) np (63 : Int32) wo kn sp py il fl wa bo so sd ro cp nr ti on he la) := hD
  refine lv_iconst (v := (1 : Int32)) hx hb dX4_findTeams_21 (by decide) ?_
  refine lv_istore_n (lv' := [(2, .int (1 : Int32)), (0, .ref (q 0)), (1, .int a1)]) hx hb dX4_findTeams_22 rfl hl (by decide) rfl (fun ls hl => ?_)
  refine lv_iconst (v := (0 : Int32)) hx hb dX4_findTeams_23 (by decide) ?_
  refine lv_istore_n (lv' := [(3, .int (0 : Int32)), (2, .int (1 : Int32)), (0, .ref (q 0)), (1, .int a1)]) hx hb dX4_findTeams_24 rfl hl (by decide) rfl (fun ls hl => ?_)
  exact k25e _ _ _ _ _ _ _ _ _ _ _ hw _ _ _ (lv_sub hl [2, 3, 1, 0] rfl) hP hD hS
set_option maxHeartbeats 4000000 in
set_option maxRecDepth 100000 in
theorem c_X4_whole (l : Launch) (D : va_G) (cI cZ : ClassId) (q : Nat → Nat) (n : Nat) (se : Int32) (li : Int32) (wm : Int32) (ch : Int32) (ne : Int32) (np : Int32) (al : Int32) (wo : Int32) (kn : Nat → Int32) (sp : Nat → Int32) (py : Nat → Int32) (il : Nat → Int32) (fl : Nat → Int32) (wa : Nat → Int32) (bo : Nat → Int32) (so : Nat → Int32) (sd : Nat → Int32) (ro : Nat → Int32) (cp : Nat → Int32) (nr : Nat → Int32) (ti : Nat → Int32) (on : Nat → Int32) (he : Nat → Int32) (la : Nat → Int32) (a1 : Int32) (hn : n ≤ 6) : MI l yX4_whole wsX4_whole ({ frames := 10, cells := 0, slots := 0, locals := 400 }) D cI cZ [.ref (q 0), .int a1] (wR cI cZ q (nI n) se li wm ch ne np al wo kn sp py il fl wa bo so sd ro cp nr ti on he la) (fun u : Int32 × Int32 × Int32 × Int32 × Int32 × (Nat → Int32) × (Nat → Int32) × (Nat → Int32) => (wR cI cZ q (nI n) se li u.1 u.2.1 u.2.2.1 u.2.2.2.1 u.2.2.2.2.1 wo kn sp py il fl wa bo so sd u.2.2.2.2.2.1 u.2.2.2.2.2.2.1 u.2.2.2.2.2.2.2 ti on he la)) (fun r u => r = (if inR a1 0 1 = true then (ftF n kn sp py il fl wa bo se a1 (wm, ch, ne, np, al, ro, cp, nr)).1 else (-2)) ∧ u = (if inR a1 0 1 = true then ftF n kn sp py il fl wa bo se a1 (wm, ch, ne, np, al, ro, cp, nr) else (wm, ch, ne, np, al, ro, cp, nr))) := by
  refine MI_of (cc := cX4_whole) (maxL := 2) (ty := .int) (by decide) rfl (Nat.le_of_ble_eq_true rfl) (fun p e s m args below meth c A Q hx hb hml hown hts hK hN hA hret H locs ls hl hP hD hS => ?_)
  have hown : s.vm.findClass RX4 = some m.cls := hown
  have hl : lv_has ls 2 [(0, .ref (q 0)), (1, .int a1)] := hl
  have hin4 : ∀ w ∈ u_ws RX4 TX4 25, w ∈ wsX4_whole := fun w h => List.mem_cons_of_mem _ (List.mem_append_right _ h)
  have f87 : (Cond.fieldLink RX4 87 "GlassBoothsModel" "wholeMany" "I").before args s = true := hts _ (by decide +kernel)
  have hw := h_X4_whole n se li wo kn sp py il fl wa bo so sd ti on he la wm ch ne np al ro cp nr a1 hn   
  unfold v_X4_whole_0 at hw
  refine lv_iload_n hx hb dX4_whole_0 rfl (lv_at hl 1 rfl) ?_
  refine zc_i0 (va_runS (As := [.int a1]) (rest := []) ⟨hx, hb, hml, hown, hts⟩ ((c_X4_isSession l D cI cZ a1  ) H.size) (va_cwS 1 hts gX4_whole_X4_isSession rfl rfl rfl (by decide +kernel) ⟨Nat.le_of_ble_eq_true rfl, Nat.le_of_ble_eq_true rfl⟩) (ps_of hK hN hP hD [] rfl rfl) rfl rfl hl.1 rfl (lv_room (Nat.le_of_ble_eq_true rfl)) dX4_whole_1 ⟨Nat.zero_le _, Nat.zero_le _⟩) hP hD hS hA (fun r u H locs hu hP hD hS => ?_)
  subst hu
  refine lv_if_ne (tgt := 10) hx hb dX4_whole_4 (by decide) (fun hc => ?_) (fun hc => ?_)
  · replace hw := hw.2 hc
    refine lv_aload_n hx hb dX4_whole_10 rfl (lv_at hl 0 rfl) ?_
    refine lv_iload_n hx hb dX4_whole_11 rfl (lv_at hl 1 rfl) ?_
    obtain ⟨hp0, hw⟩ := hw
    refine zc_v (fun u => (wR cI cZ q (nI n) se li u.1 u.2.1 u.2.2.1 u.2.2.2.1 u.2.2.2.2.1 wo kn sp py il fl wa bo so sd u.2.2.2.2.2.1 u.2.2.2.2.2.2.1 u.2.2.2.2.2.2.2 ti on he la)) [0, 1, 2, 3, 4, 5, 6, 7, 8, 9, 10, 11, 12, 13, 14, 15, 16] [] [0, 1, 2, 3, 4, 5, 6, 7, 8, 9, 10, 11, 12, 13, 14, 15, 16] (va_runV (As := [.int a1]) (rest := []) ⟨hx, hb, hml, hown, hts⟩ ((c_X4_findTeams l D cI cZ q n se li wm ch ne np al wo kn sp py il fl wa bo so sd ro cp nr ti on he la a1 hn hp0) H.size) (cwV 1 hts gX4_whole_X4_findTeams rfl rfl rfl (by decide +kernel) ⟨Nat.le_of_ble_eq_true rfl, Nat.le_of_ble_eq_true rfl⟩) (pv_of hK hN hP hD [0, 1, 2, 3, 4, 5, 6, 7, 8, 9, 10, 11, 12, 13, 14, 15, 16] rfl rfl 4 0 rfl rfl) rfl rfl hl.1 rfl (lv_room (Nat.le_of_ble_eq_true rfl)) dX4_whole_12 ⟨Nat.zero_le _, Nat.zero_le _⟩) hP hD hS hA rfl rfl rfl (by decide) (fun _ => rfl) rfl (fun u12 H locs hu hP hD hS => ?_)
    replace hw := hw u12 hu
    have hP : va_P D vwCl (wR cI cZ q (nI n) se li u12.1 u12.2.1 u12.2.2.1 u12.2.2.2.1 u12.2.2.2.2.1 wo kn sp py il fl wa bo so sd u12.2.2.2.2.2.1 u12.2.2.2.2.2.2.1 u12.2.2.2.2.2.2.2 ti on he la) H := hP
    have hD : va_D A (wR cI cZ q (nI n) se li u12.1 u12.2.1 u12.2.2.1 u12.2.2.2.1 u12.2.2.2.2.1 wo kn sp py il fl wa bo so sd u12.2.2.2.2.2.1 u12.2.2.2.2.2.2.1 u12.2.2.2.2.2.2.2 ti on he la) := hD
    refine lv_aload_n hx hb dX4_whole_15 rfl (lv_at hl 0 rfl) ?_
    refine va_get (D := D) (ci := 4) (v := .int u12.1) (C := RX4) (T := TX4) (N := 25) hx hb hts hin4 hown hK hP 0 rfl rfl 13 (by decide) f87 (fun _ h9 => h9) rfl dX4_whole_16 ?_
    exact hret _ (u12.1, u12.2.1, u12.2.2.1, u12.2.2.2.1, u12.2.2.2.2.1, u12.2.2.2.2.2.1, u12.2.2.2.2.2.2.1, u12.2.2.2.2.2.2.2) _ _ _ _ hw rfl hP hD hS dX4_whole_19
  · replace hw := hw.1 hc
    refine lv_bipush (v := (-2 : Int32)) hx hb dX4_whole_7 (by decide) ?_
    exact hret _ (wm, ch, ne, np, al, ro, cp, nr) _ _ _ _ hw rfl hP hD hS dX4_whole_9
set_option maxHeartbeats 4000000 in
set_option maxRecDepth 100000 in
theorem c_X4_cheapest (l : Launch) (D : va_G) (cI cZ : ClassId) (q : Nat → Nat) (n : Nat) (se : Int32) (li : Int32) (wm : Int32) (ch : Int32) (ne : Int32) (np : Int32) (al : Int32) (wo : Int32) (kn : Nat → Int32) (sp : Nat → Int32) (py : Nat → Int32) (il : Nat → Int32) (fl : Nat → Int32) (wa : Nat → Int32) (bo : Nat → Int32) (so : Nat → Int32) (sd : Nat → Int32) (ro : Nat → Int32) (cp : Nat → Int32) (nr : Nat → Int32) (ti : Nat → Int32) (on : Nat → Int32) (he : Nat → Int32) (la : Nat → Int32) (a1 : Int32) (hn : n ≤ 6) : MI l yX4_cheapest wsX4_cheapest ({ frames := 10, cells := 0, slots := 0, locals := 400 }) D cI cZ [.ref (q 0), .int a1] (wR cI cZ q (nI n) se li wm ch ne np al wo kn sp py il fl wa bo so sd ro cp nr ti on he la) (fun u : Int32 × Int32 × Int32 × Int32 × Int32 × (Nat → Int32) × (Nat → Int32) × (Nat → Int32) => (wR cI cZ q (nI n) se li u.1 u.2.1 u.2.2.1 u.2.2.2.1 u.2.2.2.2.1 wo kn sp py il fl wa bo so sd u.2.2.2.2.2.1 u.2.2.2.2.2.2.1 u.2.2.2.2.2.2.2 ti on he la)) (fun r u => r = (if inR a1 0 1 = true then (ftF n kn sp py il fl wa bo se a1 (wm, ch, ne, np, al, ro, cp, nr)).2.1 else (-2)) ∧ u = (if inR a1 0 1 = true then ftF n kn sp py il fl wa bo se a1 (wm, ch, ne, np, al, ro, cp, nr) else (wm, ch, ne, np, al, ro, cp, nr))) := by
  refine MI_of (cc := cX4_cheapest) (maxL := 2) (ty := .int) (by decide) rfl (Nat.le_of_ble_eq_true rfl) (fun p e s m args below meth c A Q hx hb hml hown hts hK hN hA hret H locs ls hl hP hD hS => ?_)
  have hown : s.vm.findClass RX4 = some m.cls := hown
  have hl : lv_has ls 2 [(0, .ref (q 0)), (1, .int a1)] := hl
  have hin4 : ∀ w ∈ u_ws RX4 TX4 25, w ∈ wsX4_cheapest := fun w h => List.mem_cons_of_mem _ (List.mem_append_right _ h)
  have f90 : (Cond.fieldLink RX4 90 "GlassBoothsModel" "cheapest" "I").before args s = true := hts _ (by decide +kernel)
  have hw := h_X4_cheapest n se li wo kn sp py il fl wa bo so sd ti on he la wm ch ne np al ro cp nr a1 hn   
  unfold v_X4_cheapest_0 at hw
  refine lv_iload_n hx hb dX4_cheapest_0 rfl (lv_at hl 1 rfl) ?_
  refine zc_i0 (va_runS (As := [.int a1]) (rest := []) ⟨hx, hb, hml, hown, hts⟩ ((c_X4_isSession l D cI cZ a1  ) H.size) (va_cwS 1 hts gX4_cheapest_X4_isSession rfl rfl rfl (by decide +kernel) ⟨Nat.le_of_ble_eq_true rfl, Nat.le_of_ble_eq_true rfl⟩) (ps_of hK hN hP hD [] rfl rfl) rfl rfl hl.1 rfl (lv_room (Nat.le_of_ble_eq_true rfl)) dX4_cheapest_1 ⟨Nat.zero_le _, Nat.zero_le _⟩) hP hD hS hA (fun r u H locs hu hP hD hS => ?_)
  subst hu
  refine lv_if_ne (tgt := 10) hx hb dX4_cheapest_4 (by decide) (fun hc => ?_) (fun hc => ?_)
  · replace hw := hw.2 hc
    refine lv_aload_n hx hb dX4_cheapest_10 rfl (lv_at hl 0 rfl) ?_
    refine lv_iload_n hx hb dX4_cheapest_11 rfl (lv_at hl 1 rfl) ?_
    obtain ⟨hp0, hw⟩ := hw
    refine zc_v (fun u => (wR cI cZ q (nI n) se li u.1 u.2.1 u.2.2.1 u.2.2.2.1 u.2.2.2.2.1 wo kn sp py il fl wa bo so sd u.2.2.2.2.2.1 u.2.2.2.2.2.2.1 u.2.2.2.2.2.2.2 ti on he la)) [0, 1, 2, 3, 4, 5, 6, 7, 8, 9, 10, 11, 12, 13, 14, 15, 16] [] [0, 1, 2, 3, 4, 5, 6, 7, 8, 9, 10, 11, 12, 13, 14, 15, 16] (va_runV (As := [.int a1]) (rest := []) ⟨hx, hb, hml, hown, hts⟩ ((c_X4_findTeams l D cI cZ q n se li wm ch ne np al wo kn sp py il fl wa bo so sd ro cp nr ti on he la a1 hn hp0) H.size) (cwV 1 hts gX4_cheapest_X4_findTeams rfl rfl rfl (by decide +kernel) ⟨Nat.le_of_ble_eq_true rfl, Nat.le_of_ble_eq_true rfl⟩) (pv_of hK hN hP hD [0, 1, 2, 3, 4, 5, 6, 7, 8, 9, 10, 11, 12, 13, 14, 15, 16] rfl rfl 4 0 rfl rfl) rfl rfl hl.1 rfl (lv_room (Nat.le_of_ble_eq_true rfl)) dX4_cheapest_12 ⟨Nat.zero_le _, Nat.zero_le _⟩) hP hD hS hA rfl rfl rfl (by decide) (fun _ => rfl) rfl (fun u12 H locs hu hP hD hS => ?_)
    replace hw := hw u12 hu
    have hP : va_P D vwCl (wR cI cZ q (nI n) se li u12.1 u12.2.1 u12.2.2.1 u12.2.2.2.1 u12.2.2.2.2.1 wo kn sp py il fl wa bo so sd u12.2.2.2.2.2.1 u12.2.2.2.2.2.2.1 u12.2.2.2.2.2.2.2 ti on he la) H := hP
    have hD : va_D A (wR cI cZ q (nI n) se li u12.1 u12.2.1 u12.2.2.1 u12.2.2.2.1 u12.2.2.2.2.1 wo kn sp py il fl wa bo so sd u12.2.2.2.2.2.1 u12.2.2.2.2.2.2.1 u12.2.2.2.2.2.2.2 ti on he la) := hD
    refine lv_aload_n hx hb dX4_cheapest_15 rfl (lv_at hl 0 rfl) ?_
    refine va_get (D := D) (ci := 4) (v := .int u12.2.1) (C := RX4) (T := TX4) (N := 25) hx hb hts hin4 hown hK hP 0 rfl rfl 14 (by decide) f90 (fun _ h9 => h9) rfl dX4_cheapest_16 ?_
    exact hret _ (u12.1, u12.2.1, u12.2.2.1, u12.2.2.2.1, u12.2.2.2.2.1, u12.2.2.2.2.2.1, u12.2.2.2.2.2.2.1, u12.2.2.2.2.2.2.2) _ _ _ _ hw rfl hP hD hS dX4_cheapest_19
  · replace hw := hw.1 hc
    refine lv_bipush (v := (-2 : Int32)) hx hb dX4_cheapest_7 (by decide) ?_
    exact hret _ (wm, ch, ne, np, al, ro, cp, nr) _ _ _ _ hw rfl hP hD hS dX4_cheapest_9
set_option maxHeartbeats 4000000 in
set_option maxRecDepth 100000 in
theorem c_X4_nearest (l : Launch) (D : va_G) (cI cZ : ClassId) (q : Nat → Nat) (n : Nat) (se : Int32) (li : Int32) (wm : Int32) (ch : Int32) (ne : Int32) (np : Int32) (al : Int32) (wo : Int32) (kn : Nat → Int32) (sp : Nat → Int32) (py : Nat → Int32) (il : Nat → Int32) (fl : Nat → Int32) (wa : Nat → Int32) (bo : Nat → Int32) (so : Nat → Int32) (sd : Nat → Int32) (ro : Nat → Int32) (cp : Nat → Int32) (nr : Nat → Int32) (ti : Nat → Int32) (on : Nat → Int32) (he : Nat → Int32) (la : Nat → Int32) (a1 : Int32) (hn : n ≤ 6) : MI l yX4_nearest wsX4_nearest ({ frames := 10, cells := 0, slots := 0, locals := 400 }) D cI cZ [.ref (q 0), .int a1] (wR cI cZ q (nI n) se li wm ch ne np al wo kn sp py il fl wa bo so sd ro cp nr ti on he la) (fun u : Int32 × Int32 × Int32 × Int32 × Int32 × (Nat → Int32) × (Nat → Int32) × (Nat → Int32) => (wR cI cZ q (nI n) se li u.1 u.2.1 u.2.2.1 u.2.2.2.1 u.2.2.2.2.1 wo kn sp py il fl wa bo so sd u.2.2.2.2.2.1 u.2.2.2.2.2.2.1 u.2.2.2.2.2.2.2 ti on he la)) (fun r u => r = (if inR a1 0 1 = true then (ftF n kn sp py il fl wa bo se a1 (wm, ch, ne, np, al, ro, cp, nr)).2.2.1 else (-2)) ∧ u = (if inR a1 0 1 = true then ftF n kn sp py il fl wa bo se a1 (wm, ch, ne, np, al, ro, cp, nr) else (wm, ch, ne, np, al, ro, cp, nr))) := by
  refine MI_of (cc := cX4_nearest) (maxL := 2) (ty := .int) (by decide) rfl (Nat.le_of_ble_eq_true rfl) (fun p e s m args below meth c A Q hx hb hml hown hts hK hN hA hret H locs ls hl hP hD hS => ?_)
  have hown : s.vm.findClass RX4 = some m.cls := hown
  have hl : lv_has ls 2 [(0, .ref (q 0)), (1, .int a1)] := hl
  have hin4 : ∀ w ∈ u_ws RX4 TX4 25, w ∈ wsX4_nearest := fun w h => List.mem_cons_of_mem _ (List.mem_append_right _ h)
  have f93 : (Cond.fieldLink RX4 93 "GlassBoothsModel" "nearest" "I").before args s = true := hts _ (by decide +kernel)
  have hw := h_X4_nearest n se li wo kn sp py il fl wa bo so sd ti on he la wm ch ne np al ro cp nr a1 hn   
  unfold v_X4_nearest_0 at hw
  refine lv_iload_n hx hb dX4_nearest_0 rfl (lv_at hl 1 rfl) ?_
  refine zc_i0 (va_runS (As := [.int a1]) (rest := []) ⟨hx, hb, hml, hown, hts⟩ ((c_X4_isSession l D cI cZ a1  ) H.size) (va_cwS 1 hts gX4_nearest_X4_isSession rfl rfl rfl (by decide +kernel) ⟨Nat.le_of_ble_eq_true rfl, Nat.le_of_ble_eq_true rfl⟩) (ps_of hK hN hP hD [] rfl rfl) rfl rfl hl.1 rfl (lv_room (Nat.le_of_ble_eq_true rfl)) dX4_nearest_1 ⟨Nat.zero_le _, Nat.zero_le _⟩) hP hD hS hA (fun r u H locs hu hP hD hS => ?_)
  subst hu
  refine lv_if_ne (tgt := 10) hx hb dX4_nearest_4 (by decide) (fun hc => ?_) (fun hc => ?_)
  · replace hw := hw.2 hc
    refine lv_aload_n hx hb dX4_nearest_10 rfl (lv_at hl 0 rfl) ?_
    refine lv_iload_n hx hb dX4_nearest_11 rfl (lv_at hl 1 rfl) ?_
    obtain ⟨hp0, hw⟩ := hw
    refine zc_v (fun u => (wR cI cZ q (nI n) se li u.1 u.2.1 u.2.2.1 u.2.2.2.1 u.2.2.2.2.1 wo kn sp py il fl wa bo so sd u.2.2.2.2.2.1 u.2.2.2.2.2.2.1 u.2.2.2.2.2.2.2 ti on he la)) [0, 1, 2, 3, 4, 5, 6, 7, 8, 9, 10, 11, 12, 13, 14, 15, 16] [] [0, 1, 2, 3, 4, 5, 6, 7, 8, 9, 10, 11, 12, 13, 14, 15, 16] (va_runV (As := [.int a1]) (rest := []) ⟨hx, hb, hml, hown, hts⟩ ((c_X4_findTeams l D cI cZ q n se li wm ch ne np al wo kn sp py il fl wa bo so sd ro cp nr ti on he la a1 hn hp0) H.size) (cwV 1 hts gX4_nearest_X4_findTeams rfl rfl rfl (by decide +kernel) ⟨Nat.le_of_ble_eq_true rfl, Nat.le_of_ble_eq_true rfl⟩) (pv_of hK hN hP hD [0, 1, 2, 3, 4, 5, 6, 7, 8, 9, 10, 11, 12, 13, 14, 15, 16] rfl rfl 4 0 rfl rfl) rfl rfl hl.1 rfl (lv_room (Nat.le_of_ble_eq_true rfl)) dX4_nearest_12 ⟨Nat.zero_le _, Nat.zero_le _⟩) hP hD hS hA rfl rfl rfl (by decide) (fun _ => rfl) rfl (fun u12 H locs hu hP hD hS => ?_)
    replace hw := hw u12 hu
    have hP : va_P D vwCl (wR cI cZ q (nI n) se li u12.1 u12.2.1 u12.2.2.1 u12.2.2.2.1 u12.2.2.2.2.1 wo kn sp py il fl wa bo so sd u12.2.2.2.2.2.1 u12.2.2.2.2.2.2.1 u12.2.2.2.2.2.2.2 ti on he la) H := hP
    have hD : va_D A (wR cI cZ q (nI n) se li u12.1 u12.2.1 u12.2.2.1 u12.2.2.2.1 u12.2.2.2.2.1 wo kn sp py il fl wa bo so sd u12.2.2.2.2.2.1 u12.2.2.2.2.2.2.1 u12.2.2.2.2.2.2.2 ti on he la) := hD
    refine lv_aload_n hx hb dX4_nearest_15 rfl (lv_at hl 0 rfl) ?_
    refine va_get (D := D) (ci := 4) (v := .int u12.2.2.1) (C := RX4) (T := TX4) (N := 25) hx hb hts hin4 hown hK hP 0 rfl rfl 16 (by decide) f93 (fun _ h9 => h9) rfl dX4_nearest_16 ?_
    exact hret _ (u12.1, u12.2.1, u12.2.2.1, u12.2.2.2.1, u12.2.2.2.2.1, u12.2.2.2.2.2.1, u12.2.2.2.2.2.2.1, u12.2.2.2.2.2.2.2) _ _ _ _ hw rfl hP hD hS dX4_nearest_19
  · replace hw := hw.1 hc
    refine lv_bipush (v := (-2 : Int32)) hx hb dX4_nearest_7 (by decide) ?_
    exact hret _ (wm, ch, ne, np, al, ro, cp, nr) _ _ _ _ hw rfl hP hD hS dX4_nearest_9
set_option maxHeartbeats 4000000 in
set_option maxRecDepth 100000 in
theorem c_X4_take (l : Launch) (D : va_G) (cI cZ : ClassId) (q : Nat → Nat) (n : Nat) (se : Int32) (li : Int32) (wm : Int32) (ch : Int32) (ne : Int32) (np : Int32) (al : Int32) (wo : Int32) (kn : Nat → Int32) (sp : Nat → Int32) (py : Nat → Int32) (il : Nat → Int32) (fl : Nat → Int32) (wa : Nat → Int32) (bo : Nat → Int32) (so : Nat → Int32) (sd : Nat → Int32) (ro : Nat → Int32) (cp : Nat → Int32) (nr : Nat → Int32) (ti : Nat → Int32) (on : Nat → Int32) (he : Nat → Int32) (la : Nat → Int32) (a1 : Int32) (a2 : Int32) (hn : n ≤ 6) : MI l yX4_take wsX4_take ({ frames := 10, cells := 0, slots := 0, locals := 400 }) D cI cZ [.ref (q 0), .int a1, .int a2] (wR cI cZ q (nI n) se li wm ch ne np al wo kn sp py il fl wa bo so sd ro cp nr ti on he la) (fun u : Int32 × Int32 × Int32 × Int32 × Int32 × (Nat → Int32) × (Nat → Int32) × (Nat → Int32) × (Nat → Int32) => (wR cI cZ q (nI n) se li u.1 u.2.1 u.2.2.1 u.2.2.2.1 u.2.2.2.2.1 wo kn sp py il fl wa u.2.2.2.2.2.1 so sd u.2.2.2.2.2.2.1 u.2.2.2.2.2.2.2.1 u.2.2.2.2.2.2.2.2 ti on he la)) (fun r u => r = rtR a1 a2 (ftF n kn sp py il fl wa bo se a1 (wm, ch, ne, np, al, ro, cp, nr)) ∧ u = rtF n a1 a2 (ftF n kn sp py il fl wa bo se a1 (wm, ch, ne, np, al, ro, cp, nr)) (wm, ch, ne, np, al, ro, cp, nr) bo) := by
  refine MI_of (cc := cX4_take) (maxL := 4) (ty := .int) (by decide) rfl (Nat.le_of_ble_eq_true rfl) (fun p e s m args below meth c A Q hx hb hml hown hts hK hN hA hret H locs ls hl hP hD hS => ?_)
  have hown : s.vm.findClass RX4 = some m.cls := hown
  have hl : lv_has ls 4 [(0, .ref (q 0)), (1, .int a1), (2, .int a2)] := hl
  have hin4 : ∀ w ∈ u_ws RX4 TX4 25, w ∈ wsX4_take := fun w h => List.mem_cons_of_mem _ (List.mem_append_right _ h)
  have f87 : (Cond.fieldLink RX4 87 "GlassBoothsModel" "wholeMany" "I").before args s = true := hts _ (by decide +kernel)
  have f66 : (Cond.fieldLink RX4 66 "GlassBoothsModel" "people" "I").before args s = true := hts _ (by decide +kernel)
  have f105 : (Cond.fieldLink RX4 105 "GlassBoothsModel" "nearPay" "I").before args s = true := hts _ (by decide +kernel)
  have f90 : (Cond.fieldLink RX4 90 "GlassBoothsModel" "cheapest" "I").before args s = true := hts _ (by decide +kernel)
  have f33 : (Cond.fieldLink RX4 33 "GlassBoothsModel" "booth" "[I").before args s = true := hts _ (by decide +kernel)
  have f51 : (Cond.fieldLink RX4 51 "GlassBoothsModel" "near" "[I").before args s = true := hts _ (by decide +kernel)
  have f48 : (Cond.fieldLink RX4 48 "GlassBoothsModel" "cheap" "[I").before args s = true := hts _ (by decide +kernel)
  obtain ⟨K39, k39i, k39e⟩ := ex_K11 (fun (x2 : Int32) (x3 : Int32) (wm_ : Int32) (ch_ : Int32) (ne_ : Int32) (np_ : Int32) (al_ : Int32) (bo_ : Nat → Int32) (ro_ : Nat → Int32) (cp_ : Nat → Int32) (nr_ : Nat → Int32) => ∀ (H : Heap) (locs : List Loc) (ls : Array Slot), lv_has ls 4 [(0, .ref (q 0)), (2, .int x2), (3, .int x3)] → va_P D vwCl (wR cI cZ q (nI n) se li wm_ ch_ ne_ np_ al_ wo kn sp py il fl wa bo_ so sd ro_ cp_ nr_ ti on he la) H → va_D A (wR cI cZ q (nI n) se li wm_ ch_ ne_ np_ al_ wo kn sp py il fl wa bo_ so sd ro_ cp_ nr_ ti on he la) → va_S A s.heap H locs → W p l e (headSpec wsX4_take ({ frames := 10, cells := 0, slots := 0, locals := 400 })).room s m args below meth c H locs 0 0 Q (F0 m 39 ls []))
  have J71 : ∀ x2 x3 s0 s1 wm_ ch_ ne_ np_ al_ bo_ ro_ cp_ nr_, v_X4_take_71 n se li wo kn sp py il fl wa so sd ti on he la (fun r u => r = rtR a1 a2 (ftF n kn sp py il fl wa bo se a1 (wm, ch, ne, np, al, ro, cp, nr)) ∧ u = rtF n a1 a2 (ftF n kn sp py il fl wa bo se a1 (wm, ch, ne, np, al, ro, cp, nr)) (wm, ch, ne, np, al, ro, cp, nr) bo) K39 x2 x3 s0 s1 wm_ ch_ ne_ np_ al_ bo_ ro_ cp_ nr_ → ∀ (H : Heap) (locs : List Loc) (ls : Array Slot), lv_has ls 4 [(0, .ref (q 0)), (2, .int x2), (3, .int x3)] → va_P D vwCl (wR cI cZ q (nI n) se li wm_ ch_ ne_ np_ al_ wo kn sp py il fl wa bo_ so sd ro_ cp_ nr_ ti on he la) H → va_D A (wR cI cZ q (nI n) se li wm_ ch_ ne_ np_ al_ wo kn sp py il fl wa bo_ so sd ro_ cp_ nr_ ti on he la) → va_S A s.heap H locs → W p l e (headSpec wsX4_take ({ frames := 10, cells := 0, slots := 0, locals := 400 })).room s m args below meth c H locs 0 0 Q (F0 m 71 ls [.int s0, .int s1, .ref (q 7)]) := by
    intro x2 x3 s0 s1 wm_ ch_ ne_ np_ al_ bo_ ro_ cp_ nr_ hw
    intro H locs ls hl hP hD hS
    unfold v_X4_take_71 at hw
    obtain ⟨hv, hw⟩ := hw
    refine va_iast hx hb hK hP hD hS 7 0 rfl rfl hv dX4_take_71 (fun H locs hP hD hS => ?_)
    have hP : va_P D vwCl (wR cI cZ q (nI n) se li wm_ ch_ ne_ np_ al_ wo kn sp py il fl wa (upd bo_ s1.toNatClampNeg s0) so sd ro_ cp_ nr_ ti on he la) H := hP
    have hD : va_D A (wR cI cZ q (nI n) se li wm_ ch_ ne_ np_ al_ wo kn sp py il fl wa (upd bo_ s1.toNatClampNeg s0) so sd ro_ cp_ nr_ ti on he la) := hD
    refine lv_iinc (v := x3 + 1) (lv' := [(3, .int (x3 + 1)), (0, .ref (q 0)), (2, .int x2)]) hx hb dX4_take_72 hl (k := 2) rfl rfl (by decide) rfl (fun ls hl => ?_)
    refine lv_goto (tgt := 39) hx hb dX4_take_75 (by decide) ?_
    exact k39e _ _ _ _ _ _ _ _ _ _ _ hw _ _ _ (lv_sub hl [1, 2, 0] rfl) hP hD hS
  have R39 : ∀ x2 x3 wm_ ch_ ne_ np_ al_ bo_ ro_ cp_ nr_, v_X4_take_39 n se li wo kn sp py il fl wa so sd ti on he la (fun r u => r = rtR a1 a2 (ftF n kn sp py il fl wa bo se a1 (wm, ch, ne, np, al, ro, cp, nr)) ∧ u = rtF n a1 a2 (ftF n kn sp py il fl wa bo se a1 (wm, ch, ne, np, al, ro, cp, nr)) (wm, ch, ne, np, al, ro, cp, nr) bo) K39 x2 x3 wm_ ch_ ne_ np_ al_ bo_ ro_ cp_ nr_ → K39 x2 x3 wm_ ch_ ne_ np_ al_ bo_ ro_ cp_ nr_ := by
    intro x2 x3 wm_ ch_ ne_ np_ al_ bo_ ro_ cp_ nr_ hw
    refine k39i _ _ _ _ _ _ _ _ _ _ _ ?_
    intro H locs ls hl hP hD hS
    unfold v_X4_take_39 at hw
    refine lv_iload_n hx hb dX4_take_39 rfl (lv_at hl 2 rfl) ?_
    refine lv_aload_n hx hb dX4_take_40 rfl (lv_at hl 0 rfl) ?_
    refine va_get (D := D) (ci := 4) (v := .int (nI n)) (C := RX4) (T := TX4) (N := 25) hx hb hts hin4 hown hK hP 0 rfl rfl 0 (by decide) f66 (fun _ h9 => h9) rfl dX4_take_41 ?_
    refine lv_icmp_ge (tgt := 78) hx hb dX4_take_44 (by decide) (fun hc => ?_) (fun hc => ?_)
    · replace hw := hw.1 hc
      refine lv_iload_n hx hb dX4_take_78 rfl (lv_at hl 1 rfl) ?_
      refine lv_if_ne (tgt := 89) hx hb dX4_take_79 (by decide) (fun hc => ?_) (fun hc => ?_)
      · replace hw := hw.2 hc
        refine lv_aload_n hx hb dX4_take_89 rfl (lv_at hl 0 rfl) ?_
        refine va_get (D := D) (ci := 4) (v := .int np_) (C := RX4) (T := TX4) (N := 25) hx hb hts hin4 hown hK hP 0 rfl rfl 17 (by decide) f105 (fun _ h9 => h9) rfl dX4_take_90 ?_
        exact hret _ (wm_, ch_, ne_, np_, al_, bo_, ro_, cp_, nr_) _ _ _ _ hw rfl hP hD hS dX4_take_93
      · replace hw := hw.1 hc
        refine lv_aload_n hx hb dX4_take_82 rfl (lv_at hl 0 rfl) ?_
        refine va_get (D := D) (ci := 4) (v := .int ch_) (C := RX4) (T := TX4) (N := 25) hx hb hts hin4 hown hK hP 0 rfl rfl 14 (by decide) f90 (fun _ h9 => h9) rfl dX4_take_83 ?_
        refine lv_goto (tgt := 93) hx hb dX4_take_86 (by decide) ?_
        exact hret _ (wm_, ch_, ne_, np_, al_, bo_, ro_, cp_, nr_) _ _ _ _ hw rfl hP hD hS dX4_take_93
    · replace hw := hw.2 hc
      refine lv_aload_n hx hb dX4_take_47 rfl (lv_at hl 0 rfl) ?_
      refine va_get (D := D) (ci := 4) (v := .ref (q 7)) (C := RX4) (T := TX4) (N := 25) hx hb hts hin4 hown hK hP 0 rfl rfl 8 (by decide) f33 (fun _ h9 => h9) rfl dX4_take_48 ?_
      refine lv_iload_n hx hb dX4_take_51 rfl (lv_at hl 2 rfl) ?_
      refine lv_iload_n hx hb dX4_take_52 rfl (lv_at hl 1 rfl) ?_
      refine lv_if_ne (tgt := 65) hx hb dX4_take_53 (by decide) (fun hc => ?_) (fun hc => ?_)
      · replace hw := hw.2 hc
        refine lv_aload_n hx hb dX4_take_65 rfl (lv_at hl 0 rfl) ?_
        refine va_get (D := D) (ci := 4) (v := .ref (q 12)) (C := RX4) (T := TX4) (N := 25) hx hb hts hin4 hown hK hP 0 rfl rfl 18 (by decide) f51 (fun _ h9 => h9) rfl dX4_take_66 ?_
        refine lv_iload_n hx hb dX4_take_69 rfl (lv_at hl 2 rfl) ?_
        obtain ⟨hv, hw⟩ := hw
        refine va_iald hx hb hK hP 12 0 rfl rfl hv dX4_take_70 ?_
        exact J71 _ _ _ _ _ _ _ _ _ _ _ _ _ hw _ _ _ (lv_sub hl [0, 1, 2] rfl) hP hD hS
      · replace hw := hw.1 hc
        refine lv_aload_n hx hb dX4_take_56 rfl (lv_at hl 0 rfl) ?_
        refine va_get (D := D) (ci := 4) (v := .ref (q 11)) (C := RX4) (T := TX4) (N := 25) hx hb hts hin4 hown hK hP 0 rfl rfl 15 (by decide) f48 (fun _ h9 => h9) rfl dX4_take_57 ?_
        refine lv_iload_n hx hb dX4_take_60 rfl (lv_at hl 2 rfl) ?_
        obtain ⟨hv, hw⟩ := hw
        refine va_iald hx hb hK hP 11 0 rfl rfl hv dX4_take_61 ?_
        refine lv_goto (tgt := 71) hx hb dX4_take_62 (by decide) ?_
        exact J71 _ _ _ _ _ _ _ _ _ _ _ _ _ hw _ _ _ (lv_sub hl [0, 1, 2] rfl) hP hD hS
  have hw := h_X4_take n se li wo kn sp py il fl wa so sd ti on he la wm ch ne np al bo ro cp nr a1 a2 hn  K39 R39
  unfold v_X4_take_0 at hw
  refine lv_iload_n hx hb dX4_take_0 rfl (lv_at hl 1 rfl) ?_
  refine zc_i0 (va_runS (As := [.int a1]) (rest := []) ⟨hx, hb, hml, hown, hts⟩ ((c_X4_isSession l D cI cZ a1  ) H.size) (va_cwS 1 hts gX4_take_X4_isSession rfl rfl rfl (by decide +kernel) ⟨Nat.le_of_ble_eq_true rfl, Nat.le_of_ble_eq_true rfl⟩) (ps_of hK hN hP hD [] rfl rfl) rfl rfl hl.1 rfl (lv_room (Nat.le_of_ble_eq_true rfl)) dX4_take_1 ⟨Nat.zero_le _, Nat.zero_le _⟩) hP hD hS hA (fun r u H locs hu hP hD hS => ?_)
  subst hu
  refine lv_if_ne (tgt := 10) hx hb dX4_take_4 (by decide) (fun hc => ?_) (fun hc => ?_)
  · replace hw := hw.2 hc
    refine lv_iload_n hx hb dX4_take_10 rfl (lv_at hl 2 rfl) ?_
    refine lv_iconst (v := (0 : Int32)) hx hb dX4_take_11 (by decide) ?_
    refine lv_iconst (v := (1 : Int32)) hx hb dX4_take_12 (by decide) ?_
    refine zc_i0 (va_runS (As := [.int a2, .int (0 : Int32), .int (1 : Int32)]) (rest := []) ⟨hx, hb, hml, hown, hts⟩ ((c_X4_in l D cI cZ a2 (0 : Int32) (1 : Int32)  ) H.size) (va_cwS 3 hts gX4_take_X4_in rfl rfl rfl (by decide +kernel) ⟨Nat.le_of_ble_eq_true rfl, Nat.le_of_ble_eq_true rfl⟩) (ps_of hK hN hP hD [] rfl rfl) rfl rfl hl.1 rfl (lv_room (Nat.le_of_ble_eq_true rfl)) dX4_take_13 ⟨Nat.zero_le _, Nat.zero_le _⟩) hP hD hS hA (fun r u H locs hu hP hD hS => ?_)
    subst hu
    refine lv_if_ne (tgt := 22) hx hb dX4_take_16 (by decide) (fun hc => ?_) (fun hc => ?_)
    · replace hw := hw.2 hc
      refine lv_aload_n hx hb dX4_take_22 rfl (lv_at hl 0 rfl) ?_
      refine lv_iload_n hx hb dX4_take_23 rfl (lv_at hl 1 rfl) ?_
      obtain ⟨hp0, hw⟩ := hw
      refine zc_v (fun u => (wR cI cZ q (nI n) se li u.1 u.2.1 u.2.2.1 u.2.2.2.1 u.2.2.2.2.1 wo kn sp py il fl wa bo so sd u.2.2.2.2.2.1 u.2.2.2.2.2.2.1 u.2.2.2.2.2.2.2 ti on he la)) [0, 1, 2, 3, 4, 5, 6, 7, 8, 9, 10, 11, 12, 13, 14, 15, 16] [] [0, 1, 2, 3, 4, 5, 6, 7, 8, 9, 10, 11, 12, 13, 14, 15, 16] (va_runV (As := [.int a1]) (rest := []) ⟨hx, hb, hml, hown, hts⟩ ((c_X4_findTeams l D cI cZ q n se li wm ch ne np al wo kn sp py il fl wa bo so sd ro cp nr ti on he la a1 hn hp0) H.size) (cwV 1 hts gX4_take_X4_findTeams rfl rfl rfl (by decide +kernel) ⟨Nat.le_of_ble_eq_true rfl, Nat.le_of_ble_eq_true rfl⟩) (pv_of hK hN hP hD [0, 1, 2, 3, 4, 5, 6, 7, 8, 9, 10, 11, 12, 13, 14, 15, 16] rfl rfl 4 0 rfl rfl) rfl rfl hl.1 rfl (lv_room (Nat.le_of_ble_eq_true rfl)) dX4_take_24 ⟨Nat.zero_le _, Nat.zero_le _⟩) hP hD hS hA rfl rfl rfl (by decide) (fun _ => rfl) rfl (fun u24 H locs hu hP hD hS => ?_)
      replace hw := hw u24 hu
      have hP : va_P D vwCl (wR cI cZ q (nI n) se li u24.1 u24.2.1 u24.2.2.1 u24.2.2.2.1 u24.2.2.2.2.1 wo kn sp py il fl wa bo so sd u24.2.2.2.2.2.1 u24.2.2.2.2.2.2.1 u24.2.2.2.2.2.2.2 ti on he la) H := hP
      have hD : va_D A (wR cI cZ q (nI n) se li u24.1 u24.2.1 u24.2.2.1 u24.2.2.2.1 u24.2.2.2.2.1 wo kn sp py il fl wa bo so sd u24.2.2.2.2.2.1 u24.2.2.2.2.2.2.1 u24.2.2.2.2.2.2.2 ti on he la) := hD
      refine lv_aload_n hx hb dX4_take_27 rfl (lv_at hl 0 rfl) ?_
      refine va_get (D := D) (ci := 4) (v := .int u24.1) (C := RX4) (T := TX4) (N := 25) hx hb hts hin4 hown hK hP 0 rfl rfl 13 (by decide) f87 (fun _ h9 => h9) rfl dX4_take_28 ?_
      refine lv_if_ne (tgt := 37) hx hb dX4_take_31 (by decide) (fun hc => ?_) (fun hc => ?_)
      · replace hw := hw.2 hc
        refine lv_iconst (v := (0 : Int32)) hx hb dX4_take_37 (by decide) ?_
        refine lv_istore_n (lv' := [(3, .int (0 : Int32)), (0, .ref (q 0)), (1, .int a1), (2, .int a2)]) hx hb dX4_take_38 rfl hl (by decide) rfl (fun ls hl => ?_)
        exact k39e _ _ _ _ _ _ _ _ _ _ _ hw _ _ _ (lv_sub hl [1, 3, 0] rfl) hP hD hS
      · replace hw := hw.1 hc
        refine lv_bipush (v := (-4 : Int32)) hx hb dX4_take_34 (by decide) ?_
        exact hret _ (u24.1, u24.2.1, u24.2.2.1, u24.2.2.2.1, u24.2.2.2.2.1, bo, u24.2.2.2.2.2.1, u24.2.2.2.2.2.2.1, u24.2.2.2.2.2.2.2) _ _ _ _ hw rfl hP hD hS dX4_take_36
    · replace hw := hw.1 hc
      refine lv_bipush (v := (-3 : Int32)) hx hb dX4_take_19 (by decide) ?_
      exact hret _ (wm, ch, ne, np, al, bo, ro, cp, nr) _ _ _ _ hw rfl hP hD hS dX4_take_21
  · replace hw := hw.1 hc
    refine lv_bipush (v := (-2 : Int32)) hx hb dX4_take_7 (by decide) ?_
    exact hret _ (wm, ch, ne, np, al, bo, ro, cp, nr) _ _ _ _ hw rfl hP hD hS dX4_take_9
set_option maxHeartbeats 4000000 in
set_option maxRecDepth 100000 in
theorem c_X4_seated (l : Launch) (D : va_G) (cI cZ : ClassId) (q : Nat → Nat) (n : Nat) (se : Int32) (li : Int32) (wm : Int32) (ch : Int32) (ne : Int32) (np : Int32) (al : Int32) (wo : Int32) (kn : Nat → Int32) (sp : Nat → Int32) (py : Nat → Int32) (il : Nat → Int32) (fl : Nat → Int32) (wa : Nat → Int32) (bo : Nat → Int32) (so : Nat → Int32) (sd : Nat → Int32) (ro : Nat → Int32) (cp : Nat → Int32) (nr : Nat → Int32) (ti : Nat → Int32) (on : Nat → Int32) (he : Nat → Int32) (la : Nat → Int32) (hn : n ≤ 6) : MI l yX4_seated wsX4_seated ({ frames := 2, cells := 0, slots := 0, locals := 64 }) D cI cZ [.ref (q 0)] (wR cI cZ q (nI n) se li wm ch ne np al wo kn sp py il fl wa bo so sd ro cp nr ti on he la) (fun _ : Unit => (wR cI cZ q (nI n) se li wm ch ne np al wo kn sp py il fl wa bo so sd ro cp nr ti on he la)) (fun r _ => r = sI (fun k => if bo k < 5 then 1 else 0) n) := by
  refine MI_of (cc := cX4_seated) (maxL := 3) (ty := .int) (by decide) rfl (Nat.le_of_ble_eq_true rfl) (fun p e s m args below meth c A Q hx hb hml hown hts hK hN hA hret H locs ls hl hP hD hS => ?_)
  have hown : s.vm.findClass RX4 = some m.cls := hown
  have hl : lv_has ls 3 [(0, .ref (q 0))] := hl
  have hin4 : ∀ w ∈ u_ws RX4 TX4 25, w ∈ wsX4_seated := fun w h => List.mem_cons_of_mem _ (List.mem_append_right _ h)
  have f66 : (Cond.fieldLink RX4 66 "GlassBoothsModel" "people" "I").before args s = true := hts _ (by decide +kernel)
  have f33 : (Cond.fieldLink RX4 33 "GlassBoothsModel" "booth" "[I").before args s = true := hts _ (by decide +kernel)
  obtain ⟨K4, k4i, k4e⟩ := ex_K2 (fun (x1 : Int32) (x2 : Int32) => ∀ (H : Heap) (locs : List Loc) (ls : Array Slot), lv_has ls 3 [(0, .ref (q 0)), (1, .int x1), (2, .int x2)] → va_P D vwCl (wR cI cZ q (nI n) se li wm ch ne np al wo kn sp py il fl wa bo so sd ro cp nr ti on he la) H → va_D A (wR cI cZ q (nI n) se li wm ch ne np al wo kn sp py il fl wa bo so sd ro cp nr ti on he la) → va_S A s.heap H locs → W p l e (headSpec wsX4_seated ({ frames := 2, cells := 0, slots := 0, locals := 64 })).room s m args below meth c H locs 0 0 Q (F0 m 4 ls []))
  have J28 : ∀ x2 s0 s1, v_X4_seated_28 n se li wm ch ne np al wo kn sp py il fl wa bo so sd ro cp nr ti on he la (fun r _ => r = sI (fun k => if bo k < 5 then 1 else 0) n) K4 x2 s0 s1 → ∀ (H : Heap) (locs : List Loc) (ls : Array Slot), lv_has ls 3 [(0, .ref (q 0)), (2, .int x2)] → va_P D vwCl (wR cI cZ q (nI n) se li wm ch ne np al wo kn sp py il fl wa bo so sd ro cp nr ti on he la) H → va_D A (wR cI cZ q (nI n) se li wm ch ne np al wo kn sp py il fl wa bo so sd ro cp nr ti on he la) → va_S A s.heap H locs → W p l e (headSpec wsX4_seated ({ frames := 2, cells := 0, slots := 0, locals := 64 })).room s m args below meth c H locs 0 0 Q (F0 m 28 ls [.int s0, .int s1]) := by
    intro x2 s0 s1 hw
    intro H locs ls hl hP hD hS
    unfold v_X4_seated_28 at hw
    refine lv_iadd hx hb dX4_seated_28 ?_
    refine lv_istore_n (lv' := [(1, .int (s1 + s0)), (0, .ref (q 0)), (2, .int x2)]) hx hb dX4_seated_29 rfl hl (by decide) rfl (fun ls hl => ?_)
    refine lv_iinc (v := x2 + 1) (lv' := [(2, .int (x2 + 1)), (1, .int (s1 + s0)), (0, .ref (q 0))]) hx hb dX4_seated_30 hl (k := 2) rfl rfl (by decide) rfl (fun ls hl => ?_)
    refine lv_goto (tgt := 4) hx hb dX4_seated_33 (by decide) ?_
    exact k4e _ _ hw _ _ _ (lv_sub hl [2, 1, 0] rfl) hP hD hS
  have R4 : ∀ x1 x2, v_X4_seated_4 n se li wm ch ne np al wo kn sp py il fl wa bo so sd ro cp nr ti on he la (fun r _ => r = sI (fun k => if bo k < 5 then 1 else 0) n) K4 x1 x2 → K4 x1 x2 := by
    intro x1 x2 hw
    refine k4i _ _ ?_
    intro H locs ls hl hP hD hS
    unfold v_X4_seated_4 at hw
    refine lv_iload_n hx hb dX4_seated_4 rfl (lv_at hl 2 rfl) ?_
    refine lv_aload_n hx hb dX4_seated_5 rfl (lv_at hl 0 rfl) ?_
    refine va_get (D := D) (ci := 4) (v := .int (nI n)) (C := RX4) (T := TX4) (N := 25) hx hb hts hin4 hown hK hP 0 rfl rfl 0 (by decide) f66 (fun _ h9 => h9) rfl dX4_seated_6 ?_
    refine lv_icmp_ge (tgt := 36) hx hb dX4_seated_9 (by decide) (fun hc => ?_) (fun hc => ?_)
    · replace hw := hw.1 hc
      refine lv_iload_n hx hb dX4_seated_36 rfl (lv_at hl 1 rfl) ?_
      exact hret _ () _ _ _ _ hw rfl hP hD hS dX4_seated_37
    · replace hw := hw.2 hc
      refine lv_iload_n hx hb dX4_seated_12 rfl (lv_at hl 1 rfl) ?_
      refine lv_aload_n hx hb dX4_seated_13 rfl (lv_at hl 0 rfl) ?_
      refine va_get (D := D) (ci := 4) (v := .ref (q 7)) (C := RX4) (T := TX4) (N := 25) hx hb hts hin4 hown hK hP 0 rfl rfl 8 (by decide) f33 (fun _ h9 => h9) rfl dX4_seated_14 ?_
      refine lv_iload_n hx hb dX4_seated_17 rfl (lv_at hl 2 rfl) ?_
      obtain ⟨hv, hw⟩ := hw
      refine va_iald hx hb hK hP 7 0 rfl rfl hv dX4_seated_18 ?_
      refine lv_iconst (v := (5 : Int32)) hx hb dX4_seated_19 (by decide) ?_
      refine lv_icmp_ge (tgt := 27) hx hb dX4_seated_20 (by decide) (fun hc => ?_) (fun hc => ?_)
      · replace hw := hw.1 hc
        refine lv_iconst (v := (0 : Int32)) hx hb dX4_seated_27 (by decide) ?_
        exact J28 _ _ _ hw _ _ _ (lv_sub hl [0, 2] rfl) hP hD hS
      · replace hw := hw.2 hc
        refine lv_iconst (v := (1 : Int32)) hx hb dX4_seated_23 (by decide) ?_
        refine lv_goto (tgt := 28) hx hb dX4_seated_24 (by decide) ?_
        exact J28 _ _ _ hw _ _ _ (lv_sub hl [0, 2] rfl) hP hD hS
  have hw := h_X4_seated n se li wm ch ne np al wo kn sp py il fl wa bo so sd ro cp nr ti on he la   hn  K4 R4
  unfold v_X4_seated_0 at hw
  refine lv_iconst (v := (0 : Int32)) hx hb dX4_seated_0 (by decide) ?_
  refine lv_istore_n (lv' := [(1, .int (0 : Int32)), (0, .ref (q 0))]) hx hb dX4_seated_1 rfl hl (by decide) rfl (fun ls hl => ?_)
  refine lv_iconst (v := (0 : Int32)) hx hb dX4_seated_2 (by decide) ?_
  refine lv_istore_n (lv' := [(2, .int (0 : Int32)), (1, .int (0 : Int32)), (0, .ref (q 0))]) hx hb dX4_seated_3 rfl hl (by decide) rfl (fun ls hl => ?_)
  exact k4e _ _ hw _ _ _ (lv_sub hl [2, 1, 0] rfl) hP hD hS
set_option maxHeartbeats 4000000 in
set_option maxRecDepth 100000 in
theorem c_X4_leave (l : Launch) (D : va_G) (cI cZ : ClassId) (q : Nat → Nat) (n : Nat) (se : Int32) (li : Int32) (wm : Int32) (ch : Int32) (ne : Int32) (np : Int32) (al : Int32) (wo : Int32) (kn : Nat → Int32) (sp : Nat → Int32) (py : Nat → Int32) (il : Nat → Int32) (fl : Nat → Int32) (wa : Nat → Int32) (bo : Nat → Int32) (so : Nat → Int32) (sd : Nat → Int32) (ro : Nat → Int32) (cp : Nat → Int32) (nr : Nat → Int32) (ti : Nat → Int32) (on : Nat → Int32) (he : Nat → Int32) (la : Nat → Int32) (hn : n ≤ 6) : MI l yX4_leave wsX4_leave ({ frames := 4, cells := 0, slots := 0, locals := 160 }) D cI cZ [.ref (q 0)] (wR cI cZ q (nI n) se li wm ch ne np al wo kn sp py il fl wa bo so sd ro cp nr ti on he la) (fun u : (Nat → Int32) => (wR cI cZ q (nI n) se li wm ch ne np al wo kn sp py il fl wa u so sd ro cp nr ti on he la)) (fun r u => r = sI (fun k => if bo k < 5 then 1 else 0) n ∧ u = fillA bo 6 5) := by
  refine MI_of (cc := cX4_leave) (maxL := 3) (ty := .int) (by decide) rfl (Nat.le_of_ble_eq_true rfl) (fun p e s m args below meth c A Q hx hb hml hown hts hK hN hA hret H locs ls hl hP hD hS => ?_)
  have hown : s.vm.findClass RX4 = some m.cls := hown
  have hl : lv_has ls 3 [(0, .ref (q 0))] := hl
  have hin4 : ∀ w ∈ u_ws RX4 TX4 25, w ∈ wsX4_leave := fun w h => List.mem_cons_of_mem _ (List.mem_append_right _ h)
  have f33 : (Cond.fieldLink RX4 33 "GlassBoothsModel" "booth" "[I").before args s = true := hts _ (by decide +kernel)
  obtain ⟨K7, k7i, k7e⟩ := ex_K3 (fun (x1 : Int32) (x2 : Int32) (bo_ : Nat → Int32) => ∀ (H : Heap) (locs : List Loc) (ls : Array Slot), lv_has ls 3 [(0, .ref (q 0)), (1, .int x1), (2, .int x2)] → va_P D vwCl (wR cI cZ q (nI n) se li wm ch ne np al wo kn sp py il fl wa bo_ so sd ro cp nr ti on he la) H → va_D A (wR cI cZ q (nI n) se li wm ch ne np al wo kn sp py il fl wa bo_ so sd ro cp nr ti on he la) → va_S A s.heap H locs → W p l e (headSpec wsX4_leave ({ frames := 4, cells := 0, slots := 0, locals := 160 })).room s m args below meth c H locs 0 0 Q (F0 m 7 ls []))
  have R7 : ∀ x1 x2 bo_, v_X4_leave_7 n se li wm ch ne np al wo kn sp py il fl wa so sd ro cp nr ti on he la (fun r u => r = sI (fun k => if bo k < 5 then 1 else 0) n ∧ u = fillA bo 6 5) K7 x1 x2 bo_ → K7 x1 x2 bo_ := by
    intro x1 x2 bo_ hw
    refine k7i _ _ _ ?_
    intro H locs ls hl hP hD hS
    unfold v_X4_leave_7 at hw
    refine lv_iload_n hx hb dX4_leave_7 rfl (lv_at hl 2 rfl) ?_
    refine lv_bipush (v := (6 : Int32)) hx hb dX4_leave_8 (by decide) ?_
    refine lv_icmp_ge (tgt := 26) hx hb dX4_leave_10 (by decide) (fun hc => ?_) (fun hc => ?_)
    · replace hw := hw.1 hc
      refine lv_iload_n hx hb dX4_leave_26 rfl (lv_at hl 1 rfl) ?_
      exact hret _ bo_ _ _ _ _ hw rfl hP hD hS dX4_leave_27
    · replace hw := hw.2 hc
      refine lv_aload_n hx hb dX4_leave_13 rfl (lv_at hl 0 rfl) ?_
      refine va_get (D := D) (ci := 4) (v := .ref (q 7)) (C := RX4) (T := TX4) (N := 25) hx hb hts hin4 hown hK hP 0 rfl rfl 8 (by decide) f33 (fun _ h9 => h9) rfl dX4_leave_14 ?_
      refine lv_iload_n hx hb dX4_leave_17 rfl (lv_at hl 2 rfl) ?_
      refine lv_iconst (v := (5 : Int32)) hx hb dX4_leave_18 (by decide) ?_
      obtain ⟨hv, hw⟩ := hw
      refine va_iast hx hb hK hP hD hS 7 0 rfl rfl hv dX4_leave_19 (fun H locs hP hD hS => ?_)
      have hP : va_P D vwCl (wR cI cZ q (nI n) se li wm ch ne np al wo kn sp py il fl wa (upd bo_ x2.toNatClampNeg (5 : Int32)) so sd ro cp nr ti on he la) H := hP
      have hD : va_D A (wR cI cZ q (nI n) se li wm ch ne np al wo kn sp py il fl wa (upd bo_ x2.toNatClampNeg (5 : Int32)) so sd ro cp nr ti on he la) := hD
      refine lv_iinc (v := x2 + 1) (lv' := [(2, .int (x2 + 1)), (0, .ref (q 0)), (1, .int x1)]) hx hb dX4_leave_20 hl (k := 2) rfl rfl (by decide) rfl (fun ls hl => ?_)
      refine lv_goto (tgt := 7) hx hb dX4_leave_23 (by decide) ?_
      exact k7e _ _ _ hw _ _ _ (lv_sub hl [1, 2, 0] rfl) hP hD hS
  have hw := h_X4_leave n se li wm ch ne np al wo kn sp py il fl wa so sd ro cp nr ti on he la bo  hn  K7 R7
  unfold v_X4_leave_0 at hw
  refine lv_aload_n hx hb dX4_leave_0 rfl (lv_at hl 0 rfl) ?_
  refine zc_i (fun u => (wR cI cZ q (nI n) se li wm ch ne np al wo kn sp py il fl wa bo so sd ro cp nr ti on he la)) [0, 1, 2, 3, 4, 5, 6, 7, 8, 9, 10, 11, 12, 13, 14, 15, 16] [] [0, 1, 2, 3, 4, 5, 6, 7, 8, 9, 10, 11, 12, 13, 14, 15, 16] (va_runV (As := []) (rest := []) ⟨hx, hb, hml, hown, hts⟩ ((c_X4_seated l D cI cZ q n se li wm ch ne np al wo kn sp py il fl wa bo so sd ro cp nr ti on he la hn ) H.size) (cwV 0 hts gX4_leave_X4_seated rfl rfl rfl (by decide +kernel) ⟨Nat.le_of_ble_eq_true rfl, Nat.le_of_ble_eq_true rfl⟩) (pv_of hK hN hP hD [0, 1, 2, 3, 4, 5, 6, 7, 8, 9, 10, 11, 12, 13, 14, 15, 16] rfl rfl 4 0 rfl rfl) rfl rfl hl.1 rfl (lv_room (Nat.le_of_ble_eq_true rfl)) dX4_leave_1 ⟨Nat.zero_le _, Nat.zero_le _⟩) hP hD hS hA rfl rfl rfl (by decide) (fun _ => rfl) rfl (fun r u H locs hu hP hD hS => ?_)
  subst hu
  have hP : va_P D vwCl (wR cI cZ q (nI n) se li wm ch ne np al wo kn sp py il fl wa bo so sd ro cp nr ti on he la) H := hP
  have hD : va_D A (wR cI cZ q (nI n) se li wm ch ne np al wo kn sp py il fl wa bo so sd ro cp nr ti on he la) := hD
  refine lv_istore_n (lv' := [(1, .int (sI (fun k => if bo k < 5 then 1 else 0) n)), (0, .ref (q 0))]) hx hb dX4_leave_4 rfl hl (by decide) rfl (fun ls hl => ?_)
  refine lv_iconst (v := (0 : Int32)) hx hb dX4_leave_5 (by decide) ?_
  refine lv_istore_n (lv' := [(2, .int (0 : Int32)), (1, .int (sI (fun k => if bo k < 5 then 1 else 0) n)), (0, .ref (q 0))]) hx hb dX4_leave_6 rfl hl (by decide) rfl (fun ls hl => ?_)
  exact k7e _ _ _ hw _ _ _ (lv_sub hl [2, 1, 0] rfl) hP hD hS
set_option maxHeartbeats 4000000 in
set_option maxRecDepth 100000 in
theorem c_X4_booth (l : Launch) (D : va_G) (cI cZ : ClassId) (q : Nat → Nat) (n : Nat) (se : Int32) (li : Int32) (wm : Int32) (ch : Int32) (ne : Int32) (np : Int32) (al : Int32) (wo : Int32) (kn : Nat → Int32) (sp : Nat → Int32) (py : Nat → Int32) (il : Nat → Int32) (fl : Nat → Int32) (wa : Nat → Int32) (bo : Nat → Int32) (so : Nat → Int32) (sd : Nat → Int32) (ro : Nat → Int32) (cp : Nat → Int32) (nr : Nat → Int32) (ti : Nat → Int32) (on : Nat → Int32) (he : Nat → Int32) (la : Nat → Int32) (a1 : Int32) (hn : n ≤ 6) : MI l yX4_booth wsX4_booth ({ frames := 6, cells := 0, slots := 0, locals := 240 }) D cI cZ [.ref (q 0), .int a1] (wR cI cZ q (nI n) se li wm ch ne np al wo kn sp py il fl wa bo so sd ro cp nr ti on he la) (fun _ : Unit => (wR cI cZ q (nI n) se li wm ch ne np al wo kn sp py il fl wa bo so sd ro cp nr ti on he la)) (fun r _ => r = (if inR a1 0 (nI n - 1) = true then bo a1.toNatClampNeg else (-2))) := by
  refine MI_of (cc := cX4_booth) (maxL := 2) (ty := .int) (by decide) rfl (Nat.le_of_ble_eq_true rfl) (fun p e s m args below meth c A Q hx hb hml hown hts hK hN hA hret H locs ls hl hP hD hS => ?_)
  have hown : s.vm.findClass RX4 = some m.cls := hown
  have hl : lv_has ls 2 [(0, .ref (q 0)), (1, .int a1)] := hl
  have hin4 : ∀ w ∈ u_ws RX4 TX4 25, w ∈ wsX4_booth := fun w h => List.mem_cons_of_mem _ (List.mem_append_right _ h)
  have f33 : (Cond.fieldLink RX4 33 "GlassBoothsModel" "booth" "[I").before args s = true := hts _ (by decide +kernel)
  have hw := h_X4_booth n se li wm ch ne np al wo kn sp py il fl wa bo so sd ro cp nr ti on he la  a1 hn   
  unfold v_X4_booth_0 at hw
  refine lv_aload_n hx hb dX4_booth_0 rfl (lv_at hl 0 rfl) ?_
  refine lv_iload_n hx hb dX4_booth_1 rfl (lv_at hl 1 rfl) ?_
  refine zc_i (fun u => (wR cI cZ q (nI n) se li wm ch ne np al wo kn sp py il fl wa bo so sd ro cp nr ti on he la)) [0, 1, 2, 3, 4, 5, 6, 7, 8, 9, 10, 11, 12, 13, 14, 15, 16] [] [0, 1, 2, 3, 4, 5, 6, 7, 8, 9, 10, 11, 12, 13, 14, 15, 16] (va_runV (As := [.int a1]) (rest := []) ⟨hx, hb, hml, hown, hts⟩ ((c_X4_isPerson l D cI cZ q n se li wm ch ne np al wo kn sp py il fl wa bo so sd ro cp nr ti on he la a1 hn ) H.size) (cwV 1 hts gX4_booth_X4_isPerson rfl rfl rfl (by decide +kernel) ⟨Nat.le_of_ble_eq_true rfl, Nat.le_of_ble_eq_true rfl⟩) (pv_of hK hN hP hD [0, 1, 2, 3, 4, 5, 6, 7, 8, 9, 10, 11, 12, 13, 14, 15, 16] rfl rfl 4 0 rfl rfl) rfl rfl hl.1 rfl (lv_room (Nat.le_of_ble_eq_true rfl)) dX4_booth_2 ⟨Nat.zero_le _, Nat.zero_le _⟩) hP hD hS hA rfl rfl rfl (by decide) (fun _ => rfl) rfl (fun r u H locs hu hP hD hS => ?_)
  subst hu
  have hP : va_P D vwCl (wR cI cZ q (nI n) se li wm ch ne np al wo kn sp py il fl wa bo so sd ro cp nr ti on he la) H := hP
  have hD : va_D A (wR cI cZ q (nI n) se li wm ch ne np al wo kn sp py il fl wa bo so sd ro cp nr ti on he la) := hD
  refine lv_if_eq (tgt := 17) hx hb dX4_booth_5 (by decide) (fun hc => ?_) (fun hc => ?_)
  · replace hw := hw.1 hc
    refine lv_bipush (v := (-2 : Int32)) hx hb dX4_booth_17 (by decide) ?_
    exact hret _ () _ _ _ _ hw rfl hP hD hS dX4_booth_19
  · replace hw := hw.2 hc
    refine lv_aload_n hx hb dX4_booth_8 rfl (lv_at hl 0 rfl) ?_
    refine va_get (D := D) (ci := 4) (v := .ref (q 7)) (C := RX4) (T := TX4) (N := 25) hx hb hts hin4 hown hK hP 0 rfl rfl 8 (by decide) f33 (fun _ h9 => h9) rfl dX4_booth_9 ?_
    refine lv_iload_n hx hb dX4_booth_12 rfl (lv_at hl 1 rfl) ?_
    obtain ⟨hv, hw⟩ := hw
    refine va_iald hx hb hK hP 7 0 rfl rfl hv dX4_booth_13 ?_
    refine lv_goto (tgt := 19) hx hb dX4_booth_14 (by decide) ?_
    exact hret _ () _ _ _ _ hw rfl hP hD hS dX4_booth_19
set_option maxHeartbeats 4000000 in
set_option maxRecDepth 100000 in
theorem c_X4_lacking (l : Launch) (D : va_G) (cI cZ : ClassId) (q : Nat → Nat) (n : Nat) (se : Int32) (li : Int32) (wm : Int32) (ch : Int32) (ne : Int32) (np : Int32) (al : Int32) (wo : Int32) (kn : Nat → Int32) (sp : Nat → Int32) (py : Nat → Int32) (il : Nat → Int32) (fl : Nat → Int32) (wa : Nat → Int32) (bo : Nat → Int32) (so : Nat → Int32) (sd : Nat → Int32) (ro : Nat → Int32) (cp : Nat → Int32) (nr : Nat → Int32) (ti : Nat → Int32) (on : Nat → Int32) (he : Nat → Int32) (la : Nat → Int32) (a1 : Int32) (hn : n ≤ 6) : MI l yX4_lacking wsX4_lacking ({ frames := 6, cells := 0, slots := 0, locals := 240 }) D cI cZ [.ref (q 0), .int a1] (wR cI cZ q (nI n) se li wm ch ne np al wo kn sp py il fl wa bo so sd ro cp nr ti on he la) (fun _ : Unit => (wR cI cZ q (nI n) se li wm ch ne np al wo kn sp py il fl wa bo so sd ro cp nr ti on he la)) (fun r _ => r = (if inR a1 0 1 = true then rlF n il sp (wa a1.toNatClampNeg) se 5 else (-2))) := by
  refine MI_of (cc := cX4_lacking) (maxL := 6) (ty := .int) (by decide) rfl (Nat.le_of_ble_eq_true rfl) (fun p e s m args below meth c A Q hx hb hml hown hts hK hN hA hret H locs ls hl hP hD hS => ?_)
  have hown : s.vm.findClass RX4 = some m.cls := hown
  have hl : lv_has ls 6 [(0, .ref (q 0)), (1, .int a1)] := hl
  have hin4 : ∀ w ∈ u_ws RX4 TX4 25, w ∈ wsX4_lacking := fun w h => List.mem_cons_of_mem _ (List.mem_append_right _ h)
  have f66 : (Cond.fieldLink RX4 66 "GlassBoothsModel" "people" "I").before args s = true := hts _ (by decide +kernel)
  have f26 : (Cond.fieldLink RX4 26 "GlassBoothsModel" "wanted" "[I").before args s = true := hts _ (by decide +kernel)
  have f29 : (Cond.fieldLink RX4 29 "GlassBoothsModel" "seats" "I").before args s = true := hts _ (by decide +kernel)
  have f19 : (Cond.fieldLink RX4 19 "GlassBoothsModel" "isIll" "[Z").before args s = true := hts _ (by decide +kernel)
  have f13 : (Cond.fieldLink RX4 13 "GlassBoothsModel" "speaks" "[I").before args s = true := hts _ (by decide +kernel)
  obtain ⟨K14, k14i, k14e⟩ := ex_K3 (fun (x1 : Int32) (x2 : Int32) (x3 : Int32) => ∀ (H : Heap) (locs : List Loc) (ls : Array Slot), lv_has ls 6 [(0, .ref (q 0)), (1, .int x1), (2, .int x2), (3, .int x3)] → va_P D vwCl (wR cI cZ q (nI n) se li wm ch ne np al wo kn sp py il fl wa bo so sd ro cp nr ti on he la) H → va_D A (wR cI cZ q (nI n) se li wm ch ne np al wo kn sp py il fl wa bo so sd ro cp nr ti on he la) → va_S A s.heap H locs → W p l e (headSpec wsX4_lacking ({ frames := 6, cells := 0, slots := 0, locals := 240 })).room s m args below meth c H locs 0 0 Q (F0 m 14 ls []))
  obtain ⟨K25, k25i, k25e⟩ := ex_K5 (fun (x1 : Int32) (x2 : Int32) (x3 : Int32) (x4 : Int32) (x5 : Int32) => ∀ (H : Heap) (locs : List Loc) (ls : Array Slot), lv_has ls 6 [(0, .ref (q 0)), (1, .int x1), (2, .int x2), (3, .int x3), (4, .int x4), (5, .int x5)] → va_P D vwCl (wR cI cZ q (nI n) se li wm ch ne np al wo kn sp py il fl wa bo so sd ro cp nr ti on he la) H → va_D A (wR cI cZ q (nI n) se li wm ch ne np al wo kn sp py il fl wa bo so sd ro cp nr ti on he la) → va_S A s.heap H locs → W p l e (headSpec wsX4_lacking ({ frames := 6, cells := 0, slots := 0, locals := 240 })).room s m args below meth c H locs 0 0 Q (F0 m 25 ls []))
  have R14 : ∀ x1 x2 x3, v_X4_lacking_14 n se li wm ch ne np al wo kn sp py il fl wa bo so sd ro cp nr ti on he la (fun r _ => r = (if inR a1 0 1 = true then rlF n il sp (wa a1.toNatClampNeg) se 5 else (-2))) K14 K25 x1 x2 x3 → K14 x1 x2 x3 := by
    intro x1 x2 x3 hw
    refine k14i _ _ _ ?_
    intro H locs ls hl hP hD hS
    unfold v_X4_lacking_14 at hw
    refine lv_iload_n hx hb dX4_lacking_14 rfl (lv_at hl 3 rfl) ?_
    refine lv_iconst (v := (5 : Int32)) hx hb dX4_lacking_15 (by decide) ?_
    refine lv_icmp_ge (tgt := 112) hx hb dX4_lacking_16 (by decide) (fun hc => ?_) (fun hc => ?_)
    · replace hw := hw.1 hc
      refine lv_iload_n hx hb dX4_lacking_112 rfl (lv_at hl 2 rfl) ?_
      exact hret _ () _ _ _ _ hw rfl hP hD hS dX4_lacking_113
    · replace hw := hw.2 hc
      refine lv_iconst (v := (0 : Int32)) hx hb dX4_lacking_19 (by decide) ?_
      refine lv_istore (lv' := [(4, .int (0 : Int32)), (0, .ref (q 0)), (1, .int x1), (2, .int x2), (3, .int x3)]) hx hb dX4_lacking_20 hl (by decide) rfl (fun ls hl => ?_)
      refine lv_iconst (v := (0 : Int32)) hx hb dX4_lacking_22 (by decide) ?_
      refine lv_istore (lv' := [(5, .int (0 : Int32)), (4, .int (0 : Int32)), (0, .ref (q 0)), (1, .int x1), (2, .int x2), (3, .int x3)]) hx hb dX4_lacking_23 hl (by decide) rfl (fun ls hl => ?_)
      exact k25e _ _ _ _ _ hw _ _ _ (lv_sub hl [2, 3, 4, 5, 1, 0] rfl) hP hD hS
  have J65 : ∀ x1 x2 x3 x5 s0 s1, v_X4_lacking_65 n se li wm ch ne np al wo kn sp py il fl wa bo so sd ro cp nr ti on he la (fun r _ => r = (if inR a1 0 1 = true then rlF n il sp (wa a1.toNatClampNeg) se 5 else (-2))) K14 K25 x1 x2 x3 x5 s0 s1 → ∀ (H : Heap) (locs : List Loc) (ls : Array Slot), lv_has ls 6 [(0, .ref (q 0)), (1, .int x1), (2, .int x2), (3, .int x3), (5, .int x5)] → va_P D vwCl (wR cI cZ q (nI n) se li wm ch ne np al wo kn sp py il fl wa bo so sd ro cp nr ti on he la) H → va_D A (wR cI cZ q (nI n) se li wm ch ne np al wo kn sp py il fl wa bo so sd ro cp nr ti on he la) → va_S A s.heap H locs → W p l e (headSpec wsX4_lacking ({ frames := 6, cells := 0, slots := 0, locals := 240 })).room s m args below meth c H locs 0 0 Q (F0 m 65 ls [.int s0, .int s1]) := by
    intro x1 x2 x3 x5 s0 s1 hw
    intro H locs ls hl hP hD hS
    unfold v_X4_lacking_65 at hw
    refine lv_iadd hx hb dX4_lacking_65 ?_
    refine lv_istore (lv' := [(4, .int (s1 + s0)), (0, .ref (q 0)), (1, .int x1), (2, .int x2), (3, .int x3), (5, .int x5)]) hx hb dX4_lacking_66 hl (by decide) rfl (fun ls hl => ?_)
    refine lv_iinc (v := x5 + 1) (lv' := [(5, .int (x5 + 1)), (4, .int (s1 + s0)), (0, .ref (q 0)), (1, .int x1), (2, .int x2), (3, .int x3)]) hx hb dX4_lacking_68 hl (k := 5) rfl rfl (by decide) rfl (fun ls hl => ?_)
    refine lv_goto (tgt := 25) hx hb dX4_lacking_71 (by decide) ?_
    exact k25e _ _ _ _ _ hw _ _ _ (lv_sub hl [2, 3, 4, 5, 1, 0] rfl) hP hD hS
  have J64 : ∀ x1 x2 x3 x5 s0, v_X4_lacking_64 n se li wm ch ne np al wo kn sp py il fl wa bo so sd ro cp nr ti on he la (fun r _ => r = (if inR a1 0 1 = true then rlF n il sp (wa a1.toNatClampNeg) se 5 else (-2))) K14 K25 x1 x2 x3 x5 s0 → ∀ (H : Heap) (locs : List Loc) (ls : Array Slot), lv_has ls 6 [(0, .ref (q 0)), (1, .int x1), (2, .int x2), (3, .int x3), (5, .int x5)] → va_P D vwCl (wR cI cZ q (nI n) se li wm ch ne np al wo kn sp py il fl wa bo so sd ro cp nr ti on he la) H → va_D A (wR cI cZ q (nI n) se li wm ch ne np al wo kn sp py il fl wa bo so sd ro cp nr ti on he la) → va_S A s.heap H locs → W p l e (headSpec wsX4_lacking ({ frames := 6, cells := 0, slots := 0, locals := 240 })).room s m args below meth c H locs 0 0 Q (F0 m 64 ls [.int s0]) := by
    intro x1 x2 x3 x5 s0 hw
    intro H locs ls hl hP hD hS
    unfold v_X4_lacking_64 at hw
    refine lv_iconst (v := (0 : Int32)) hx hb dX4_lacking_64 (by decide) ?_
    exact J65 _ _ _ _ _ _ hw _ _ _ (lv_sub hl [0, 1, 2, 3, 4] rfl) hP hD hS
  have J104 : ∀ x1 x3 s0 s1, v_X4_lacking_104 n se li wm ch ne np al wo kn sp py il fl wa bo so sd ro cp nr ti on he la (fun r _ => r = (if inR a1 0 1 = true then rlF n il sp (wa a1.toNatClampNeg) se 5 else (-2))) K14 K25 x1 x3 s0 s1 → ∀ (H : Heap) (locs : List Loc) (ls : Array Slot), lv_has ls 6 [(0, .ref (q 0)), (1, .int x1), (3, .int x3)] → va_P D vwCl (wR cI cZ q (nI n) se li wm ch ne np al wo kn sp py il fl wa bo so sd ro cp nr ti on he la) H → va_D A (wR cI cZ q (nI n) se li wm ch ne np al wo kn sp py il fl wa bo so sd ro cp nr ti on he la) → va_S A s.heap H locs → W p l e (headSpec wsX4_lacking ({ frames := 6, cells := 0, slots := 0, locals := 240 })).room s m args below meth c H locs 0 0 Q (F0 m 104 ls [.int s0, .int s1]) := by
    intro x1 x3 s0 s1 hw
    intro H locs ls hl hP hD hS
    unfold v_X4_lacking_104 at hw
    refine lv_ior hx hb dX4_lacking_104 ?_
    refine lv_istore_n (lv' := [(2, .int (s1 ||| s0)), (0, .ref (q 0)), (1, .int x1), (3, .int x3)]) hx hb dX4_lacking_105 rfl hl (by decide) rfl (fun ls hl => ?_)
    refine lv_iinc (v := x3 + 1) (lv' := [(3, .int (x3 + 1)), (2, .int (s1 ||| s0)), (0, .ref (q 0)), (1, .int x1)]) hx hb dX4_lacking_106 hl (k := 3) rfl rfl (by decide) rfl (fun ls hl => ?_)
    refine lv_goto (tgt := 14) hx hb dX4_lacking_109 (by decide) ?_
    exact k14e _ _ _ hw _ _ _ (lv_sub hl [2, 3, 1, 0] rfl) hP hD hS
  have J103 : ∀ x1 x3 s0, v_X4_lacking_103 n se li wm ch ne np al wo kn sp py il fl wa bo so sd ro cp nr ti on he la (fun r _ => r = (if inR a1 0 1 = true then rlF n il sp (wa a1.toNatClampNeg) se 5 else (-2))) K14 K25 x1 x3 s0 → ∀ (H : Heap) (locs : List Loc) (ls : Array Slot), lv_has ls 6 [(0, .ref (q 0)), (1, .int x1), (3, .int x3)] → va_P D vwCl (wR cI cZ q (nI n) se li wm ch ne np al wo kn sp py il fl wa bo so sd ro cp nr ti on he la) H → va_D A (wR cI cZ q (nI n) se li wm ch ne np al wo kn sp py il fl wa bo so sd ro cp nr ti on he la) → va_S A s.heap H locs → W p l e (headSpec wsX4_lacking ({ frames := 6, cells := 0, slots := 0, locals := 240 })).room s m args below meth c H locs 0 0 Q (F0 m 103 ls [.int s0]) := by
    intro x1 x3 s0 hw
    intro H locs ls hl hP hD hS
    unfold v_X4_lacking_103 at hw
    refine lv_iconst (v := (0 : Int32)) hx hb dX4_lacking_103 (by decide) ?_
    exact J104 _ _ _ _ hw _ _ _ (lv_sub hl [0, 1, 2] rfl) hP hD hS
  have R25 : ∀ x1 x2 x3 x4 x5, v_X4_lacking_25 n se li wm ch ne np al wo kn sp py il fl wa bo so sd ro cp nr ti on he la (fun r _ => r = (if inR a1 0 1 = true then rlF n il sp (wa a1.toNatClampNeg) se 5 else (-2))) K14 K25 x1 x2 x3 x4 x5 → K25 x1 x2 x3 x4 x5 := by
    intro x1 x2 x3 x4 x5 hw
    refine k25i _ _ _ _ _ ?_
    intro H locs ls hl hP hD hS
    unfold v_X4_lacking_25 at hw
    refine lv_iload hx hb dX4_lacking_25 (lv_at hl 5 rfl) ?_
    refine lv_aload_n hx hb dX4_lacking_27 rfl (lv_at hl 0 rfl) ?_
    refine va_get (D := D) (ci := 4) (v := .int (nI n)) (C := RX4) (T := TX4) (N := 25) hx hb hts hin4 hown hK hP 0 rfl rfl 0 (by decide) f66 (fun _ h9 => h9) rfl dX4_lacking_28 ?_
    refine lv_icmp_ge (tgt := 74) hx hb dX4_lacking_31 (by decide) (fun hc => ?_) (fun hc => ?_)
    · replace hw := hw.1 hc
      refine lv_iload_n hx hb dX4_lacking_74 rfl (lv_at hl 2 rfl) ?_
      refine lv_aload_n hx hb dX4_lacking_75 rfl (lv_at hl 0 rfl) ?_
      refine va_get (D := D) (ci := 4) (v := .ref (q 6)) (C := RX4) (T := TX4) (N := 25) hx hb hts hin4 hown hK hP 0 rfl rfl 6 (by decide) f26 (fun _ h9 => h9) rfl dX4_lacking_76 ?_
      refine lv_iload_n hx hb dX4_lacking_79 rfl (lv_at hl 1 rfl) ?_
      obtain ⟨hv, hw⟩ := hw
      refine va_iald hx hb hK hP 6 0 rfl rfl hv dX4_lacking_80 ?_
      refine lv_iload_n hx hb dX4_lacking_81 rfl (lv_at hl 3 rfl) ?_
      refine zc_i0 (va_runS (As := [.int (wa x1.toNatClampNeg), .int x3]) (rest := [.int x2]) ⟨hx, hb, hml, hown, hts⟩ ((c_X4_has l D cI cZ (wa x1.toNatClampNeg) x3  ) H.size) (va_cwS 2 hts gX4_lacking_X4_has rfl rfl rfl (by decide +kernel) ⟨Nat.le_of_ble_eq_true rfl, Nat.le_of_ble_eq_true rfl⟩) (ps_of hK hN hP hD [] rfl rfl) rfl rfl hl.1 rfl (lv_room (Nat.le_of_ble_eq_true rfl)) dX4_lacking_82 ⟨Nat.zero_le _, Nat.zero_le _⟩) hP hD hS hA (fun r u H locs hu hP hD hS => ?_)
      subst hu
      refine lv_if_eq (tgt := 103) hx hb dX4_lacking_85 (by decide) (fun hc => ?_) (fun hc => ?_)
      · replace hw := hw.1 hc
        exact J103 _ _ _ hw _ _ _ (lv_sub hl [0, 1, 3] rfl) hP hD hS
      · replace hw := hw.2 hc
        refine lv_iload hx hb dX4_lacking_88 (lv_at hl 4 rfl) ?_
        refine lv_aload_n hx hb dX4_lacking_90 rfl (lv_at hl 0 rfl) ?_
        refine va_get (D := D) (ci := 4) (v := .int se) (C := RX4) (T := TX4) (N := 25) hx hb hts hin4 hown hK hP 0 rfl rfl 7 (by decide) f29 (fun _ h9 => h9) rfl dX4_lacking_91 ?_
        refine lv_icmp_ge (tgt := 103) hx hb dX4_lacking_94 (by decide) (fun hc => ?_) (fun hc => ?_)
        · replace hw := hw.1 hc
          exact J103 _ _ _ hw _ _ _ (lv_sub hl [0, 1, 3] rfl) hP hD hS
        · replace hw := hw.2 hc
          refine lv_iconst (v := (1 : Int32)) hx hb dX4_lacking_97 (by decide) ?_
          refine lv_iload_n hx hb dX4_lacking_98 rfl (lv_at hl 3 rfl) ?_
          refine lv_ishl hx hb dX4_lacking_99 ?_
          refine lv_goto (tgt := 104) hx hb dX4_lacking_100 (by decide) ?_
          exact J104 _ _ _ _ hw _ _ _ (lv_sub hl [0, 1, 3] rfl) hP hD hS
    · replace hw := hw.2 hc
      refine lv_iload hx hb dX4_lacking_34 (lv_at hl 4 rfl) ?_
      refine lv_aload_n hx hb dX4_lacking_36 rfl (lv_at hl 0 rfl) ?_
      refine va_get (D := D) (ci := 4) (v := .ref (q 4)) (C := RX4) (T := TX4) (N := 25) hx hb hts hin4 hown hK hP 0 rfl rfl 4 (by decide) f19 (fun _ h9 => h9) rfl dX4_lacking_37 ?_
      refine lv_iload hx hb dX4_lacking_40 (lv_at hl 5 rfl) ?_
      obtain ⟨hv, hw⟩ := hw
      refine va_zald hx hb hK hP 4 1 rfl rfl hv dX4_lacking_42 ?_
      refine lv_if_ne (tgt := 64) hx hb dX4_lacking_43 (by decide) (fun hc => ?_) (fun hc => ?_)
      · replace hw := hw.2 hc
        exact J64 _ _ _ _ _ hw _ _ _ (lv_sub hl [0, 1, 2, 3, 5] rfl) hP hD hS
      · replace hw := hw.1 hc
        refine lv_aload_n hx hb dX4_lacking_46 rfl (lv_at hl 0 rfl) ?_
        refine va_get (D := D) (ci := 4) (v := .ref (q 2)) (C := RX4) (T := TX4) (N := 25) hx hb hts hin4 hown hK hP 0 rfl rfl 2 (by decide) f13 (fun _ h9 => h9) rfl dX4_lacking_47 ?_
        refine lv_iload hx hb dX4_lacking_50 (lv_at hl 5 rfl) ?_
        obtain ⟨hv, hw⟩ := hw
        refine va_iald hx hb hK hP 2 0 rfl rfl hv dX4_lacking_52 ?_
        refine lv_iload_n hx hb dX4_lacking_53 rfl (lv_at hl 3 rfl) ?_
        refine zc_i0 (va_runS (As := [.int (sp x5.toNatClampNeg), .int x3]) (rest := [.int x4]) ⟨hx, hb, hml, hown, hts⟩ ((c_X4_has l D cI cZ (sp x5.toNatClampNeg) x3  ) H.size) (va_cwS 2 hts gX4_lacking_X4_has rfl rfl rfl (by decide +kernel) ⟨Nat.le_of_ble_eq_true rfl, Nat.le_of_ble_eq_true rfl⟩) (ps_of hK hN hP hD [] rfl rfl) rfl rfl hl.1 rfl (lv_room (Nat.le_of_ble_eq_true rfl)) dX4_lacking_54 ⟨Nat.zero_le _, Nat.zero_le _⟩) hP hD hS hA (fun r u H locs hu hP hD hS => ?_)
        subst hu
        refine lv_if_eq (tgt := 64) hx hb dX4_lacking_57 (by decide) (fun hc => ?_) (fun hc => ?_)
        · replace hw := hw.1 hc
          exact J64 _ _ _ _ _ hw _ _ _ (lv_sub hl [0, 1, 2, 3, 5] rfl) hP hD hS
        · replace hw := hw.2 hc
          refine lv_iconst (v := (1 : Int32)) hx hb dX4_lacking_60 (by decide) ?_
          refine lv_goto (tgt := 65) hx hb dX4_lacking_61 (by decide) ?_
          exact J65 _ _ _ _ _ _ hw _ _ _ (lv_sub hl [0, 1, 2, 3, 5] rfl) hP hD hS
  have hw := h_X4_lacking n se li wm ch ne np al wo kn sp py il fl wa bo so sd ro cp nr ti on he la  a1 hn  K14 K25 R14 R25
  unfold v_X4_lacking_0 at hw
  refine lv_iload_n hx hb dX4_lacking_0 rfl (lv_at hl 1 rfl) ?_
  refine zc_i0 (va_runS (As := [.int a1]) (rest := []) ⟨hx, hb, hml, hown, hts⟩ ((c_X4_isSession l D cI cZ a1  ) H.size) (va_cwS 1 hts gX4_lacking_X4_isSession rfl rfl rfl (by decide +kernel) ⟨Nat.le_of_ble_eq_true rfl, Nat.le_of_ble_eq_true rfl⟩) (ps_of hK hN hP hD [] rfl rfl) rfl rfl hl.1 rfl (lv_room (Nat.le_of_ble_eq_true rfl)) dX4_lacking_1 ⟨Nat.zero_le _, Nat.zero_le _⟩) hP hD hS hA (fun r u H locs hu hP hD hS => ?_)
  subst hu
  refine lv_if_ne (tgt := 10) hx hb dX4_lacking_4 (by decide) (fun hc => ?_) (fun hc => ?_)
  · replace hw := hw.2 hc
    refine lv_iconst (v := (0 : Int32)) hx hb dX4_lacking_10 (by decide) ?_
    refine lv_istore_n (lv' := [(2, .int (0 : Int32)), (0, .ref (q 0)), (1, .int a1)]) hx hb dX4_lacking_11 rfl hl (by decide) rfl (fun ls hl => ?_)
    refine lv_iconst (v := (0 : Int32)) hx hb dX4_lacking_12 (by decide) ?_
    refine lv_istore_n (lv' := [(3, .int (0 : Int32)), (2, .int (0 : Int32)), (0, .ref (q 0)), (1, .int a1)]) hx hb dX4_lacking_13 rfl hl (by decide) rfl (fun ls hl => ?_)
    exact k14e _ _ _ hw _ _ _ (lv_sub hl [2, 3, 1, 0] rfl) hP hD hS
  · replace hw := hw.1 hc
    refine lv_bipush (v := (-2 : Int32)) hx hb dX4_lacking_7 (by decide) ?_
    exact hret _ () _ _ _ _ hw rfl hP hD hS dX4_lacking_9
set_option maxHeartbeats 4000000 in
set_option maxRecDepth 100000 in
theorem c_X4_needed (l : Launch) (D : va_G) (cI cZ : ClassId) (q : Nat → Nat) (n : Nat) (se : Int32) (li : Int32) (wm : Int32) (ch : Int32) (ne : Int32) (np : Int32) (al : Int32) (wo : Int32) (kn : Nat → Int32) (sp : Nat → Int32) (py : Nat → Int32) (il : Nat → Int32) (fl : Nat → Int32) (wa : Nat → Int32) (bo : Nat → Int32) (so : Nat → Int32) (sd : Nat → Int32) (ro : Nat → Int32) (cp : Nat → Int32) (nr : Nat → Int32) (ti : Nat → Int32) (on : Nat → Int32) (he : Nat → Int32) (la : Nat → Int32) (a1 : Int32) (a2 : Int32) (hn : n ≤ 6) : MI l yX4_needed wsX4_needed ({ frames := 10, cells := 0, slots := 0, locals := 400 }) D cI cZ [.ref (q 0), .int a1, .int a2] (wR cI cZ q (nI n) se li wm ch ne np al wo kn sp py il fl wa bo so sd ro cp nr ti on he la) (fun u : Int32 × Int32 × Int32 × Int32 × Int32 × (Nat → Int32) × (Nat → Int32) × (Nat → Int32) => (wR cI cZ q (nI n) se li u.1 u.2.1 u.2.2.1 u.2.2.2.1 u.2.2.2.2.1 wo kn sp py il fl wa bo so sd u.2.2.2.2.2.1 u.2.2.2.2.2.2.1 u.2.2.2.2.2.2.2 ti on he la)) (fun r u => r = (if (inR a1 0 (nI n - 1) && inR a2 0 1) = true then bI (!decide ((ftF n kn sp py il fl wa bo se a2 (wm, ch, ne, np, al, ro, cp, nr)).1 ≤ 0) && hs ((ftF n kn sp py il fl wa bo se a2 (wm, ch, ne, np, al, ro, cp, nr)).2.2.2.2.1) a1) else (-2)) ∧ u = (if (inR a1 0 (nI n - 1) && inR a2 0 1) = true then ftF n kn sp py il fl wa bo se a2 (wm, ch, ne, np, al, ro, cp, nr) else (wm, ch, ne, np, al, ro, cp, nr))) := by
  refine MI_of (cc := cX4_needed) (maxL := 3) (ty := .int) (by decide) rfl (Nat.le_of_ble_eq_true rfl) (fun p e s m args below meth c A Q hx hb hml hown hts hK hN hA hret H locs ls hl hP hD hS => ?_)
  have hown : s.vm.findClass RX4 = some m.cls := hown
  have hl : lv_has ls 3 [(0, .ref (q 0)), (1, .int a1), (2, .int a2)] := hl
  have hin4 : ∀ w ∈ u_ws RX4 TX4 25, w ∈ wsX4_needed := fun w h => List.mem_cons_of_mem _ (List.mem_append_right _ h)
  have f87 : (Cond.fieldLink RX4 87 "GlassBoothsModel" "wholeMany" "I").before args s = true := hts _ (by decide +kernel)
  have f96 : (Cond.fieldLink RX4 96 "GlassBoothsModel" "always" "I").before args s = true := hts _ (by decide +kernel)
  have hw := h_X4_needed n se li wo kn sp py il fl wa bo so sd ti on he la wm ch ne np al ro cp nr a1 a2 hn   
  unfold v_X4_needed_0 at hw
  refine lv_aload_n hx hb dX4_needed_0 rfl (lv_at hl 0 rfl) ?_
  refine lv_iload_n hx hb dX4_needed_1 rfl (lv_at hl 1 rfl) ?_
  refine zc_i (fun u => (wR cI cZ q (nI n) se li wm ch ne np al wo kn sp py il fl wa bo so sd ro cp nr ti on he la)) [0, 1, 2, 3, 4, 5, 6, 7, 8, 9, 10, 11, 12, 13, 14, 15, 16] [] [0, 1, 2, 3, 4, 5, 6, 7, 8, 9, 10, 11, 12, 13, 14, 15, 16] (va_runV (As := [.int a1]) (rest := []) ⟨hx, hb, hml, hown, hts⟩ ((c_X4_isPerson l D cI cZ q n se li wm ch ne np al wo kn sp py il fl wa bo so sd ro cp nr ti on he la a1 hn ) H.size) (cwV 1 hts gX4_needed_X4_isPerson rfl rfl rfl (by decide +kernel) ⟨Nat.le_of_ble_eq_true rfl, Nat.le_of_ble_eq_true rfl⟩) (pv_of hK hN hP hD [0, 1, 2, 3, 4, 5, 6, 7, 8, 9, 10, 11, 12, 13, 14, 15, 16] rfl rfl 4 0 rfl rfl) rfl rfl hl.1 rfl (lv_room (Nat.le_of_ble_eq_true rfl)) dX4_needed_2 ⟨Nat.zero_le _, Nat.zero_le _⟩) hP hD hS hA rfl rfl rfl (by decide) (fun _ => rfl) rfl (fun r u H locs hu hP hD hS => ?_)
  subst hu
  have hP : va_P D vwCl (wR cI cZ q (nI n) se li wm ch ne np al wo kn sp py il fl wa bo so sd ro cp nr ti on he la) H := hP
  have hD : va_D A (wR cI cZ q (nI n) se li wm ch ne np al wo kn sp py il fl wa bo so sd ro cp nr ti on he la) := hD
  refine lv_if_eq (tgt := 15) hx hb dX4_needed_5 (by decide) (fun hc => ?_) (fun hc => ?_)
  · replace hw := hw.1 hc
    refine lv_bipush (v := (-2 : Int32)) hx hb dX4_needed_15 (by decide) ?_
    exact hret _ (wm, ch, ne, np, al, ro, cp, nr) _ _ _ _ hw rfl hP hD hS dX4_needed_17
  · replace hw := hw.2 hc
    refine lv_iload_n hx hb dX4_needed_8 rfl (lv_at hl 2 rfl) ?_
    refine zc_i0 (va_runS (As := [.int a2]) (rest := []) ⟨hx, hb, hml, hown, hts⟩ ((c_X4_isSession l D cI cZ a2  ) H.size) (va_cwS 1 hts gX4_needed_X4_isSession rfl rfl rfl (by decide +kernel) ⟨Nat.le_of_ble_eq_true rfl, Nat.le_of_ble_eq_true rfl⟩) (ps_of hK hN hP hD [] rfl rfl) rfl rfl hl.1 rfl (lv_room (Nat.le_of_ble_eq_true rfl)) dX4_needed_9 ⟨Nat.zero_le _, Nat.zero_le _⟩) hP hD hS hA (fun r u H locs hu hP hD hS => ?_)
    subst hu
    refine lv_if_ne (tgt := 18) hx hb dX4_needed_12 (by decide) (fun hc => ?_) (fun hc => ?_)
    · replace hw := hw.2 hc
      refine lv_aload_n hx hb dX4_needed_18 rfl (lv_at hl 0 rfl) ?_
      refine lv_iload_n hx hb dX4_needed_19 rfl (lv_at hl 2 rfl) ?_
      obtain ⟨hp0, hw⟩ := hw
      refine zc_v (fun u => (wR cI cZ q (nI n) se li u.1 u.2.1 u.2.2.1 u.2.2.2.1 u.2.2.2.2.1 wo kn sp py il fl wa bo so sd u.2.2.2.2.2.1 u.2.2.2.2.2.2.1 u.2.2.2.2.2.2.2 ti on he la)) [0, 1, 2, 3, 4, 5, 6, 7, 8, 9, 10, 11, 12, 13, 14, 15, 16] [] [0, 1, 2, 3, 4, 5, 6, 7, 8, 9, 10, 11, 12, 13, 14, 15, 16] (va_runV (As := [.int a2]) (rest := []) ⟨hx, hb, hml, hown, hts⟩ ((c_X4_findTeams l D cI cZ q n se li wm ch ne np al wo kn sp py il fl wa bo so sd ro cp nr ti on he la a2 hn hp0) H.size) (cwV 1 hts gX4_needed_X4_findTeams rfl rfl rfl (by decide +kernel) ⟨Nat.le_of_ble_eq_true rfl, Nat.le_of_ble_eq_true rfl⟩) (pv_of hK hN hP hD [0, 1, 2, 3, 4, 5, 6, 7, 8, 9, 10, 11, 12, 13, 14, 15, 16] rfl rfl 4 0 rfl rfl) rfl rfl hl.1 rfl (lv_room (Nat.le_of_ble_eq_true rfl)) dX4_needed_20 ⟨Nat.zero_le _, Nat.zero_le _⟩) hP hD hS hA rfl rfl rfl (by decide) (fun _ => rfl) rfl (fun u20 H locs hu hP hD hS => ?_)
      replace hw := hw u20 hu
      have hP : va_P D vwCl (wR cI cZ q (nI n) se li u20.1 u20.2.1 u20.2.2.1 u20.2.2.2.1 u20.2.2.2.2.1 wo kn sp py il fl wa bo so sd u20.2.2.2.2.2.1 u20.2.2.2.2.2.2.1 u20.2.2.2.2.2.2.2 ti on he la) H := hP
      have hD : va_D A (wR cI cZ q (nI n) se li u20.1 u20.2.1 u20.2.2.1 u20.2.2.2.1 u20.2.2.2.2.1 wo kn sp py il fl wa bo so sd u20.2.2.2.2.2.1 u20.2.2.2.2.2.2.1 u20.2.2.2.2.2.2.2 ti on he la) := hD
      refine lv_aload_n hx hb dX4_needed_23 rfl (lv_at hl 0 rfl) ?_
      refine va_get (D := D) (ci := 4) (v := .int u20.1) (C := RX4) (T := TX4) (N := 25) hx hb hts hin4 hown hK hP 0 rfl rfl 13 (by decide) f87 (fun _ h9 => h9) rfl dX4_needed_24 ?_
      refine lv_if_le (tgt := 45) hx hb dX4_needed_27 (by decide) (fun hc => ?_) (fun hc => ?_)
      · replace hw := hw.1 hc
        refine lv_iconst (v := (0 : Int32)) hx hb dX4_needed_45 (by decide) ?_
        exact hret _ (u20.1, u20.2.1, u20.2.2.1, u20.2.2.2.1, u20.2.2.2.2.1, u20.2.2.2.2.2.1, u20.2.2.2.2.2.2.1, u20.2.2.2.2.2.2.2) _ _ _ _ hw rfl hP hD hS dX4_needed_46
      · replace hw := hw.2 hc
        refine lv_aload_n hx hb dX4_needed_30 rfl (lv_at hl 0 rfl) ?_
        refine va_get (D := D) (ci := 4) (v := .int u20.2.2.2.2.1) (C := RX4) (T := TX4) (N := 25) hx hb hts hin4 hown hK hP 0 rfl rfl 19 (by decide) f96 (fun _ h9 => h9) rfl dX4_needed_31 ?_
        refine lv_iload_n hx hb dX4_needed_34 rfl (lv_at hl 1 rfl) ?_
        refine zc_i0 (va_runS (As := [.int u20.2.2.2.2.1, .int a1]) (rest := []) ⟨hx, hb, hml, hown, hts⟩ ((c_X4_has l D cI cZ u20.2.2.2.2.1 a1  ) H.size) (va_cwS 2 hts gX4_needed_X4_has rfl rfl rfl (by decide +kernel) ⟨Nat.le_of_ble_eq_true rfl, Nat.le_of_ble_eq_true rfl⟩) (ps_of hK hN hP hD [] rfl rfl) rfl rfl hl.1 rfl (lv_room (Nat.le_of_ble_eq_true rfl)) dX4_needed_35 ⟨Nat.zero_le _, Nat.zero_le _⟩) hP hD hS hA (fun r u H locs hu hP hD hS => ?_)
        subst hu
        refine lv_if_eq (tgt := 45) hx hb dX4_needed_38 (by decide) (fun hc => ?_) (fun hc => ?_)
        · replace hw := hw.1 hc
          refine lv_iconst (v := (0 : Int32)) hx hb dX4_needed_45 (by decide) ?_
          exact hret _ (u20.1, u20.2.1, u20.2.2.1, u20.2.2.2.1, u20.2.2.2.2.1, u20.2.2.2.2.2.1, u20.2.2.2.2.2.2.1, u20.2.2.2.2.2.2.2) _ _ _ _ hw rfl hP hD hS dX4_needed_46
        · replace hw := hw.2 hc
          refine lv_iconst (v := (1 : Int32)) hx hb dX4_needed_41 (by decide) ?_
          refine lv_goto (tgt := 46) hx hb dX4_needed_42 (by decide) ?_
          exact hret _ (u20.1, u20.2.1, u20.2.2.1, u20.2.2.2.1, u20.2.2.2.2.1, u20.2.2.2.2.2.1, u20.2.2.2.2.2.2.1, u20.2.2.2.2.2.2.2) _ _ _ _ hw rfl hP hD hS dX4_needed_46
    · replace hw := hw.1 hc
      refine lv_bipush (v := (-2 : Int32)) hx hb dX4_needed_15 (by decide) ?_
      exact hret _ (wm, ch, ne, np, al, ro, cp, nr) _ _ _ _ hw rfl hP hD hS dX4_needed_17
set_option maxHeartbeats 4000000 in
set_option maxRecDepth 100000 in
theorem c_X4_speak (l : Launch) (D : va_G) (cI cZ : ClassId) (q : Nat → Nat) (n : Nat) (se : Int32) (li : Int32) (wm : Int32) (ch : Int32) (ne : Int32) (np : Int32) (al : Int32) (wo : Int32) (kn : Nat → Int32) (sp : Nat → Int32) (py : Nat → Int32) (il : Nat → Int32) (fl : Nat → Int32) (wa : Nat → Int32) (bo : Nat → Int32) (so : Nat → Int32) (sd : Nat → Int32) (ro : Nat → Int32) (cp : Nat → Int32) (nr : Nat → Int32) (ti : Nat → Int32) (on : Nat → Int32) (he : Nat → Int32) (la : Nat → Int32) (a1 : Int32) (a2 : Int32) (a3 : Int32) (hn : n ≤ 6) : MI l yX4_speak wsX4_speak ({ frames := 6, cells := 0, slots := 0, locals := 240 }) D cI cZ [.ref (q 0), .int a1, .int a2, .int a3] (wR cI cZ q (nI n) se li wm ch ne np al wo kn sp py il fl wa bo so sd ro cp nr ti on he la) (fun u : (Nat → Int32) × (Nat → Int32) => (wR cI cZ q (nI n) se li wm ch ne np al wo kn sp py il fl wa bo u.1 u.2 ro cp nr ti on he la)) (fun r u => r = (if (inR a1 0 15 && inR a2 0 4) = true then (if inR a3 1 9 = true then 1 else (-3)) else (-2)) ∧ u = ((if (inR a1 0 15 && (inR a2 0 4 && inR a3 1 9)) = true then upd so a1.toNatClampNeg a2 else so), (if (inR a1 0 15 && (inR a2 0 4 && inR a3 1 9)) = true then upd sd a1.toNatClampNeg a3 else sd))) := by
  refine MI_of (cc := cX4_speak) (maxL := 4) (ty := .int) (by decide) rfl (Nat.le_of_ble_eq_true rfl) (fun p e s m args below meth c A Q hx hb hml hown hts hK hN hA hret H locs ls hl hP hD hS => ?_)
  have hown : s.vm.findClass RX4 = some m.cls := hown
  have hl : lv_has ls 4 [(0, .ref (q 0)), (1, .int a1), (2, .int a2), (3, .int a3)] := hl
  have hin4 : ∀ w ∈ u_ws RX4 TX4 25, w ∈ wsX4_speak := fun w h => List.mem_cons_of_mem _ (List.mem_append_right _ h)
  have f36 : (Cond.fieldLink RX4 36 "GlassBoothsModel" "spoken" "[I").before args s = true := hts _ (by decide +kernel)
  have f39 : (Cond.fieldLink RX4 39 "GlassBoothsModel" "speed" "[I").before args s = true := hts _ (by decide +kernel)
  have hw := h_X4_speak n se li wm ch ne np al wo kn sp py il fl wa bo ro cp nr ti on he la so sd a1 a2 a3 hn   
  unfold v_X4_speak_0 at hw
  refine lv_iload_n hx hb dX4_speak_0 rfl (lv_at hl 1 rfl) ?_
  refine zc_i0 (va_runS (As := [.int a1]) (rest := []) ⟨hx, hb, hml, hown, hts⟩ ((c_X4_isHalf l D cI cZ a1  ) H.size) (va_cwS 1 hts gX4_speak_X4_isHalf rfl rfl rfl (by decide +kernel) ⟨Nat.le_of_ble_eq_true rfl, Nat.le_of_ble_eq_true rfl⟩) (ps_of hK hN hP hD [] rfl rfl) rfl rfl hl.1 rfl (lv_room (Nat.le_of_ble_eq_true rfl)) dX4_speak_1 ⟨Nat.zero_le _, Nat.zero_le _⟩) hP hD hS hA (fun r u H locs hu hP hD hS => ?_)
  subst hu
  refine lv_if_eq (tgt := 14) hx hb dX4_speak_4 (by decide) (fun hc => ?_) (fun hc => ?_)
  · replace hw := hw.1 hc
    refine lv_bipush (v := (-2 : Int32)) hx hb dX4_speak_14 (by decide) ?_
    exact hret _ (so, sd) _ _ _ _ hw rfl hP hD hS dX4_speak_16
  · replace hw := hw.2 hc
    refine lv_iload_n hx hb dX4_speak_7 rfl (lv_at hl 2 rfl) ?_
    refine zc_i0 (va_runS (As := [.int a2]) (rest := []) ⟨hx, hb, hml, hown, hts⟩ ((c_X4_isTongue l D cI cZ a2  ) H.size) (va_cwS 1 hts gX4_speak_X4_isTongue rfl rfl rfl (by decide +kernel) ⟨Nat.le_of_ble_eq_true rfl, Nat.le_of_ble_eq_true rfl⟩) (ps_of hK hN hP hD [] rfl rfl) rfl rfl hl.1 rfl (lv_room (Nat.le_of_ble_eq_true rfl)) dX4_speak_8 ⟨Nat.zero_le _, Nat.zero_le _⟩) hP hD hS hA (fun r u H locs hu hP hD hS => ?_)
    subst hu
    refine lv_if_ne (tgt := 17) hx hb dX4_speak_11 (by decide) (fun hc => ?_) (fun hc => ?_)
    · replace hw := hw.2 hc
      refine lv_iload_n hx hb dX4_speak_17 rfl (lv_at hl 3 rfl) ?_
      refine lv_iconst (v := (1 : Int32)) hx hb dX4_speak_18 (by decide) ?_
      refine lv_bipush (v := (9 : Int32)) hx hb dX4_speak_19 (by decide) ?_
      refine zc_i0 (va_runS (As := [.int a3, .int (1 : Int32), .int (9 : Int32)]) (rest := []) ⟨hx, hb, hml, hown, hts⟩ ((c_X4_in l D cI cZ a3 (1 : Int32) (9 : Int32)  ) H.size) (va_cwS 3 hts gX4_speak_X4_in rfl rfl rfl (by decide +kernel) ⟨Nat.le_of_ble_eq_true rfl, Nat.le_of_ble_eq_true rfl⟩) (ps_of hK hN hP hD [] rfl rfl) rfl rfl hl.1 rfl (lv_room (Nat.le_of_ble_eq_true rfl)) dX4_speak_21 ⟨Nat.zero_le _, Nat.zero_le _⟩) hP hD hS hA (fun r u H locs hu hP hD hS => ?_)
      subst hu
      refine lv_if_ne (tgt := 30) hx hb dX4_speak_24 (by decide) (fun hc => ?_) (fun hc => ?_)
      · replace hw := hw.2 hc
        refine lv_aload_n hx hb dX4_speak_30 rfl (lv_at hl 0 rfl) ?_
        refine va_get (D := D) (ci := 4) (v := .ref (q 8)) (C := RX4) (T := TX4) (N := 25) hx hb hts hin4 hown hK hP 0 rfl rfl 9 (by decide) f36 (fun _ h9 => h9) rfl dX4_speak_31 ?_
        refine lv_iload_n hx hb dX4_speak_34 rfl (lv_at hl 1 rfl) ?_
        refine lv_iload_n hx hb dX4_speak_35 rfl (lv_at hl 2 rfl) ?_
        obtain ⟨hv, hw⟩ := hw
        refine va_iast hx hb hK hP hD hS 8 0 rfl rfl hv dX4_speak_36 (fun H locs hP hD hS => ?_)
        have hP : va_P D vwCl (wR cI cZ q (nI n) se li wm ch ne np al wo kn sp py il fl wa bo (upd so a1.toNatClampNeg a2) sd ro cp nr ti on he la) H := hP
        have hD : va_D A (wR cI cZ q (nI n) se li wm ch ne np al wo kn sp py il fl wa bo (upd so a1.toNatClampNeg a2) sd ro cp nr ti on he la) := hD
        refine lv_aload_n hx hb dX4_speak_37 rfl (lv_at hl 0 rfl) ?_
        refine va_get (D := D) (ci := 4) (v := .ref (q 9)) (C := RX4) (T := TX4) (N := 25) hx hb hts hin4 hown hK hP 0 rfl rfl 10 (by decide) f39 (fun _ h9 => h9) rfl dX4_speak_38 ?_
        refine lv_iload_n hx hb dX4_speak_41 rfl (lv_at hl 1 rfl) ?_
        refine lv_iload_n hx hb dX4_speak_42 rfl (lv_at hl 3 rfl) ?_
        obtain ⟨hv, hw⟩ := hw
        refine va_iast hx hb hK hP hD hS 9 0 rfl rfl hv dX4_speak_43 (fun H locs hP hD hS => ?_)
        have hP : va_P D vwCl (wR cI cZ q (nI n) se li wm ch ne np al wo kn sp py il fl wa bo (upd so a1.toNatClampNeg a2) (upd sd a1.toNatClampNeg a3) ro cp nr ti on he la) H := hP
        have hD : va_D A (wR cI cZ q (nI n) se li wm ch ne np al wo kn sp py il fl wa bo (upd so a1.toNatClampNeg a2) (upd sd a1.toNatClampNeg a3) ro cp nr ti on he la) := hD
        refine lv_iconst (v := (1 : Int32)) hx hb dX4_speak_44 (by decide) ?_
        exact hret _ (upd so a1.toNatClampNeg a2, upd sd a1.toNatClampNeg a3) _ _ _ _ hw rfl hP hD hS dX4_speak_45
      · replace hw := hw.1 hc
        refine lv_bipush (v := (-3 : Int32)) hx hb dX4_speak_27 (by decide) ?_
        exact hret _ (so, sd) _ _ _ _ hw rfl hP hD hS dX4_speak_29
    · replace hw := hw.1 hc
      refine lv_bipush (v := (-2 : Int32)) hx hb dX4_speak_14 (by decide) ?_
      exact hret _ (so, sd) _ _ _ _ hw rfl hP hD hS dX4_speak_16
set_option maxHeartbeats 4000000 in
set_option maxRecDepth 100000 in
theorem c_X4_silence (l : Launch) (D : va_G) (cI cZ : ClassId) (q : Nat → Nat) (n : Nat) (se : Int32) (li : Int32) (wm : Int32) (ch : Int32) (ne : Int32) (np : Int32) (al : Int32) (wo : Int32) (kn : Nat → Int32) (sp : Nat → Int32) (py : Nat → Int32) (il : Nat → Int32) (fl : Nat → Int32) (wa : Nat → Int32) (bo : Nat → Int32) (so : Nat → Int32) (sd : Nat → Int32) (ro : Nat → Int32) (cp : Nat → Int32) (nr : Nat → Int32) (ti : Nat → Int32) (on : Nat → Int32) (he : Nat → Int32) (la : Nat → Int32) (a1 : Int32) (hn : n ≤ 6) : MI l yX4_silence wsX4_silence ({ frames := 6, cells := 0, slots := 0, locals := 240 }) D cI cZ [.ref (q 0), .int a1] (wR cI cZ q (nI n) se li wm ch ne np al wo kn sp py il fl wa bo so sd ro cp nr ti on he la) (fun u : (Nat → Int32) => (wR cI cZ q (nI n) se li wm ch ne np al wo kn sp py il fl wa bo u sd ro cp nr ti on he la)) (fun r u => r = (if inR a1 0 15 = true then bI (!decide (so a1.toNatClampNeg = -1)) else (-2)) ∧ u = (if inR a1 0 15 = true then upd so a1.toNatClampNeg (-1) else so)) := by
  refine MI_of (cc := cX4_silence) (maxL := 3) (ty := .int) (by decide) rfl (Nat.le_of_ble_eq_true rfl) (fun p e s m args below meth c A Q hx hb hml hown hts hK hN hA hret H locs ls hl hP hD hS => ?_)
  have hown : s.vm.findClass RX4 = some m.cls := hown
  have hl : lv_has ls 3 [(0, .ref (q 0)), (1, .int a1)] := hl
  have hin4 : ∀ w ∈ u_ws RX4 TX4 25, w ∈ wsX4_silence := fun w h => List.mem_cons_of_mem _ (List.mem_append_right _ h)
  have f36 : (Cond.fieldLink RX4 36 "GlassBoothsModel" "spoken" "[I").before args s = true := hts _ (by decide +kernel)
  have J25 : ∀ x1 s0 so_, v_X4_silence_25 n se li wm ch ne np al wo kn sp py il fl wa bo sd ro cp nr ti on he la (fun r u => r = (if inR a1 0 15 = true then bI (!decide (so a1.toNatClampNeg = -1)) else (-2)) ∧ u = (if inR a1 0 15 = true then upd so a1.toNatClampNeg (-1) else so))  x1 s0 so_ → ∀ (H : Heap) (locs : List Loc) (ls : Array Slot), lv_has ls 3 [(0, .ref (q 0)), (1, .int x1)] → va_P D vwCl (wR cI cZ q (nI n) se li wm ch ne np al wo kn sp py il fl wa bo so_ sd ro cp nr ti on he la) H → va_D A (wR cI cZ q (nI n) se li wm ch ne np al wo kn sp py il fl wa bo so_ sd ro cp nr ti on he la) → va_S A s.heap H locs → W p l e (headSpec wsX4_silence ({ frames := 6, cells := 0, slots := 0, locals := 240 })).room s m args below meth c H locs 0 0 Q (F0 m 25 ls [.int s0]) := by
    intro x1 s0 so_ hw
    intro H locs ls hl hP hD hS
    unfold v_X4_silence_25 at hw
    refine lv_istore_n (lv' := [(2, .int s0), (0, .ref (q 0)), (1, .int x1)]) hx hb dX4_silence_25 rfl hl (by decide) rfl (fun ls hl => ?_)
    refine lv_aload_n hx hb dX4_silence_26 rfl (lv_at hl 1 rfl) ?_
    refine va_get (D := D) (ci := 4) (v := .ref (q 8)) (C := RX4) (T := TX4) (N := 25) hx hb hts hin4 hown hK hP 0 rfl rfl 9 (by decide) f36 (fun _ h9 => h9) rfl dX4_silence_27 ?_
    refine lv_iload_n hx hb dX4_silence_30 rfl (lv_at hl 2 rfl) ?_
    refine lv_iconst (v := (-1 : Int32)) hx hb dX4_silence_31 (by decide) ?_
    obtain ⟨hv, hw⟩ := hw
    refine va_iast hx hb hK hP hD hS 8 0 rfl rfl hv dX4_silence_32 (fun H locs hP hD hS => ?_)
    have hP : va_P D vwCl (wR cI cZ q (nI n) se li wm ch ne np al wo kn sp py il fl wa bo (upd so_ x1.toNatClampNeg (-1 : Int32)) sd ro cp nr ti on he la) H := hP
    have hD : va_D A (wR cI cZ q (nI n) se li wm ch ne np al wo kn sp py il fl wa bo (upd so_ x1.toNatClampNeg (-1 : Int32)) sd ro cp nr ti on he la) := hD
    refine lv_iload_n hx hb dX4_silence_33 rfl (lv_at hl 0 rfl) ?_
    exact hret _ (upd so_ x1.toNatClampNeg (-1 : Int32)) _ _ _ _ hw rfl hP hD hS dX4_silence_34
  have hw := h_X4_silence n se li wm ch ne np al wo kn sp py il fl wa bo sd ro cp nr ti on he la so a1 hn   
  unfold v_X4_silence_0 at hw
  refine lv_iload_n hx hb dX4_silence_0 rfl (lv_at hl 1 rfl) ?_
  refine zc_i0 (va_runS (As := [.int a1]) (rest := []) ⟨hx, hb, hml, hown, hts⟩ ((c_X4_isHalf l D cI cZ a1  ) H.size) (va_cwS 1 hts gX4_silence_X4_isHalf rfl rfl rfl (by decide +kernel) ⟨Nat.le_of_ble_eq_true rfl, Nat.le_of_ble_eq_true rfl⟩) (ps_of hK hN hP hD [] rfl rfl) rfl rfl hl.1 rfl (lv_room (Nat.le_of_ble_eq_true rfl)) dX4_silence_1 ⟨Nat.zero_le _, Nat.zero_le _⟩) hP hD hS hA (fun r u H locs hu hP hD hS => ?_)
  subst hu
  refine lv_if_ne (tgt := 10) hx hb dX4_silence_4 (by decide) (fun hc => ?_) (fun hc => ?_)
  · replace hw := hw.2 hc
    refine lv_aload_n hx hb dX4_silence_10 rfl (lv_at hl 0 rfl) ?_
    refine va_get (D := D) (ci := 4) (v := .ref (q 8)) (C := RX4) (T := TX4) (N := 25) hx hb hts hin4 hown hK hP 0 rfl rfl 9 (by decide) f36 (fun _ h9 => h9) rfl dX4_silence_11 ?_
    refine lv_iload_n hx hb dX4_silence_14 rfl (lv_at hl 1 rfl) ?_
    obtain ⟨hv, hw⟩ := hw
    refine va_iald hx hb hK hP 8 0 rfl rfl hv dX4_silence_15 ?_
    refine lv_iconst (v := (-1 : Int32)) hx hb dX4_silence_16 (by decide) ?_
    refine lv_icmp_ne (tgt := 24) hx hb dX4_silence_17 (by decide) (fun hc => ?_) (fun hc => ?_)
    · replace hw := hw.2 hc
      refine lv_iconst (v := (1 : Int32)) hx hb dX4_silence_24 (by decide) ?_
      exact J25 _ _ _ hw _ _ _ (lv_sub hl [0, 1] rfl) hP hD hS
    · replace hw := hw.1 hc
      refine lv_iconst (v := (0 : Int32)) hx hb dX4_silence_20 (by decide) ?_
      refine lv_goto (tgt := 25) hx hb dX4_silence_21 (by decide) ?_
      exact J25 _ _ _ hw _ _ _ (lv_sub hl [0, 1] rfl) hP hD hS
  · replace hw := hw.1 hc
    refine lv_bipush (v := (-2 : Int32)) hx hb dX4_silence_7 (by decide) ?_
    exact hret _ so _ _ _ _ hw rfl hP hD hS dX4_silence_9
set_option maxHeartbeats 4000000 in
set_option maxRecDepth 100000 in
theorem c_X4_limit (l : Launch) (D : va_G) (cI cZ : ClassId) (q : Nat → Nat) (n : Nat) (se : Int32) (li : Int32) (wm : Int32) (ch : Int32) (ne : Int32) (np : Int32) (al : Int32) (wo : Int32) (kn : Nat → Int32) (sp : Nat → Int32) (py : Nat → Int32) (il : Nat → Int32) (fl : Nat → Int32) (wa : Nat → Int32) (bo : Nat → Int32) (so : Nat → Int32) (sd : Nat → Int32) (ro : Nat → Int32) (cp : Nat → Int32) (nr : Nat → Int32) (ti : Nat → Int32) (on : Nat → Int32) (he : Nat → Int32) (la : Nat → Int32) (a1 : Int32) (hn : n ≤ 6) : MI l yX4_limit wsX4_limit ({ frames := 4, cells := 0, slots := 0, locals := 160 }) D cI cZ [.ref (q 0), .int a1] (wR cI cZ q (nI n) se li wm ch ne np al wo kn sp py il fl wa bo so sd ro cp nr ti on he la) (fun u : Int32 => (wR cI cZ q (nI n) se u wm ch ne np al wo kn sp py il fl wa bo so sd ro cp nr ti on he la)) (fun r u => r = (if inR a1 5 60 = true then li else (-3)) ∧ u = (if inR a1 5 60 = true then a1 else li)) := by
  refine MI_of (cc := cX4_limit) (maxL := 3) (ty := .int) (by decide) rfl (Nat.le_of_ble_eq_true rfl) (fun p e s m args below meth c A Q hx hb hml hown hts hK hN hA hret H locs ls hl hP hD hS => ?_)
  have hown : s.vm.findClass RX4 = some m.cls := hown
  have hl : lv_has ls 3 [(0, .ref (q 0)), (1, .int a1)] := hl
  have hin4 : ∀ w ∈ u_ws RX4 TX4 25, w ∈ wsX4_limit := fun w h => List.mem_cons_of_mem _ (List.mem_append_right _ h)
  have f42 : (Cond.fieldLink RX4 42 "GlassBoothsModel" "limit" "I").before args s = true := hts _ (by decide +kernel)
  have hw := h_X4_limit n se wm ch ne np al wo kn sp py il fl wa bo so sd ro cp nr ti on he la li a1 hn   
  unfold v_X4_limit_0 at hw
  refine lv_iload_n hx hb dX4_limit_0 rfl (lv_at hl 1 rfl) ?_
  refine lv_iconst (v := (5 : Int32)) hx hb dX4_limit_1 (by decide) ?_
  refine lv_bipush (v := (60 : Int32)) hx hb dX4_limit_2 (by decide) ?_
  refine zc_i0 (va_runS (As := [.int a1, .int (5 : Int32), .int (60 : Int32)]) (rest := []) ⟨hx, hb, hml, hown, hts⟩ ((c_X4_in l D cI cZ a1 (5 : Int32) (60 : Int32)  ) H.size) (va_cwS 3 hts gX4_limit_X4_in rfl rfl rfl (by decide +kernel) ⟨Nat.le_of_ble_eq_true rfl, Nat.le_of_ble_eq_true rfl⟩) (ps_of hK hN hP hD [] rfl rfl) rfl rfl hl.1 rfl (lv_room (Nat.le_of_ble_eq_true rfl)) dX4_limit_4 ⟨Nat.zero_le _, Nat.zero_le _⟩) hP hD hS hA (fun r u H locs hu hP hD hS => ?_)
  subst hu
  refine lv_if_ne (tgt := 13) hx hb dX4_limit_7 (by decide) (fun hc => ?_) (fun hc => ?_)
  · replace hw := hw.2 hc
    refine lv_aload_n hx hb dX4_limit_13 rfl (lv_at hl 0 rfl) ?_
    refine va_get (D := D) (ci := 4) (v := .int li) (C := RX4) (T := TX4) (N := 25) hx hb hts hin4 hown hK hP 0 rfl rfl 11 (by decide) f42 (fun _ h9 => h9) rfl dX4_limit_14 ?_
    refine lv_istore_n (lv' := [(2, .int li), (0, .ref (q 0)), (1, .int a1)]) hx hb dX4_limit_17 rfl hl (by decide) rfl (fun ls hl => ?_)
    refine lv_aload_n hx hb dX4_limit_18 rfl (lv_at hl 1 rfl) ?_
    refine lv_iload_n hx hb dX4_limit_19 rfl (lv_at hl 2 rfl) ?_
    refine va_put (D := D) (ci := 4) (v := .int a1) (ty := .int) (C := RX4) (T := TX4) (N := 25) hx hb hts hin4 tyX4 tyX4_ok nmX4 hown hK hP hD hS 0 rfl rfl 11 (by decide) f42 (fun _ h9 => h9) rfl (by decide +kernel) rfl rfl (Nat.le_of_ble_eq_true rfl) dX4_limit_20 (fun H locs hP hD hS => ?_)
    have hP : va_P D vwCl (wR cI cZ q (nI n) se a1 wm ch ne np al wo kn sp py il fl wa bo so sd ro cp nr ti on he la) H := hP
    have hD : va_D A (wR cI cZ q (nI n) se a1 wm ch ne np al wo kn sp py il fl wa bo so sd ro cp nr ti on he la) := hD
    refine lv_iload_n hx hb dX4_limit_23 rfl (lv_at hl 0 rfl) ?_
    exact hret _ a1 _ _ _ _ hw rfl hP hD hS dX4_limit_24
  · replace hw := hw.1 hc
    refine lv_bipush (v := (-3 : Int32)) hx hb dX4_limit_10 (by decide) ?_
    exact hret _ li _ _ _ _ hw rfl hP hD hS dX4_limit_12
set_option maxHeartbeats 4000000 in
set_option maxRecDepth 100000 in
theorem c_X4_knowsIt (l : Launch) (D : va_G) (cI cZ : ClassId) (q : Nat → Nat) (n : Nat) (se : Int32) (li : Int32) (wm : Int32) (ch : Int32) (ne : Int32) (np : Int32) (al : Int32) (wo : Int32) (kn : Nat → Int32) (sp : Nat → Int32) (py : Nat → Int32) (il : Nat → Int32) (fl : Nat → Int32) (wa : Nat → Int32) (bo : Nat → Int32) (so : Nat → Int32) (sd : Nat → Int32) (ro : Nat → Int32) (cp : Nat → Int32) (nr : Nat → Int32) (ti : Nat → Int32) (on : Nat → Int32) (he : Nat → Int32) (la : Nat → Int32) (a1 : Int32) (a2 : Int32) (hn : n ≤ 6) (h0 : a1 = -1 ∨ inB a1 6 = true) : MI l yX4_knowsIt wsX4_knowsIt ({ frames := 4, cells := 0, slots := 0, locals := 160 }) D cI cZ [.ref (q 0), .int a1, .int a2] (wR cI cZ q (nI n) se li wm ch ne np al wo kn sp py il fl wa bo so sd ro cp nr ti on he la) (fun _ : Unit => (wR cI cZ q (nI n) se li wm ch ne np al wo kn sp py il fl wa bo so sd ro cp nr ti on he la)) (fun r _ => r = bI (!decide (a1 = -1) && hs (kn a1.toNatClampNeg) a2)) := by
  refine MI_of (cc := cX4_knowsIt) (maxL := 3) (ty := .boolean) (by decide) rfl (Nat.le_of_ble_eq_true rfl) (fun p e s m args below meth c A Q hx hb hml hown hts hK hN hA hret H locs ls hl hP hD hS => ?_)
  have hown : s.vm.findClass RX4 = some m.cls := hown
  have hl : lv_has ls 3 [(0, .ref (q 0)), (1, .int a1), (2, .int a2)] := hl
  have hin4 : ∀ w ∈ u_ws RX4 TX4 25, w ∈ wsX4_knowsIt := fun w h => List.mem_cons_of_mem _ (List.mem_append_right _ h)
  have f7 : (Cond.fieldLink RX4 7 "GlassBoothsModel" "knows" "[I").before args s = true := hts _ (by decide +kernel)
  have hw := h_X4_knowsIt n se li wm ch ne np al wo kn sp py il fl wa bo so sd ro cp nr ti on he la  a1 a2 hn h0  
  unfold v_X4_knowsIt_0 at hw
  refine lv_iload_n hx hb dX4_knowsIt_0 rfl (lv_at hl 1 rfl) ?_
  refine lv_iconst (v := (-1 : Int32)) hx hb dX4_knowsIt_1 (by decide) ?_
  refine lv_icmp_eq (tgt := 22) hx hb dX4_knowsIt_2 (by decide) (fun hc => ?_) (fun hc => ?_)
  · replace hw := hw.1 hc
    refine lv_iconst (v := (0 : Int32)) hx hb dX4_knowsIt_22 (by decide) ?_
    exact hret _ () _ _ _ _ hw (by first | exact bI_nar _ | rfl | decide) hP hD hS dX4_knowsIt_23
  · replace hw := hw.2 hc
    refine lv_aload_n hx hb dX4_knowsIt_5 rfl (lv_at hl 0 rfl) ?_
    refine va_get (D := D) (ci := 4) (v := .ref (q 1)) (C := RX4) (T := TX4) (N := 25) hx hb hts hin4 hown hK hP 0 rfl rfl 1 (by decide) f7 (fun _ h9 => h9) rfl dX4_knowsIt_6 ?_
    refine lv_iload_n hx hb dX4_knowsIt_9 rfl (lv_at hl 1 rfl) ?_
    obtain ⟨hv, hw⟩ := hw
    refine va_iald hx hb hK hP 1 0 rfl rfl hv dX4_knowsIt_10 ?_
    refine lv_iload_n hx hb dX4_knowsIt_11 rfl (lv_at hl 2 rfl) ?_
    refine zc_i0 (va_runS (As := [.int (kn a1.toNatClampNeg), .int a2]) (rest := []) ⟨hx, hb, hml, hown, hts⟩ ((c_X4_has l D cI cZ (kn a1.toNatClampNeg) a2  ) H.size) (va_cwS 2 hts gX4_knowsIt_X4_has rfl rfl rfl (by decide +kernel) ⟨Nat.le_of_ble_eq_true rfl, Nat.le_of_ble_eq_true rfl⟩) (ps_of hK hN hP hD [] rfl rfl) rfl rfl hl.1 rfl (lv_room (Nat.le_of_ble_eq_true rfl)) dX4_knowsIt_12 ⟨Nat.zero_le _, Nat.zero_le _⟩) hP hD hS hA (fun r u H locs hu hP hD hS => ?_)
    subst hu
    refine lv_if_eq (tgt := 22) hx hb dX4_knowsIt_15 (by decide) (fun hc => ?_) (fun hc => ?_)
    · replace hw := hw.1 hc
      refine lv_iconst (v := (0 : Int32)) hx hb dX4_knowsIt_22 (by decide) ?_
      exact hret _ () _ _ _ _ hw (by first | exact bI_nar _ | rfl | decide) hP hD hS dX4_knowsIt_23
    · replace hw := hw.2 hc
      refine lv_iconst (v := (1 : Int32)) hx hb dX4_knowsIt_18 (by decide) ?_
      refine lv_goto (tgt := 23) hx hb dX4_knowsIt_19 (by decide) ?_
      exact hret _ () _ _ _ _ hw (by first | exact bI_nar _ | rfl | decide) hP hD hS dX4_knowsIt_23
