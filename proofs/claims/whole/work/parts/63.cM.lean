set_option maxHeartbeats 4000000 in
set_option maxRecDepth 100000 in
theorem c_J6_bitCount_0f7a4 (l : Launch) (D : va_G) (cI cZ : ClassId) (a0 : Int32) : MI l yJ6_bitCount_0f7a4 wsJ6_bitCount_0f7a4 ({ frames := 2, cells := 0, slots := 0, locals := 64 }) D cI cZ [.int a0] ([] : va_W) (fun _ : Unit => ([] : va_W)) (fun r _ => r = btC a0) := by
  refine MI_of (cc := cJ6_bitCount_0f7a4) (maxL := 1) (ty := .int) (by decide) rfl (Nat.le_of_ble_eq_true rfl) (fun p e s m args below meth c A Q hx hb hml hown hts hK hN hA hret H locs ls hl hP hD hS => ?_)
  have hown : s.vm.findClass RJ6 = some m.cls := hown
  have hl : lv_has ls 1 [(0, .int a0)] := hl
  have hw := h_J6_bitCount_0f7a4   a0    
  unfold v_J6_bitCount_0f7a4_0 at hw
  refine lv_iload_n hx hb dJ6_bitCount_0f7a4_0 rfl (lv_at hl 0 rfl) ?_
  refine lv_iload_n hx hb dJ6_bitCount_0f7a4_1 rfl (lv_at hl 0 rfl) ?_
  refine lv_iconst (v := (1 : Int32)) hx hb dJ6_bitCount_0f7a4_2 (by decide) ?_
  refine lv_iushr hx hb dJ6_bitCount_0f7a4_3 rfl ?_
  refine lv_ldcw (v := 1431655765) hx hb hown (hts (.constant RJ6 265 1431655765) (by decide +kernel)) dJ6_bitCount_0f7a4_4 ?_
  refine lv_iand hx hb dJ6_bitCount_0f7a4_7 ?_
  refine lv_isub hx hb dJ6_bitCount_0f7a4_8 ?_
  refine lv_istore_n (lv' := [(0, .int (a0 - (((a0.toUInt32 >>> (((1 : Int32) : Int32).toUInt32 &&& Int32.toUInt32 31)).toInt32) &&& (1431655765 : Int32))))]) hx hb dJ6_bitCount_0f7a4_9 rfl hl (by decide) rfl (fun ls hl => ?_)
  refine lv_iload_n hx hb dJ6_bitCount_0f7a4_10 rfl (lv_at hl 0 rfl) ?_
  refine lv_ldcw (v := 858993459) hx hb hown (hts (.constant RJ6 266 858993459) (by decide +kernel)) dJ6_bitCount_0f7a4_11 ?_
  refine lv_iand hx hb dJ6_bitCount_0f7a4_14 ?_
  refine lv_iload_n hx hb dJ6_bitCount_0f7a4_15 rfl (lv_at hl 0 rfl) ?_
  refine lv_iconst (v := (2 : Int32)) hx hb dJ6_bitCount_0f7a4_16 (by decide) ?_
  refine lv_iushr hx hb dJ6_bitCount_0f7a4_17 rfl ?_
  refine lv_ldcw (v := 858993459) hx hb hown (hts (.constant RJ6 266 858993459) (by decide +kernel)) dJ6_bitCount_0f7a4_18 ?_
  refine lv_iand hx hb dJ6_bitCount_0f7a4_21 ?_
  refine lv_iadd hx hb dJ6_bitCount_0f7a4_22 ?_
  refine lv_istore_n (lv' := [(0, .int (((a0 - (((a0.toUInt32 >>> (((1 : Int32) : Int32).toUInt32 &&& Int32.toUInt32 31)).toInt32) &&& (1431655765 : Int32))) &&& (858993459 : Int32)) + ((((a0 - (((a0.toUInt32 >>> (((1 : Int32) : Int32).toUInt32 &&& Int32.toUInt32 31)).toInt32) &&& (1431655765 : Int32))).toUInt32 >>> (((2 : Int32) : Int32).toUInt32 &&& Int32.toUInt32 31)).toInt32) &&& (858993459 : Int32))))]) hx hb dJ6_bitCount_0f7a4_23 rfl hl (by decide) rfl (fun ls hl => ?_)
  refine lv_iload_n hx hb dJ6_bitCount_0f7a4_24 rfl (lv_at hl 0 rfl) ?_
  refine lv_iload_n hx hb dJ6_bitCount_0f7a4_25 rfl (lv_at hl 0 rfl) ?_
  refine lv_iconst (v := (4 : Int32)) hx hb dJ6_bitCount_0f7a4_26 (by decide) ?_
  refine lv_iushr hx hb dJ6_bitCount_0f7a4_27 rfl ?_
  refine lv_iadd hx hb dJ6_bitCount_0f7a4_28 ?_
  refine lv_ldcw (v := 252645135) hx hb hown (hts (.constant RJ6 267 252645135) (by decide +kernel)) dJ6_bitCount_0f7a4_29 ?_
  refine lv_iand hx hb dJ6_bitCount_0f7a4_32 ?_
  refine lv_istore_n (lv' := [(0, .int (((((a0 - (((a0.toUInt32 >>> (((1 : Int32) : Int32).toUInt32 &&& Int32.toUInt32 31)).toInt32) &&& (1431655765 : Int32))) &&& (858993459 : Int32)) + ((((a0 - (((a0.toUInt32 >>> (((1 : Int32) : Int32).toUInt32 &&& Int32.toUInt32 31)).toInt32) &&& (1431655765 : Int32))).toUInt32 >>> (((2 : Int32) : Int32).toUInt32 &&& Int32.toUInt32 31)).toInt32) &&& (858993459 : Int32))) + (((((a0 - (((a0.toUInt32 >>> (((1 : Int32) : Int32).toUInt32 &&& Int32.toUInt32 31)).toInt32) &&& (1431655765 : Int32))) &&& (858993459 : Int32)) + ((((a0 - (((a0.toUInt32 >>> (((1 : Int32) : Int32).toUInt32 &&& Int32.toUInt32 31)).toInt32) &&& (1431655765 : Int32))).toUInt32 >>> (((2 : Int32) : Int32).toUInt32 &&& Int32.toUInt32 31)).toInt32) &&& (858993459 : Int32))).toUInt32 >>> (((4 : Int32) : Int32).toUInt32 &&& Int32.toUInt32 31)).toInt32)) &&& (252645135 : Int32)))]) hx hb dJ6_bitCount_0f7a4_33 rfl hl (by decide) rfl (fun ls hl => ?_)
  refine lv_iload_n hx hb dJ6_bitCount_0f7a4_34 rfl (lv_at hl 0 rfl) ?_
  refine lv_iload_n hx hb dJ6_bitCount_0f7a4_35 rfl (lv_at hl 0 rfl) ?_
  refine lv_bipush (v := (8 : Int32)) hx hb dJ6_bitCount_0f7a4_36 (by decide) ?_
  refine lv_iushr hx hb dJ6_bitCount_0f7a4_38 rfl ?_
  refine lv_iadd hx hb dJ6_bitCount_0f7a4_39 ?_
  refine lv_istore_n (lv' := [(0, .int ((((((a0 - (((a0.toUInt32 >>> (((1 : Int32) : Int32).toUInt32 &&& Int32.toUInt32 31)).toInt32) &&& (1431655765 : Int32))) &&& (858993459 : Int32)) + ((((a0 - (((a0.toUInt32 >>> (((1 : Int32) : Int32).toUInt32 &&& Int32.toUInt32 31)).toInt32) &&& (1431655765 : Int32))).toUInt32 >>> (((2 : Int32) : Int32).toUInt32 &&& Int32.toUInt32 31)).toInt32) &&& (858993459 : Int32))) + (((((a0 - (((a0.toUInt32 >>> (((1 : Int32) : Int32).toUInt32 &&& Int32.toUInt32 31)).toInt32) &&& (1431655765 : Int32))) &&& (858993459 : Int32)) + ((((a0 - (((a0.toUInt32 >>> (((1 : Int32) : Int32).toUInt32 &&& Int32.toUInt32 31)).toInt32) &&& (1431655765 : Int32))).toUInt32 >>> (((2 : Int32) : Int32).toUInt32 &&& Int32.toUInt32 31)).toInt32) &&& (858993459 : Int32))).toUInt32 >>> (((4 : Int32) : Int32).toUInt32 &&& Int32.toUInt32 31)).toInt32)) &&& (252645135 : Int32)) + (((((((a0 - (((a0.toUInt32 >>> (((1 : Int32) : Int32).toUInt32 &&& Int32.toUInt32 31)).toInt32) &&& (1431655765 : Int32))) &&& (858993459 : Int32)) + ((((a0 - (((a0.toUInt32 >>> (((1 : Int32) : Int32).toUInt32 &&& Int32.toUInt32 31)).toInt32) &&& (1431655765 : Int32))).toUInt32 >>> (((2 : Int32) : Int32).toUInt32 &&& Int32.toUInt32 31)).toInt32) &&& (858993459 : Int32))) + (((((a0 - (((a0.toUInt32 >>> (((1 : Int32) : Int32).toUInt32 &&& Int32.toUInt32 31)).toInt32) &&& (1431655765 : Int32))) &&& (858993459 : Int32)) + ((((a0 - (((a0.toUInt32 >>> (((1 : Int32) : Int32).toUInt32 &&& Int32.toUInt32 31)).toInt32) &&& (1431655765 : Int32))).toUInt32 >>> (((2 : Int32) : Int32).toUInt32 &&& Int32.toUInt32 31)).toInt32) &&& (858993459 : Int32))).toUInt32 >>> (((4 : Int32) : Int32).toUInt32 &&& Int32.toUInt32 31)).toInt32)) &&& (252645135 : Int32)).toUInt32 >>> (((8 : Int32) : Int32).toUInt32 &&& Int32.toUInt32 31)).toInt32)))]) hx hb dJ6_bitCount_0f7a4_40 rfl hl (by decide) rfl (fun ls hl => ?_)
  refine lv_iload_n hx hb dJ6_bitCount_0f7a4_41 rfl (lv_at hl 0 rfl) ?_
  refine lv_iload_n hx hb dJ6_bitCount_0f7a4_42 rfl (lv_at hl 0 rfl) ?_
  refine lv_bipush (v := (16 : Int32)) hx hb dJ6_bitCount_0f7a4_43 (by decide) ?_
  refine lv_iushr hx hb dJ6_bitCount_0f7a4_45 rfl ?_
  refine lv_iadd hx hb dJ6_bitCount_0f7a4_46 ?_
  refine lv_istore_n (lv' := [(0, .int (((((((a0 - (((a0.toUInt32 >>> (((1 : Int32) : Int32).toUInt32 &&& Int32.toUInt32 31)).toInt32) &&& (1431655765 : Int32))) &&& (858993459 : Int32)) + ((((a0 - (((a0.toUInt32 >>> (((1 : Int32) : Int32).toUInt32 &&& Int32.toUInt32 31)).toInt32) &&& (1431655765 : Int32))).toUInt32 >>> (((2 : Int32) : Int32).toUInt32 &&& Int32.toUInt32 31)).toInt32) &&& (858993459 : Int32))) + (((((a0 - (((a0.toUInt32 >>> (((1 : Int32) : Int32).toUInt32 &&& Int32.toUInt32 31)).toInt32) &&& (1431655765 : Int32))) &&& (858993459 : Int32)) + ((((a0 - (((a0.toUInt32 >>> (((1 : Int32) : Int32).toUInt32 &&& Int32.toUInt32 31)).toInt32) &&& (1431655765 : Int32))).toUInt32 >>> (((2 : Int32) : Int32).toUInt32 &&& Int32.toUInt32 31)).toInt32) &&& (858993459 : Int32))).toUInt32 >>> (((4 : Int32) : Int32).toUInt32 &&& Int32.toUInt32 31)).toInt32)) &&& (252645135 : Int32)) + (((((((a0 - (((a0.toUInt32 >>> (((1 : Int32) : Int32).toUInt32 &&& Int32.toUInt32 31)).toInt32) &&& (1431655765 : Int32))) &&& (858993459 : Int32)) + ((((a0 - (((a0.toUInt32 >>> (((1 : Int32) : Int32).toUInt32 &&& Int32.toUInt32 31)).toInt32) &&& (1431655765 : Int32))).toUInt32 >>> (((2 : Int32) : Int32).toUInt32 &&& Int32.toUInt32 31)).toInt32) &&& (858993459 : Int32))) + (((((a0 - (((a0.toUInt32 >>> (((1 : Int32) : Int32).toUInt32 &&& Int32.toUInt32 31)).toInt32) &&& (1431655765 : Int32))) &&& (858993459 : Int32)) + ((((a0 - (((a0.toUInt32 >>> (((1 : Int32) : Int32).toUInt32 &&& Int32.toUInt32 31)).toInt32) &&& (1431655765 : Int32))).toUInt32 >>> (((2 : Int32) : Int32).toUInt32 &&& Int32.toUInt32 31)).toInt32) &&& (858993459 : Int32))).toUInt32 >>> (((4 : Int32) : Int32).toUInt32 &&& Int32.toUInt32 31)).toInt32)) &&& (252645135 : Int32)).toUInt32 >>> (((8 : Int32) : Int32).toUInt32 &&& Int32.toUInt32 31)).toInt32)) + ((((((((a0 - (((a0.toUInt32 >>> (((1 : Int32) : Int32).toUInt32 &&& Int32.toUInt32 31)).toInt32) &&& (1431655765 : Int32))) &&& (858993459 : Int32)) + ((((a0 - (((a0.toUInt32 >>> (((1 : Int32) : Int32).toUInt32 &&& Int32.toUInt32 31)).toInt32) &&& (1431655765 : Int32))).toUInt32 >>> (((2 : Int32) : Int32).toUInt32 &&& Int32.toUInt32 31)).toInt32) &&& (858993459 : Int32))) + (((((a0 - (((a0.toUInt32 >>> (((1 : Int32) : Int32).toUInt32 &&& Int32.toUInt32 31)).toInt32) &&& (1431655765 : Int32))) &&& (858993459 : Int32)) + ((((a0 - (((a0.toUInt32 >>> (((1 : Int32) : Int32).toUInt32 &&& Int32.toUInt32 31)).toInt32) &&& (1431655765 : Int32))).toUInt32 >>> (((2 : Int32) : Int32).toUInt32 &&& Int32.toUInt32 31)).toInt32) &&& (858993459 : Int32))).toUInt32 >>> (((4 : Int32) : Int32).toUInt32 &&& Int32.toUInt32 31)).toInt32)) &&& (252645135 : Int32)) + (((((((a0 - (((a0.toUInt32 >>> (((1 : Int32) : Int32).toUInt32 &&& Int32.toUInt32 31)).toInt32) &&& (1431655765 : Int32))) &&& (858993459 : Int32)) + ((((a0 - (((a0.toUInt32 >>> (((1 : Int32) : Int32).toUInt32 &&& Int32.toUInt32 31)).toInt32) &&& (1431655765 : Int32))).toUInt32 >>> (((2 : Int32) : Int32).toUInt32 &&& Int32.toUInt32 31)).toInt32) &&& (858993459 : Int32))) + (((((a0 - (((a0.toUInt32 >>> (((1 : Int32) : Int32).toUInt32 &&& Int32.toUInt32 31)).toInt32) &&& (1431655765 : Int32))) &&& (858993459 : Int32)) + ((((a0 - (((a0.toUInt32 >>> (((1 : Int32) : Int32).toUInt32 &&& Int32.toUInt32 31)).toInt32) &&& (1431655765 : Int32))).toUInt32 >>> (((2 : Int32) : Int32).toUInt32 &&& Int32.toUInt32 31)).toInt32) &&& (858993459 : Int32))).toUInt32 >>> (((4 : Int32) : Int32).toUInt32 &&& Int32.toUInt32 31)).toInt32)) &&& (252645135 : Int32)).toUInt32 >>> (((8 : Int32) : Int32).toUInt32 &&& Int32.toUInt32 31)).toInt32)).toUInt32 >>> (((16 : Int32) : Int32).toUInt32 &&& Int32.toUInt32 31)).toInt32)))]) hx hb dJ6_bitCount_0f7a4_47 rfl hl (by decide) rfl (fun ls hl => ?_)
  refine lv_iload_n hx hb dJ6_bitCount_0f7a4_48 rfl (lv_at hl 0 rfl) ?_
  refine lv_bipush (v := (63 : Int32)) hx hb dJ6_bitCount_0f7a4_49 (by decide) ?_
  refine lv_iand hx hb dJ6_bitCount_0f7a4_51 ?_
  exact hret _ () _ _ _ _ hw rfl hP hD hS dJ6_bitCount_0f7a4_52
set_option maxHeartbeats 4000000 in
set_option maxRecDepth 100000 in
theorem c_X3_searchTeams (l : Launch) (D : va_G) (cI cZ : ClassId) (q : Nat → Nat) (se : Int32) (wo : Int32) (fO : Nat → Int32) (wI : Nat → Int32) (os : Int32) (fl : Int32) (wa : Int32) (fo : Int32) (sb : Int32) (lp : Int32) (fm : Int32) (pn : Int32) (tr : Nat → Int32) (fs : Nat → Int32) (sk : Nat → Int32) (ct : Nat → Int32) (nt : Nat → Int32) (so : Nat → Int32) (sd : Nat → Int32) (ti : Nat → Int32) (on : Nat → Int32) (he : Nat → Int32) (n : Nat) (il : Int32) (kn : Nat → Int32) (sp : Nat → Int32) (py : Nat → Int32) (bo : Nat → Int32) (a1 : Int32) (hn : n ≤ 6) : MV l yX3_searchTeams wsX3_searchTeams ({ frames := 100, cells := 0, slots := 0, locals := 2400 }) D cI cZ [.ref (q 17), .int a1] (wM cI q se wo fO wI ++ wS cI q os fl wa fo sb lp fm pn tr fs sk ct nt ++ wD cI q so sd ti on he ++ wP cI q (nI n) il kn sp py bo) (fun u : Int32 × Int32 × Int32 × Int32 × Int32 × Int32 × Int32 × Int32 × (Nat → Int32) × (Nat → Int32) × (Nat → Int32) × (Nat → Int32) × (Nat → Int32) => (wM cI q se wo fO wI ++ wS cI q u.1 u.2.1 u.2.2.1 u.2.2.2.1 u.2.2.2.2.1 u.2.2.2.2.2.1 u.2.2.2.2.2.2.1 u.2.2.2.2.2.2.2.1 u.2.2.2.2.2.2.2.2.1 u.2.2.2.2.2.2.2.2.2.1 u.2.2.2.2.2.2.2.2.2.2.1 u.2.2.2.2.2.2.2.2.2.2.2.1 u.2.2.2.2.2.2.2.2.2.2.2.2 ++ wD cI q so sd ti on he ++ wP cI q (nI n) il kn sp py bo)) (fun u => u = stF n il kn sp py bo fO wI se a1 (os, fl, wa, fo, sb, lp, fm, pn, tr, fs, sk, ct, nt)) := by
  refine MV_of (cc := cX3_searchTeams) (maxL := 2) (by decide) rfl (Nat.le_of_ble_eq_true rfl) (fun p e s m args below meth c A Q hx hb hml hown hts hK hN hA hret H locs ls hl hP hD hS => ?_)
  have hown : s.vm.findClass RX3 = some m.cls := hown
  have hl : lv_has ls 2 [(0, .ref (q 17)), (1, .int a1)] := hl
  have hin3 : ∀ w ∈ u_ws RX3 TX3 7, w ∈ wsX3_searchTeams := fun w h => List.mem_cons_of_mem _ (List.mem_append_left _ (List.mem_append_left _ (List.mem_append_right _ h)))
  have f21 : (Cond.fieldLink RX3 21 "GlassBooths" "search" "LGlassBooths$Search;").before args s = true := hts _ (by decide +kernel)
  have f32 : (Cond.fieldLink RX3 32 "GlassBooths" "floorsOf" "[I").before args s = true := hts _ (by decide +kernel)
  have f36 : (Cond.fieldLink RX3 36 "GlassBooths" "wantedIn" "[I").before args s = true := hts _ (by decide +kernel)
  have f39 : (Cond.fieldLink RX3 39 "GlassBooths" "seatsEach" "I").before args s = true := hts _ (by decide +kernel)
  have hw := h_X3_searchTeams n se wo fO wI so sd ti on he il kn sp py bo os fl wa fo sb lp fm pn tr fs sk ct nt a1 hn   
  unfold v_X3_searchTeams_0 at hw
  refine lv_iload_n hx hb dX3_searchTeams_0 rfl (lv_at hl 1 rfl) ?_
  refine zc_i0 (va_runS (As := [.int a1]) (rest := []) ⟨hx, hb, hml, hown, hts⟩ ((c_X3_isSession l D cI cZ a1  ) H.size) (va_cwS 1 hts gX3_searchTeams_X3_isSession rfl rfl rfl (by decide +kernel) ⟨by show 2 + 1 ≤ 100; omega, by show 8 + (1 + 11) + (64) ≤ 2400; omega⟩) (ps_of hK hN hP hD [] rfl rfl) rfl rfl hl.1 rfl (lv_room (Nat.le_of_ble_eq_true rfl)) dX3_searchTeams_1 ⟨Nat.zero_le _, Nat.zero_le _⟩) hP hD hS hA (fun r u H locs hu hP hD hS => ?_)
  subst hu
  refine lv_if_eq (tgt := 38) hx hb dX3_searchTeams_4 (by decide) (fun hc => ?_) (fun hc => ?_)
  · replace hw := hw.1 hc
    exact hret (os, fl, wa, fo, sb, lp, fm, pn, tr, fs, sk, ct, nt) _ _ _ _ hw hP hD hS dX3_searchTeams_38
  · replace hw := hw.2 hc
    refine lv_aload_n hx hb dX3_searchTeams_7 rfl (lv_at hl 0 rfl) ?_
    refine va_get (D := D) (ci := 3) (v := .ref (q 5)) (C := RX3) (T := TX3) (N := 7) hx hb hts hin3 hown hK hP 0 rfl rfl 1 (by decide) f21 (fun _ h9 => h9) rfl dX3_searchTeams_8 ?_
    refine lv_aload_n hx hb dX3_searchTeams_11 rfl (lv_at hl 0 rfl) ?_
    refine va_get (D := D) (ci := 3) (v := .ref (q 18)) (C := RX3) (T := TX3) (N := 7) hx hb hts hin3 hown hK hP 0 rfl rfl 3 (by decide) f32 (fun _ h9 => h9) rfl dX3_searchTeams_12 ?_
    refine lv_iload_n hx hb dX3_searchTeams_15 rfl (lv_at hl 1 rfl) ?_
    obtain ⟨hv, hw⟩ := hw
    refine va_iald hx hb hK hP 1 0 rfl rfl hv dX3_searchTeams_16 ?_
    refine lv_aload_n hx hb dX3_searchTeams_17 rfl (lv_at hl 0 rfl) ?_
    refine va_get (D := D) (ci := 3) (v := .ref (q 19)) (C := RX3) (T := TX3) (N := 7) hx hb hts hin3 hown hK hP 0 rfl rfl 4 (by decide) f36 (fun _ h9 => h9) rfl dX3_searchTeams_18 ?_
    refine lv_iload_n hx hb dX3_searchTeams_21 rfl (lv_at hl 1 rfl) ?_
    obtain ⟨hv, hw⟩ := hw
    refine va_iald hx hb hK hP 2 0 rfl rfl hv dX3_searchTeams_22 ?_
    refine lv_aload_n hx hb dX3_searchTeams_23 rfl (lv_at hl 0 rfl) ?_
    refine va_get (D := D) (ci := 3) (v := .int se) (C := RX3) (T := TX3) (N := 7) hx hb hts hin3 hown hK hP 0 rfl rfl 5 (by decide) f39 (fun _ h9 => h9) rfl dX3_searchTeams_24 ?_
    refine zc_v (fun u => (wM cI q se wo fO wI ++ wS cI q u.1 u.2.1 u.2.2.1 u.2.2.2.1 u.2.2.2.2.1 u.2.2.2.2.2.1 u.2.2.2.2.2.2.1 u.2.2.2.2.2.2.2.1 tr u.2.2.2.2.2.2.2.2 sk ct nt ++ wD cI q so sd ti on he ++ wP cI q (nI n) il kn sp py bo)) [3, 4, 5, 6, 7, 8, 15, 16, 17, 18, 19] [0, 1, 2, 9, 10, 11, 12, 13, 14] [0, 1, 2, 9, 10, 11, 12, 13, 14, 3, 4, 5, 6, 7, 8, 15, 16, 17, 18, 19] (va_runV (As := [.int (fO a1.toNatClampNeg), .int (wI a1.toNatClampNeg), .int se]) (rest := []) ⟨hx, hb, hml, hown, hts⟩ ((c_X2_prepare l D cI cZ q os fl wa fo sb lp fm pn tr fs sk ct nt n il kn sp py bo (fO a1.toNatClampNeg) (wI a1.toNatClampNeg) se hn ) H.size) (cwV 3 hts gX3_searchTeams_X2_prepare rfl rfl rfl (by decide +kernel) ⟨by show 4 + 1 ≤ 100; omega, by show 8 + (5 + 11) + (160) ≤ 2400; omega⟩) (pv_of hK hN hP hD [3, 4, 5, 6, 7, 8, 15, 16, 17, 18, 19] rfl rfl 2 0 rfl rfl) rfl rfl hl.1 rfl (lv_room (Nat.le_of_ble_eq_true rfl)) dX3_searchTeams_27 ⟨Nat.zero_le _, Nat.zero_le _⟩) hP hD hS hA rfl rfl rfl (by decide) (fun _ => rfl) rfl (fun u H locs hu hP hD hS => ?_)
    subst hu
    have hP : va_P D vwCl (wM cI q se wo fO wI ++ wS cI q (prO (wI a1.toNatClampNeg) se 5) (fO a1.toNatClampNeg) (wI a1.toNatClampNeg) 0 0 (-1) (-1) (-1) tr (prF fs (wI a1.toNatClampNeg) se 5) sk ct nt ++ wD cI q so sd ti on he ++ wP cI q (nI n) il kn sp py bo) H := hP
    have hD : va_D A (wM cI q se wo fO wI ++ wS cI q (prO (wI a1.toNatClampNeg) se 5) (fO a1.toNatClampNeg) (wI a1.toNatClampNeg) 0 0 (-1) (-1) (-1) tr (prF fs (wI a1.toNatClampNeg) se 5) sk ct nt ++ wD cI q so sd ti on he ++ wP cI q (nI n) il kn sp py bo) := hD
    refine lv_aload_n hx hb dX3_searchTeams_30 rfl (lv_at hl 0 rfl) ?_
    refine va_get (D := D) (ci := 3) (v := .ref (q 5)) (C := RX3) (T := TX3) (N := 7) hx hb hts hin3 hown hK hP 0 rfl rfl 1 (by decide) f21 (fun _ h9 => h9) rfl dX3_searchTeams_31 ?_
    refine lv_iconst (v := (0 : Int32)) hx hb dX3_searchTeams_34 (by decide) ?_
    obtain ⟨hp0, hw⟩ := hw
    refine zc_v (fun u => (wM cI q se wo fO wI ++ wS cI q u.1 (fO a1.toNatClampNeg) (wI a1.toNatClampNeg) u.2.1 u.2.2.1 u.2.2.2.1 u.2.2.2.2.1 u.2.2.2.2.2.1 u.2.2.2.2.2.2.1 u.2.2.2.2.2.2.2.1 u.2.2.2.2.2.2.2.2.1 u.2.2.2.2.2.2.2.2.2.1 u.2.2.2.2.2.2.2.2.2.2 ++ wD cI q so sd ti on he ++ wP cI q (nI n) il kn sp py bo)) [3, 4, 5, 6, 7, 8, 15, 16, 17, 18, 19] [0, 1, 2, 9, 10, 11, 12, 13, 14] [0, 1, 2, 9, 10, 11, 12, 13, 14, 3, 4, 5, 6, 7, 8, 15, 16, 17, 18, 19] (va_runVN (As := [.int (0 : Int32)]) (rest := []) ⟨hx, hb, hml, hown, hts⟩ ((cc_X2_placeFrom l D cI cZ q n il kn sp py bo (fO a1.toNatClampNeg) (wI a1.toNatClampNeg) hn n 0 (Nat.zero_add n) (prO (wI a1.toNatClampNeg) se 5) 0 0 (-1) (-1) (-1) tr (prF fs (wI a1.toNatClampNeg) se 5) sk ct nt (0 : Int32) hp0) H.size) ⟨va_cnB 1 hts gX3_searchTeams_X2_placeFrom_n165 rfl rfl rfl (hN _ (List.mem_of_getElem? (i := 17) rfl)) (hts _ (by decide +kernel)) (by decide +kernel) ⟨by show 8 * n + 20 + 1 ≤ 100; omega, by show 8 + (3 + 11) + (200 * n + 600) ≤ 2400; omega⟩, hts _ (by decide +kernel), hts _ (by decide +kernel)⟩ (pv_of hK hN hP hD [3, 4, 5, 6, 7, 8, 15, 16, 17, 18, 19] rfl rfl 2 0 rfl rfl) rfl rfl hl.1 rfl (lv_room (Nat.le_of_ble_eq_true rfl)) dX3_searchTeams_35 ⟨Nat.zero_le _, Nat.zero_le _⟩) hP hD hS hA rfl rfl rfl (by decide) (fun _ => rfl) rfl (fun u35 H locs hu hP hD hS => ?_)
    replace hw := hw u35 hu
    have hP : va_P D vwCl (wM cI q se wo fO wI ++ wS cI q u35.1 (fO a1.toNatClampNeg) (wI a1.toNatClampNeg) u35.2.1 u35.2.2.1 u35.2.2.2.1 u35.2.2.2.2.1 u35.2.2.2.2.2.1 u35.2.2.2.2.2.2.1 u35.2.2.2.2.2.2.2.1 u35.2.2.2.2.2.2.2.2.1 u35.2.2.2.2.2.2.2.2.2.1 u35.2.2.2.2.2.2.2.2.2.2 ++ wD cI q so sd ti on he ++ wP cI q (nI n) il kn sp py bo) H := hP
    have hD : va_D A (wM cI q se wo fO wI ++ wS cI q u35.1 (fO a1.toNatClampNeg) (wI a1.toNatClampNeg) u35.2.1 u35.2.2.1 u35.2.2.2.1 u35.2.2.2.2.1 u35.2.2.2.2.2.1 u35.2.2.2.2.2.2.1 u35.2.2.2.2.2.2.2.1 u35.2.2.2.2.2.2.2.2.1 u35.2.2.2.2.2.2.2.2.2.1 u35.2.2.2.2.2.2.2.2.2.2 ++ wD cI q so sd ti on he ++ wP cI q (nI n) il kn sp py bo) := hD
    exact hret (u35.1, (fO a1.toNatClampNeg), (wI a1.toNatClampNeg), u35.2.1, u35.2.2.1, u35.2.2.2.1, u35.2.2.2.2.1, u35.2.2.2.2.2.1, u35.2.2.2.2.2.2.1, u35.2.2.2.2.2.2.2.1, u35.2.2.2.2.2.2.2.2.1, u35.2.2.2.2.2.2.2.2.2.1, u35.2.2.2.2.2.2.2.2.2.2) _ _ _ _ hw hP hD hS dX3_searchTeams_38
set_option maxHeartbeats 4000000 in
set_option maxRecDepth 100000 in
theorem c_X3_person (l : Launch) (D : va_G) (cI cZ : ClassId) (q : Nat → Nat) (se : Int32) (wo : Int32) (fO : Nat → Int32) (wI : Nat → Int32) (os : Int32) (fl : Int32) (wa : Int32) (fo : Int32) (sb : Int32) (lp : Int32) (fm : Int32) (pn : Int32) (tr : Nat → Int32) (fs : Nat → Int32) (sk : Nat → Int32) (ct : Nat → Int32) (nt : Nat → Int32) (so : Nat → Int32) (sd : Nat → Int32) (ti : Nat → Int32) (on : Nat → Int32) (he : Nat → Int32) (n : Nat) (il : Int32) (kn : Nat → Int32) (sp : Nat → Int32) (py : Nat → Int32) (bo : Nat → Int32) (a1 : Int32) (a2 : Int32) (a3 : Int32) (hn : n ≤ 6) : MI l yX3_person wsX3_person ({ frames := 10, cells := 0, slots := 0, locals := 400 }) D cI cZ [.ref (q 17), .int a1, .int a2, .int a3] (wM cI q se wo fO wI ++ wS cI q os fl wa fo sb lp fm pn tr fs sk ct nt ++ wD cI q so sd ti on he ++ wP cI q (nI n) il kn sp py bo) (fun u : Int32 × (Nat → Int32) × (Nat → Int32) × (Nat → Int32) × (Nat → Int32) => (wM cI q se wo fO wI ++ wS cI q os fl wa fo sb lp fm pn tr fs sk ct nt ++ wD cI q so sd ti on he ++ wP cI q u.1 il u.2.1 u.2.2.1 u.2.2.2.1 u.2.2.2.2)) (fun r u => r = (if pOk a1 a2 a3 = true then (if n < 6 then nI n else (-5)) else (-3)) ∧ u = (nI (if (pOk a1 a2 a3 && decide (n < 6)) = true then n + 1 else n), (if (pOk a1 a2 a3 && decide (n < 6)) = true then upd kn n a1 else kn), (if (pOk a1 a2 a3 && decide (n < 6)) = true then upd sp n a2 else sp), (if (pOk a1 a2 a3 && decide (n < 6)) = true then upd py n a3 else py), (if (pOk a1 a2 a3 && decide (n < 6)) = true then upd bo n 5 else bo))) := by
  refine MI_of (cc := cX3_person) (maxL := 4) (ty := .int) (by decide) rfl (Nat.le_of_ble_eq_true rfl) (fun p e s m args below meth c A Q hx hb hml hown hts hK hN hA hret H locs ls hl hP hD hS => ?_)
  have hown : s.vm.findClass RX3 = some m.cls := hown
  have hl : lv_has ls 4 [(0, .ref (q 17)), (1, .int a1), (2, .int a2), (3, .int a3)] := hl
  have hin3 : ∀ w ∈ u_ws RX3 TX3 7, w ∈ wsX3_person := fun w h => List.mem_cons_of_mem _ (List.mem_append_left _ (List.mem_append_right _ h))
  have f10 : (Cond.fieldLink RX3 10 "GlassBooths" "people" "LGlassBooths$People;").before args s = true := hts _ (by decide +kernel)
  have hw := h_X3_person n se wo fO wI os fl wa fo sb lp fm pn tr fs sk ct nt so sd ti on he il kn sp py bo a1 a2 a3 hn   
  unfold v_X3_person_0 at hw
  refine lv_iload_n hx hb dX3_person_0 rfl (lv_at hl 1 rfl) ?_
  refine zc_i0 (va_runS (As := [.int a1]) (rest := []) ⟨hx, hb, hml, hown, hts⟩ ((c_X3_areTongues l D cI cZ a1  ) H.size) (va_cwS 1 hts gX3_person_X3_areTongues rfl rfl rfl (by decide +kernel) ⟨Nat.le_of_ble_eq_true rfl, Nat.le_of_ble_eq_true rfl⟩) (ps_of hK hN hP hD [] rfl rfl) rfl rfl hl.1 rfl (lv_room (Nat.le_of_ble_eq_true rfl)) dX3_person_1 ⟨Nat.zero_le _, Nat.zero_le _⟩) hP hD hS hA (fun r u H locs hu hP hD hS => ?_)
  subst hu
  refine lv_if_eq (tgt := 22) hx hb dX3_person_4 (by decide) (fun hc => ?_) (fun hc => ?_)
  · replace hw := hw.1 hc
    refine lv_bipush (v := (-3 : Int32)) hx hb dX3_person_22 (by decide) ?_
    exact hret _ (nI n, kn, sp, py, bo) _ _ _ _ hw rfl hP hD hS dX3_person_24
  · replace hw := hw.2 hc
    refine lv_iload_n hx hb dX3_person_7 rfl (lv_at hl 2 rfl) ?_
    refine zc_i0 (va_runS (As := [.int a2]) (rest := []) ⟨hx, hb, hml, hown, hts⟩ ((c_X3_areTongues l D cI cZ a2  ) H.size) (va_cwS 1 hts gX3_person_X3_areTongues rfl rfl rfl (by decide +kernel) ⟨Nat.le_of_ble_eq_true rfl, Nat.le_of_ble_eq_true rfl⟩) (ps_of hK hN hP hD [] rfl rfl) rfl rfl hl.1 rfl (lv_room (Nat.le_of_ble_eq_true rfl)) dX3_person_8 ⟨Nat.zero_le _, Nat.zero_le _⟩) hP hD hS hA (fun r u H locs hu hP hD hS => ?_)
    subst hu
    refine lv_if_eq (tgt := 22) hx hb dX3_person_11 (by decide) (fun hc => ?_) (fun hc => ?_)
    · replace hw := hw.1 hc
      refine lv_bipush (v := (-3 : Int32)) hx hb dX3_person_22 (by decide) ?_
      exact hret _ (nI n, kn, sp, py, bo) _ _ _ _ hw rfl hP hD hS dX3_person_24
    · replace hw := hw.2 hc
      refine lv_iload_n hx hb dX3_person_14 rfl (lv_at hl 2 rfl) ?_
      refine lv_iload_n hx hb dX3_person_15 rfl (lv_at hl 1 rfl) ?_
      refine lv_iconst (v := (-1 : Int32)) hx hb dX3_person_16 (by decide) ?_
      refine lv_ixor hx hb dX3_person_17 ?_
      refine lv_iand hx hb dX3_person_18 ?_
      refine lv_if_eq (tgt := 25) hx hb dX3_person_19 (by decide) (fun hc => ?_) (fun hc => ?_)
      · replace hw := hw.1 hc
        refine lv_iload_n hx hb dX3_person_25 rfl (lv_at hl 3 rfl) ?_
        refine lv_iconst (v := (1 : Int32)) hx hb dX3_person_26 (by decide) ?_
        refine lv_icmp_lt (tgt := 36) hx hb dX3_person_27 (by decide) (fun hc => ?_) (fun hc => ?_)
        · replace hw := hw.1 hc
          refine lv_bipush (v := (-3 : Int32)) hx hb dX3_person_36 (by decide) ?_
          exact hret _ (nI n, kn, sp, py, bo) _ _ _ _ hw rfl hP hD hS dX3_person_38
        · replace hw := hw.2 hc
          refine lv_iload_n hx hb dX3_person_30 rfl (lv_at hl 3 rfl) ?_
          refine lv_bipush (v := (99 : Int32)) hx hb dX3_person_31 (by decide) ?_
          refine lv_icmp_le (tgt := 39) hx hb dX3_person_33 (by decide) (fun hc => ?_) (fun hc => ?_)
          · replace hw := hw.1 hc
            refine lv_aload_n hx hb dX3_person_39 rfl (lv_at hl 0 rfl) ?_
            refine va_get (D := D) (ci := 3) (v := .ref (q 0)) (C := RX3) (T := TX3) (N := 7) hx hb hts hin3 hown hK hP 0 rfl rfl 0 (by decide) f10 (fun _ h9 => h9) rfl dX3_person_40 ?_
            refine lv_iload_n hx hb dX3_person_43 rfl (lv_at hl 1 rfl) ?_
            refine lv_iload_n hx hb dX3_person_44 rfl (lv_at hl 2 rfl) ?_
            refine lv_iload_n hx hb dX3_person_45 rfl (lv_at hl 3 rfl) ?_
            refine zc_i (fun u => (wM cI q se wo fO wI ++ wS cI q os fl wa fo sb lp fm pn tr fs sk ct nt ++ wD cI q so sd ti on he ++ wP cI q u.1 il u.2.1 u.2.2.1 u.2.2.2.1 u.2.2.2.2)) [15, 16, 17, 18, 19] [0, 1, 2, 3, 4, 5, 6, 7, 8, 9, 10, 11, 12, 13, 14] [0, 1, 2, 3, 4, 5, 6, 7, 8, 9, 10, 11, 12, 13, 14, 15, 16, 17, 18, 19] (va_runV (As := [.int a1, .int a2, .int a3]) (rest := []) ⟨hx, hb, hml, hown, hts⟩ ((c_X1_add l D cI cZ q n il kn sp py bo a1 a2 a3 hn ) H.size) (cwV 3 hts gX3_person_X1_add rfl rfl rfl (by decide +kernel) ⟨Nat.le_of_ble_eq_true rfl, Nat.le_of_ble_eq_true rfl⟩) (pv_of hK hN hP hD [15, 16, 17, 18, 19] rfl rfl 1 0 rfl rfl) rfl rfl hl.1 rfl (lv_room (Nat.le_of_ble_eq_true rfl)) dX3_person_46 ⟨Nat.zero_le _, Nat.zero_le _⟩) hP hD hS hA rfl rfl rfl (by decide) (fun _ => rfl) rfl (fun r u H locs hu hP hD hS => ?_)
            obtain ⟨rfl, rfl⟩ := hu
            have hP : va_P D vwCl (wM cI q se wo fO wI ++ wS cI q os fl wa fo sb lp fm pn tr fs sk ct nt ++ wD cI q so sd ti on he ++ wP cI q (nI (if n < 6 then n + 1 else n)) il (if n < 6 then upd kn n a1 else kn) (if n < 6 then upd sp n a2 else sp) (if n < 6 then upd py n a3 else py) (if n < 6 then upd bo n 5 else bo)) H := hP
            have hD : va_D A (wM cI q se wo fO wI ++ wS cI q os fl wa fo sb lp fm pn tr fs sk ct nt ++ wD cI q so sd ti on he ++ wP cI q (nI (if n < 6 then n + 1 else n)) il (if n < 6 then upd kn n a1 else kn) (if n < 6 then upd sp n a2 else sp) (if n < 6 then upd py n a3 else py) (if n < 6 then upd bo n 5 else bo)) := hD
            exact hret _ (nI (if n < 6 then n + 1 else n), (if n < 6 then upd kn n a1 else kn), (if n < 6 then upd sp n a2 else sp), (if n < 6 then upd py n a3 else py), (if n < 6 then upd bo n 5 else bo)) _ _ _ _ hw rfl hP hD hS dX3_person_49
          · replace hw := hw.2 hc
            refine lv_bipush (v := (-3 : Int32)) hx hb dX3_person_36 (by decide) ?_
            exact hret _ (nI n, kn, sp, py, bo) _ _ _ _ hw rfl hP hD hS dX3_person_38
      · replace hw := hw.2 hc
        refine lv_bipush (v := (-3 : Int32)) hx hb dX3_person_22 (by decide) ?_
        exact hret _ (nI n, kn, sp, py, bo) _ _ _ _ hw rfl hP hD hS dX3_person_24
set_option maxHeartbeats 4000000 in
set_option maxRecDepth 100000 in
theorem c_X3_ill (l : Launch) (D : va_G) (cI cZ : ClassId) (q : Nat → Nat) (se : Int32) (wo : Int32) (fO : Nat → Int32) (wI : Nat → Int32) (os : Int32) (fl : Int32) (wa : Int32) (fo : Int32) (sb : Int32) (lp : Int32) (fm : Int32) (pn : Int32) (tr : Nat → Int32) (fs : Nat → Int32) (sk : Nat → Int32) (ct : Nat → Int32) (nt : Nat → Int32) (so : Nat → Int32) (sd : Nat → Int32) (ti : Nat → Int32) (on : Nat → Int32) (he : Nat → Int32) (n : Nat) (il : Int32) (kn : Nat → Int32) (sp : Nat → Int32) (py : Nat → Int32) (bo : Nat → Int32) (a1 : Int32) (a2 : Int32) (hn : n ≤ 6) : MI l yX3_ill wsX3_ill ({ frames := 10, cells := 0, slots := 0, locals := 400 }) D cI cZ [.ref (q 17), .int a1, .int a2] (wM cI q se wo fO wI ++ wS cI q os fl wa fo sb lp fm pn tr fs sk ct nt ++ wD cI q so sd ti on he ++ wP cI q (nI n) il kn sp py bo) (fun u : Int32 => (wM cI q se wo fO wI ++ wS cI q os fl wa fo sb lp fm pn tr fs sk ct nt ++ wD cI q so sd ti on he ++ wP cI q (nI n) u kn sp py bo)) (fun r u => r = (if inB a1 (nI n) = true then bI (hs il a1) else (-2)) ∧ u = (if inB a1 (nI n) = true then (if a2 = 0 then il &&& (((1 : Int32) <<< (a1 &&& 31)) ^^^ (-1)) else il ||| ((1 : Int32) <<< (a1 &&& 31))) else il)) := by
  refine MI_of (cc := cX3_ill) (maxL := 4) (ty := .int) (by decide) rfl (Nat.le_of_ble_eq_true rfl) (fun p e s m args below meth c A Q hx hb hml hown hts hK hN hA hret H locs ls hl hP hD hS => ?_)
  have hown : s.vm.findClass RX3 = some m.cls := hown
  have hl : lv_has ls 4 [(0, .ref (q 17)), (1, .int a1), (2, .int a2)] := hl
  have hin3 : ∀ w ∈ u_ws RX3 TX3 7, w ∈ wsX3_ill := fun w h => List.mem_cons_of_mem _ (List.mem_append_left _ (List.mem_append_right _ h))
  have f10 : (Cond.fieldLink RX3 10 "GlassBooths" "people" "LGlassBooths$People;").before args s = true := hts _ (by decide +kernel)
  have J30 : ∀ x1 x2 s0 il_, v_X3_ill_30 n se wo fO wI os fl wa fo sb lp fm pn tr fs sk ct nt so sd ti on he kn sp py bo (fun r u => r = (if inB a1 (nI n) = true then bI (hs il a1) else (-2)) ∧ u = (if inB a1 (nI n) = true then (if a2 = 0 then il &&& (((1 : Int32) <<< (a1 &&& 31)) ^^^ (-1)) else il ||| ((1 : Int32) <<< (a1 &&& 31))) else il))  x1 x2 s0 il_ → ∀ (H : Heap) (locs : List Loc) (ls : Array Slot), lv_has ls 4 [(0, .ref (q 17)), (1, .int x1), (2, .int x2)] → va_P D vwCl (wM cI q se wo fO wI ++ wS cI q os fl wa fo sb lp fm pn tr fs sk ct nt ++ wD cI q so sd ti on he ++ wP cI q (nI n) il_ kn sp py bo) H → va_D A (wM cI q se wo fO wI ++ wS cI q os fl wa fo sb lp fm pn tr fs sk ct nt ++ wD cI q so sd ti on he ++ wP cI q (nI n) il_ kn sp py bo) → va_S A s.heap H locs → W p l e (headSpec wsX3_ill ({ frames := 10, cells := 0, slots := 0, locals := 400 })).room s m args below meth c H locs 0 0 Q (F0 m 30 ls [.int s0]) := by
    intro x1 x2 s0 il_ hw
    intro H locs ls hl hP hD hS
    unfold v_X3_ill_30 at hw
    refine lv_istore_n (lv' := [(3, .int s0), (0, .ref (q 17)), (1, .int x1), (2, .int x2)]) hx hb dX3_ill_30 rfl hl (by decide) rfl (fun ls hl => ?_)
    refine lv_aload_n hx hb dX3_ill_31 rfl (lv_at hl 1 rfl) ?_
    refine va_get (D := D) (ci := 3) (v := .ref (q 0)) (C := RX3) (T := TX3) (N := 7) hx hb hts hin3 hown hK hP 0 rfl rfl 0 (by decide) f10 (fun _ h9 => h9) rfl dX3_ill_32 ?_
    refine lv_iload_n hx hb dX3_ill_35 rfl (lv_at hl 2 rfl) ?_
    refine lv_iload_n hx hb dX3_ill_36 rfl (lv_at hl 3 rfl) ?_
    refine zc_v (fun u => (wM cI q se wo fO wI ++ wS cI q os fl wa fo sb lp fm pn tr fs sk ct nt ++ wD cI q so sd ti on he ++ wP cI q (nI n) u kn sp py bo)) [15, 16, 17, 18, 19] [0, 1, 2, 3, 4, 5, 6, 7, 8, 9, 10, 11, 12, 13, 14] [0, 1, 2, 3, 4, 5, 6, 7, 8, 9, 10, 11, 12, 13, 14, 15, 16, 17, 18, 19] (va_runV (As := [.int x1, .int x2]) (rest := []) ⟨hx, hb, hml, hown, hts⟩ ((c_X1_setIll l D cI cZ q n il_ kn sp py bo x1 x2 hn ) H.size) (cwV 2 hts gX3_ill_X1_setIll rfl rfl rfl (by decide +kernel) ⟨Nat.le_of_ble_eq_true rfl, Nat.le_of_ble_eq_true rfl⟩) (pv_of hK hN hP hD [15, 16, 17, 18, 19] rfl rfl 1 0 rfl rfl) rfl rfl hl.1 rfl (lv_room (Nat.le_of_ble_eq_true rfl)) dX3_ill_37 ⟨Nat.zero_le _, Nat.zero_le _⟩) hP hD hS hA rfl rfl rfl (by decide) (fun _ => rfl) rfl (fun u H locs hu hP hD hS => ?_)
    subst hu
    have hP : va_P D vwCl (wM cI q se wo fO wI ++ wS cI q os fl wa fo sb lp fm pn tr fs sk ct nt ++ wD cI q so sd ti on he ++ wP cI q (nI n) (if x2 = 0 then il_ &&& (((1 : Int32) <<< (x1 &&& 31)) ^^^ (-1)) else il_ ||| ((1 : Int32) <<< (x1 &&& 31))) kn sp py bo) H := hP
    have hD : va_D A (wM cI q se wo fO wI ++ wS cI q os fl wa fo sb lp fm pn tr fs sk ct nt ++ wD cI q so sd ti on he ++ wP cI q (nI n) (if x2 = 0 then il_ &&& (((1 : Int32) <<< (x1 &&& 31)) ^^^ (-1)) else il_ ||| ((1 : Int32) <<< (x1 &&& 31))) kn sp py bo) := hD
    refine lv_iload_n hx hb dX3_ill_40 rfl (lv_at hl 0 rfl) ?_
    exact hret _ (if x2 = 0 then il_ &&& (((1 : Int32) <<< (x1 &&& 31)) ^^^ (-1)) else il_ ||| ((1 : Int32) <<< (x1 &&& 31))) _ _ _ _ hw rfl hP hD hS dX3_ill_41
  have hw := h_X3_ill n se wo fO wI os fl wa fo sb lp fm pn tr fs sk ct nt so sd ti on he kn sp py bo il a1 a2 hn   
  unfold v_X3_ill_0 at hw
  refine lv_aload_n hx hb dX3_ill_0 rfl (lv_at hl 0 rfl) ?_
  refine va_get (D := D) (ci := 3) (v := .ref (q 0)) (C := RX3) (T := TX3) (N := 7) hx hb hts hin3 hown hK hP 0 rfl rfl 0 (by decide) f10 (fun _ h9 => h9) rfl dX3_ill_1 ?_
  refine lv_iload_n hx hb dX3_ill_4 rfl (lv_at hl 1 rfl) ?_
  refine zc_i (fun u => (wM cI q se wo fO wI ++ wS cI q os fl wa fo sb lp fm pn tr fs sk ct nt ++ wD cI q so sd ti on he ++ wP cI q (nI n) il kn sp py bo)) [15, 16, 17, 18, 19] [0, 1, 2, 3, 4, 5, 6, 7, 8, 9, 10, 11, 12, 13, 14] [0, 1, 2, 3, 4, 5, 6, 7, 8, 9, 10, 11, 12, 13, 14, 15, 16, 17, 18, 19] (va_runV (As := [.int a1]) (rest := []) ⟨hx, hb, hml, hown, hts⟩ ((c_X1_has l D cI cZ q n il kn sp py bo a1 hn ) H.size) (cwV 1 hts gX3_ill_X1_has rfl rfl rfl (by decide +kernel) ⟨Nat.le_of_ble_eq_true rfl, Nat.le_of_ble_eq_true rfl⟩) (pv_of hK hN hP hD [15, 16, 17, 18, 19] rfl rfl 1 0 rfl rfl) rfl rfl hl.1 rfl (lv_room (Nat.le_of_ble_eq_true rfl)) dX3_ill_5 ⟨Nat.zero_le _, Nat.zero_le _⟩) hP hD hS hA rfl rfl rfl (by decide) (fun _ => rfl) rfl (fun r u H locs hu hP hD hS => ?_)
  subst hu
  have hP : va_P D vwCl (wM cI q se wo fO wI ++ wS cI q os fl wa fo sb lp fm pn tr fs sk ct nt ++ wD cI q so sd ti on he ++ wP cI q (nI n) il kn sp py bo) H := hP
  have hD : va_D A (wM cI q se wo fO wI ++ wS cI q os fl wa fo sb lp fm pn tr fs sk ct nt ++ wD cI q so sd ti on he ++ wP cI q (nI n) il kn sp py bo) := hD
  refine lv_if_ne (tgt := 14) hx hb dX3_ill_8 (by decide) (fun hc => ?_) (fun hc => ?_)
  · replace hw := hw.2 hc
    refine lv_aload_n hx hb dX3_ill_14 rfl (lv_at hl 0 rfl) ?_
    refine va_get (D := D) (ci := 3) (v := .ref (q 0)) (C := RX3) (T := TX3) (N := 7) hx hb hts hin3 hown hK hP 0 rfl rfl 0 (by decide) f10 (fun _ h9 => h9) rfl dX3_ill_15 ?_
    refine lv_iload_n hx hb dX3_ill_18 rfl (lv_at hl 1 rfl) ?_
    refine zc_i (fun u => (wM cI q se wo fO wI ++ wS cI q os fl wa fo sb lp fm pn tr fs sk ct nt ++ wD cI q so sd ti on he ++ wP cI q (nI n) il kn sp py bo)) [15, 16, 17, 18, 19] [0, 1, 2, 3, 4, 5, 6, 7, 8, 9, 10, 11, 12, 13, 14] [0, 1, 2, 3, 4, 5, 6, 7, 8, 9, 10, 11, 12, 13, 14, 15, 16, 17, 18, 19] (va_runV (As := [.int a1]) (rest := []) ⟨hx, hb, hml, hown, hts⟩ ((c_X1_isIll l D cI cZ q n il kn sp py bo a1 hn ) H.size) (cwV 1 hts gX3_ill_X1_isIll rfl rfl rfl (by decide +kernel) ⟨Nat.le_of_ble_eq_true rfl, Nat.le_of_ble_eq_true rfl⟩) (pv_of hK hN hP hD [15, 16, 17, 18, 19] rfl rfl 1 0 rfl rfl) rfl rfl hl.1 rfl (lv_room (Nat.le_of_ble_eq_true rfl)) dX3_ill_19 ⟨Nat.zero_le _, Nat.zero_le _⟩) hP hD hS hA rfl rfl rfl (by decide) (fun _ => rfl) rfl (fun r u H locs hu hP hD hS => ?_)
    subst hu
    have hP : va_P D vwCl (wM cI q se wo fO wI ++ wS cI q os fl wa fo sb lp fm pn tr fs sk ct nt ++ wD cI q so sd ti on he ++ wP cI q (nI n) il kn sp py bo) H := hP
    have hD : va_D A (wM cI q se wo fO wI ++ wS cI q os fl wa fo sb lp fm pn tr fs sk ct nt ++ wD cI q so sd ti on he ++ wP cI q (nI n) il kn sp py bo) := hD
    refine lv_if_eq (tgt := 29) hx hb dX3_ill_22 (by decide) (fun hc => ?_) (fun hc => ?_)
    · replace hw := hw.1 hc
      refine lv_iconst (v := (0 : Int32)) hx hb dX3_ill_29 (by decide) ?_
      exact J30 _ _ _ _ hw _ _ _ (lv_sub hl [0, 1, 2] rfl) hP hD hS
    · replace hw := hw.2 hc
      refine lv_iconst (v := (1 : Int32)) hx hb dX3_ill_25 (by decide) ?_
      refine lv_goto (tgt := 30) hx hb dX3_ill_26 (by decide) ?_
      exact J30 _ _ _ _ hw _ _ _ (lv_sub hl [0, 1, 2] rfl) hP hD hS
  · replace hw := hw.1 hc
    refine lv_bipush (v := (-2 : Int32)) hx hb dX3_ill_11 (by decide) ?_
    exact hret _ il _ _ _ _ hw rfl hP hD hS dX3_ill_13
set_option maxHeartbeats 4000000 in
set_option maxRecDepth 100000 in
theorem c_X3_session (l : Launch) (D : va_G) (cI cZ : ClassId) (q : Nat → Nat) (se : Int32) (wo : Int32) (fO : Nat → Int32) (wI : Nat → Int32) (os : Int32) (fl : Int32) (wa : Int32) (fo : Int32) (sb : Int32) (lp : Int32) (fm : Int32) (pn : Int32) (tr : Nat → Int32) (fs : Nat → Int32) (sk : Nat → Int32) (ct : Nat → Int32) (nt : Nat → Int32) (so : Nat → Int32) (sd : Nat → Int32) (ti : Nat → Int32) (on : Nat → Int32) (he : Nat → Int32) (n : Nat) (il : Int32) (kn : Nat → Int32) (sp : Nat → Int32) (py : Nat → Int32) (bo : Nat → Int32) (a1 : Int32) (a2 : Int32) (a3 : Int32) (hn : n ≤ 6) : MI l yX3_session wsX3_session ({ frames := 10, cells := 0, slots := 0, locals := 400 }) D cI cZ [.ref (q 17), .int a1, .int a2, .int a3] (wM cI q se wo fO wI ++ wS cI q os fl wa fo sb lp fm pn tr fs sk ct nt ++ wD cI q so sd ti on he ++ wP cI q (nI n) il kn sp py bo) (fun u : (Nat → Int32) × (Nat → Int32) => (wM cI q se wo u.1 u.2 ++ wS cI q os fl wa fo sb lp fm pn tr fs sk ct nt ++ wD cI q so sd ti on he ++ wP cI q (nI n) il kn sp py bo)) (fun r u => r = (if inB a1 2 = true then (if (decide (a2 &&& (-32) = 0) && decide (a3 &&& (-32) = 0)) = true then 1 else (-3)) else (-2)) ∧ u = ((if (inB a1 2 && (decide (a2 &&& (-32) = 0) && decide (a3 &&& (-32) = 0))) = true then upd fO a1.toNatClampNeg a2 else fO), (if (inB a1 2 && (decide (a2 &&& (-32) = 0) && decide (a3 &&& (-32) = 0))) = true then upd wI a1.toNatClampNeg a3 else wI))) := by
  refine MI_of (cc := cX3_session) (maxL := 4) (ty := .int) (by decide) rfl (Nat.le_of_ble_eq_true rfl) (fun p e s m args below meth c A Q hx hb hml hown hts hK hN hA hret H locs ls hl hP hD hS => ?_)
  have hown : s.vm.findClass RX3 = some m.cls := hown
  have hl : lv_has ls 4 [(0, .ref (q 17)), (1, .int a1), (2, .int a2), (3, .int a3)] := hl
  have hin3 : ∀ w ∈ u_ws RX3 TX3 7, w ∈ wsX3_session := fun w h => List.mem_cons_of_mem _ (List.mem_append_right _ h)
  have f32 : (Cond.fieldLink RX3 32 "GlassBooths" "floorsOf" "[I").before args s = true := hts _ (by decide +kernel)
  have f36 : (Cond.fieldLink RX3 36 "GlassBooths" "wantedIn" "[I").before args s = true := hts _ (by decide +kernel)
  have hw := h_X3_session n se wo os fl wa fo sb lp fm pn tr fs sk ct nt so sd ti on he il kn sp py bo fO wI a1 a2 a3 hn   
  unfold v_X3_session_0 at hw
  refine lv_iload_n hx hb dX3_session_0 rfl (lv_at hl 1 rfl) ?_
  refine zc_i0 (va_runS (As := [.int a1]) (rest := []) ⟨hx, hb, hml, hown, hts⟩ ((c_X3_isSession l D cI cZ a1  ) H.size) (va_cwS 1 hts gX3_session_X3_isSession rfl rfl rfl (by decide +kernel) ⟨Nat.le_of_ble_eq_true rfl, Nat.le_of_ble_eq_true rfl⟩) (ps_of hK hN hP hD [] rfl rfl) rfl rfl hl.1 rfl (lv_room (Nat.le_of_ble_eq_true rfl)) dX3_session_1 ⟨Nat.zero_le _, Nat.zero_le _⟩) hP hD hS hA (fun r u H locs hu hP hD hS => ?_)
  subst hu
  refine lv_if_ne (tgt := 10) hx hb dX3_session_4 (by decide) (fun hc => ?_) (fun hc => ?_)
  · replace hw := hw.2 hc
    refine lv_iload_n hx hb dX3_session_10 rfl (lv_at hl 2 rfl) ?_
    refine zc_i0 (va_runS (As := [.int a2]) (rest := []) ⟨hx, hb, hml, hown, hts⟩ ((c_X3_areTongues l D cI cZ a2  ) H.size) (va_cwS 1 hts gX3_session_X3_areTongues rfl rfl rfl (by decide +kernel) ⟨Nat.le_of_ble_eq_true rfl, Nat.le_of_ble_eq_true rfl⟩) (ps_of hK hN hP hD [] rfl rfl) rfl rfl hl.1 rfl (lv_room (Nat.le_of_ble_eq_true rfl)) dX3_session_11 ⟨Nat.zero_le _, Nat.zero_le _⟩) hP hD hS hA (fun r u H locs hu hP hD hS => ?_)
    subst hu
    refine lv_if_eq (tgt := 24) hx hb dX3_session_14 (by decide) (fun hc => ?_) (fun hc => ?_)
    · replace hw := hw.1 hc
      refine lv_bipush (v := (-3 : Int32)) hx hb dX3_session_24 (by decide) ?_
      exact hret _ (fO, wI) _ _ _ _ hw rfl hP hD hS dX3_session_26
    · replace hw := hw.2 hc
      refine lv_iload_n hx hb dX3_session_17 rfl (lv_at hl 3 rfl) ?_
      refine zc_i0 (va_runS (As := [.int a3]) (rest := []) ⟨hx, hb, hml, hown, hts⟩ ((c_X3_areTongues l D cI cZ a3  ) H.size) (va_cwS 1 hts gX3_session_X3_areTongues rfl rfl rfl (by decide +kernel) ⟨Nat.le_of_ble_eq_true rfl, Nat.le_of_ble_eq_true rfl⟩) (ps_of hK hN hP hD [] rfl rfl) rfl rfl hl.1 rfl (lv_room (Nat.le_of_ble_eq_true rfl)) dX3_session_18 ⟨Nat.zero_le _, Nat.zero_le _⟩) hP hD hS hA (fun r u H locs hu hP hD hS => ?_)
      subst hu
      refine lv_if_ne (tgt := 27) hx hb dX3_session_21 (by decide) (fun hc => ?_) (fun hc => ?_)
      · replace hw := hw.2 hc
        refine lv_aload_n hx hb dX3_session_27 rfl (lv_at hl 0 rfl) ?_
        refine va_get (D := D) (ci := 3) (v := .ref (q 18)) (C := RX3) (T := TX3) (N := 7) hx hb hts hin3 hown hK hP 0 rfl rfl 3 (by decide) f32 (fun _ h9 => h9) rfl dX3_session_28 ?_
        refine lv_iload_n hx hb dX3_session_31 rfl (lv_at hl 1 rfl) ?_
        refine lv_iload_n hx hb dX3_session_32 rfl (lv_at hl 2 rfl) ?_
        obtain ⟨hv, hw⟩ := hw
        refine va_iast hx hb hK hP hD hS 1 0 rfl rfl hv dX3_session_33 (fun H locs hP hD hS => ?_)
        have hP : va_P D vwCl (wM cI q se wo (upd fO a1.toNatClampNeg a2) wI ++ wS cI q os fl wa fo sb lp fm pn tr fs sk ct nt ++ wD cI q so sd ti on he ++ wP cI q (nI n) il kn sp py bo) H := hP
        have hD : va_D A (wM cI q se wo (upd fO a1.toNatClampNeg a2) wI ++ wS cI q os fl wa fo sb lp fm pn tr fs sk ct nt ++ wD cI q so sd ti on he ++ wP cI q (nI n) il kn sp py bo) := hD
        refine lv_aload_n hx hb dX3_session_34 rfl (lv_at hl 0 rfl) ?_
        refine va_get (D := D) (ci := 3) (v := .ref (q 19)) (C := RX3) (T := TX3) (N := 7) hx hb hts hin3 hown hK hP 0 rfl rfl 4 (by decide) f36 (fun _ h9 => h9) rfl dX3_session_35 ?_
        refine lv_iload_n hx hb dX3_session_38 rfl (lv_at hl 1 rfl) ?_
        refine lv_iload_n hx hb dX3_session_39 rfl (lv_at hl 3 rfl) ?_
        obtain ⟨hv, hw⟩ := hw
        refine va_iast hx hb hK hP hD hS 2 0 rfl rfl hv dX3_session_40 (fun H locs hP hD hS => ?_)
        have hP : va_P D vwCl (wM cI q se wo (upd fO a1.toNatClampNeg a2) (upd wI a1.toNatClampNeg a3) ++ wS cI q os fl wa fo sb lp fm pn tr fs sk ct nt ++ wD cI q so sd ti on he ++ wP cI q (nI n) il kn sp py bo) H := hP
        have hD : va_D A (wM cI q se wo (upd fO a1.toNatClampNeg a2) (upd wI a1.toNatClampNeg a3) ++ wS cI q os fl wa fo sb lp fm pn tr fs sk ct nt ++ wD cI q so sd ti on he ++ wP cI q (nI n) il kn sp py bo) := hD
        refine lv_iconst (v := (1 : Int32)) hx hb dX3_session_41 (by decide) ?_
        exact hret _ (upd fO a1.toNatClampNeg a2, upd wI a1.toNatClampNeg a3) _ _ _ _ hw rfl hP hD hS dX3_session_42
      · replace hw := hw.1 hc
        refine lv_bipush (v := (-3 : Int32)) hx hb dX3_session_24 (by decide) ?_
        exact hret _ (fO, wI) _ _ _ _ hw rfl hP hD hS dX3_session_26
  · replace hw := hw.1 hc
    refine lv_bipush (v := (-2 : Int32)) hx hb dX3_session_7 (by decide) ?_
    exact hret _ (fO, wI) _ _ _ _ hw rfl hP hD hS dX3_session_9
set_option maxHeartbeats 4000000 in
set_option maxRecDepth 100000 in
theorem c_X3_seats (l : Launch) (D : va_G) (cI cZ : ClassId) (q : Nat → Nat) (se : Int32) (wo : Int32) (fO : Nat → Int32) (wI : Nat → Int32) (os : Int32) (fl : Int32) (wa : Int32) (fo : Int32) (sb : Int32) (lp : Int32) (fm : Int32) (pn : Int32) (tr : Nat → Int32) (fs : Nat → Int32) (sk : Nat → Int32) (ct : Nat → Int32) (nt : Nat → Int32) (so : Nat → Int32) (sd : Nat → Int32) (ti : Nat → Int32) (on : Nat → Int32) (he : Nat → Int32) (n : Nat) (il : Int32) (kn : Nat → Int32) (sp : Nat → Int32) (py : Nat → Int32) (bo : Nat → Int32) (a1 : Int32) (hn : n ≤ 6) : MI l yX3_seats wsX3_seats ({ frames := 10, cells := 0, slots := 0, locals := 400 }) D cI cZ [.ref (q 17), .int a1] (wM cI q se wo fO wI ++ wS cI q os fl wa fo sb lp fm pn tr fs sk ct nt ++ wD cI q so sd ti on he ++ wP cI q (nI n) il kn sp py bo) (fun u : Int32 => (wM cI q u wo fO wI ++ wS cI q os fl wa fo sb lp fm pn tr fs sk ct nt ++ wD cI q so sd ti on he ++ wP cI q (nI n) il kn sp py bo)) (fun r u => r = (if (a1 < 1 ∨ 2 < a1) then (-3) else se) ∧ u = (if (a1 < 1 ∨ 2 < a1) then se else a1)) := by
  refine MI_of (cc := cX3_seats) (maxL := 3) (ty := .int) (by decide) rfl (Nat.le_of_ble_eq_true rfl) (fun p e s m args below meth c A Q hx hb hml hown hts hK hN hA hret H locs ls hl hP hD hS => ?_)
  have hown : s.vm.findClass RX3 = some m.cls := hown
  have hl : lv_has ls 3 [(0, .ref (q 17)), (1, .int a1)] := hl
  have hin3 : ∀ w ∈ u_ws RX3 TX3 7, w ∈ wsX3_seats := fun w h => List.mem_cons_of_mem _ (List.mem_append_right _ h)
  have f39 : (Cond.fieldLink RX3 39 "GlassBooths" "seatsEach" "I").before args s = true := hts _ (by decide +kernel)
  have hw := h_X3_seats n wo fO wI os fl wa fo sb lp fm pn tr fs sk ct nt so sd ti on he il kn sp py bo se a1 hn   
  unfold v_X3_seats_0 at hw
  refine lv_iload_n hx hb dX3_seats_0 rfl (lv_at hl 1 rfl) ?_
  refine lv_iconst (v := (1 : Int32)) hx hb dX3_seats_1 (by decide) ?_
  refine lv_icmp_lt (tgt := 10) hx hb dX3_seats_2 (by decide) (fun hc => ?_) (fun hc => ?_)
  · replace hw := hw.1 hc
    refine lv_bipush (v := (-3 : Int32)) hx hb dX3_seats_10 (by decide) ?_
    exact hret _ se _ _ _ _ hw rfl hP hD hS dX3_seats_12
  · replace hw := hw.2 hc
    refine lv_iload_n hx hb dX3_seats_5 rfl (lv_at hl 1 rfl) ?_
    refine lv_iconst (v := (2 : Int32)) hx hb dX3_seats_6 (by decide) ?_
    refine lv_icmp_le (tgt := 13) hx hb dX3_seats_7 (by decide) (fun hc => ?_) (fun hc => ?_)
    · replace hw := hw.1 hc
      refine lv_aload_n hx hb dX3_seats_13 rfl (lv_at hl 0 rfl) ?_
      refine va_get (D := D) (ci := 3) (v := .int se) (C := RX3) (T := TX3) (N := 7) hx hb hts hin3 hown hK hP 0 rfl rfl 5 (by decide) f39 (fun _ h9 => h9) rfl dX3_seats_14 ?_
      refine lv_istore_n (lv' := [(2, .int se), (0, .ref (q 17)), (1, .int a1)]) hx hb dX3_seats_17 rfl hl (by decide) rfl (fun ls hl => ?_)
      refine lv_aload_n hx hb dX3_seats_18 rfl (lv_at hl 1 rfl) ?_
      refine lv_iload_n hx hb dX3_seats_19 rfl (lv_at hl 2 rfl) ?_
      refine va_put (D := D) (ci := 3) (v := .int a1) (ty := .int) (C := RX3) (T := TX3) (N := 7) hx hb hts hin3 tyX3 tyX3_ok nmX3 hown hK hP hD hS 0 rfl rfl 5 (by decide) f39 (fun _ h9 => h9) rfl (by decide +kernel) rfl rfl (Nat.le_of_ble_eq_true rfl) dX3_seats_20 (fun H locs hP hD hS => ?_)
      have hP : va_P D vwCl (wM cI q a1 wo fO wI ++ wS cI q os fl wa fo sb lp fm pn tr fs sk ct nt ++ wD cI q so sd ti on he ++ wP cI q (nI n) il kn sp py bo) H := hP
      have hD : va_D A (wM cI q a1 wo fO wI ++ wS cI q os fl wa fo sb lp fm pn tr fs sk ct nt ++ wD cI q so sd ti on he ++ wP cI q (nI n) il kn sp py bo) := hD
      refine lv_iload_n hx hb dX3_seats_23 rfl (lv_at hl 0 rfl) ?_
      exact hret _ a1 _ _ _ _ hw rfl hP hD hS dX3_seats_24
    · replace hw := hw.2 hc
      refine lv_bipush (v := (-3 : Int32)) hx hb dX3_seats_10 (by decide) ?_
      exact hret _ se _ _ _ _ hw rfl hP hD hS dX3_seats_12
set_option maxHeartbeats 4000000 in
set_option maxRecDepth 100000 in
theorem c_X3_whole (l : Launch) (D : va_G) (cI cZ : ClassId) (q : Nat → Nat) (se : Int32) (wo : Int32) (fO : Nat → Int32) (wI : Nat → Int32) (os : Int32) (fl : Int32) (wa : Int32) (fo : Int32) (sb : Int32) (lp : Int32) (fm : Int32) (pn : Int32) (tr : Nat → Int32) (fs : Nat → Int32) (sk : Nat → Int32) (ct : Nat → Int32) (nt : Nat → Int32) (so : Nat → Int32) (sd : Nat → Int32) (ti : Nat → Int32) (on : Nat → Int32) (he : Nat → Int32) (n : Nat) (il : Int32) (kn : Nat → Int32) (sp : Nat → Int32) (py : Nat → Int32) (bo : Nat → Int32) (a1 : Int32) (hn : n ≤ 6) : MI l yX3_whole wsX3_whole ({ frames := 110, cells := 0, slots := 0, locals := 2600 }) D cI cZ [.ref (q 17), .int a1] (wM cI q se wo fO wI ++ wS cI q os fl wa fo sb lp fm pn tr fs sk ct nt ++ wD cI q so sd ti on he ++ wP cI q (nI n) il kn sp py bo) (fun u : Int32 × Int32 × Int32 × Int32 × Int32 × Int32 × Int32 × Int32 × (Nat → Int32) × (Nat → Int32) × (Nat → Int32) × (Nat → Int32) × (Nat → Int32) => (wM cI q se wo fO wI ++ wS cI q u.1 u.2.1 u.2.2.1 u.2.2.2.1 u.2.2.2.2.1 u.2.2.2.2.2.1 u.2.2.2.2.2.2.1 u.2.2.2.2.2.2.2.1 u.2.2.2.2.2.2.2.2.1 u.2.2.2.2.2.2.2.2.2.1 u.2.2.2.2.2.2.2.2.2.2.1 u.2.2.2.2.2.2.2.2.2.2.2.1 u.2.2.2.2.2.2.2.2.2.2.2.2 ++ wD cI q so sd ti on he ++ wP cI q (nI n) il kn sp py bo)) (fun r u => r = (if inB a1 2 = true then (stF n il kn sp py bo fO wI se a1 (os, fl, wa, fo, sb, lp, fm, pn, tr, fs, sk, ct, nt)).2.2.2.1 else (-2)) ∧ u = stF n il kn sp py bo fO wI se a1 (os, fl, wa, fo, sb, lp, fm, pn, tr, fs, sk, ct, nt)) := by
  refine MI_of (cc := cX3_whole) (maxL := 2) (ty := .int) (by decide) rfl (Nat.le_of_ble_eq_true rfl) (fun p e s m args below meth c A Q hx hb hml hown hts hK hN hA hret H locs ls hl hP hD hS => ?_)
  have hown : s.vm.findClass RX3 = some m.cls := hown
  have hl : lv_has ls 2 [(0, .ref (q 17)), (1, .int a1)] := hl
  have hin2 : ∀ w ∈ u_ws RX2 TX2 14, w ∈ wsX3_whole := fun w h => List.mem_cons_of_mem _ (List.mem_append_left _ (List.mem_append_right _ h))
  have hin3 : ∀ w ∈ u_ws RX3 TX3 7, w ∈ wsX3_whole := fun w h => List.mem_cons_of_mem _ (List.mem_append_left _ (List.mem_append_left _ (List.mem_append_right _ h)))
  have f21 : (Cond.fieldLink RX3 21 "GlassBooths" "search" "LGlassBooths$Search;").before args s = true := hts _ (by decide +kernel)
  have f71 : (Cond.fieldLinkNest RX3 71 "GlassBooths$Search" "found" "I" "GlassBooths").before args s = true := va_Nw.use rfl (hN _ (List.mem_of_getElem? (i := 7) rfl))
  have hw := h_X3_whole n se wo fO wI so sd ti on he il kn sp py bo os fl wa fo sb lp fm pn tr fs sk ct nt a1 hn   
  unfold v_X3_whole_0 at hw
  refine lv_iload_n hx hb dX3_whole_0 rfl (lv_at hl 1 rfl) ?_
  refine zc_i0 (va_runS (As := [.int a1]) (rest := []) ⟨hx, hb, hml, hown, hts⟩ ((c_X3_isSession l D cI cZ a1  ) H.size) (va_cwS 1 hts gX3_whole_X3_isSession rfl rfl rfl (by decide +kernel) ⟨Nat.le_of_ble_eq_true rfl, Nat.le_of_ble_eq_true rfl⟩) (ps_of hK hN hP hD [] rfl rfl) rfl rfl hl.1 rfl (lv_room (Nat.le_of_ble_eq_true rfl)) dX3_whole_1 ⟨Nat.zero_le _, Nat.zero_le _⟩) hP hD hS hA (fun r u H locs hu hP hD hS => ?_)
  subst hu
  refine lv_if_ne (tgt := 10) hx hb dX3_whole_4 (by decide) (fun hc => ?_) (fun hc => ?_)
  · replace hw := hw.2 hc
    refine lv_aload_n hx hb dX3_whole_10 rfl (lv_at hl 0 rfl) ?_
    refine lv_iload_n hx hb dX3_whole_11 rfl (lv_at hl 1 rfl) ?_
    refine zc_v (fun u => (wM cI q se wo fO wI ++ wS cI q u.1 u.2.1 u.2.2.1 u.2.2.2.1 u.2.2.2.2.1 u.2.2.2.2.2.1 u.2.2.2.2.2.2.1 u.2.2.2.2.2.2.2.1 u.2.2.2.2.2.2.2.2.1 u.2.2.2.2.2.2.2.2.2.1 u.2.2.2.2.2.2.2.2.2.2.1 u.2.2.2.2.2.2.2.2.2.2.2.1 u.2.2.2.2.2.2.2.2.2.2.2.2 ++ wD cI q so sd ti on he ++ wP cI q (nI n) il kn sp py bo)) [0, 1, 2, 3, 4, 5, 6, 7, 8, 9, 10, 11, 12, 13, 14, 15, 16, 17, 18, 19] [] [0, 1, 2, 3, 4, 5, 6, 7, 8, 9, 10, 11, 12, 13, 14, 15, 16, 17, 18, 19] (va_runV (As := [.int a1]) (rest := []) ⟨hx, hb, hml, hown, hts⟩ ((c_X3_searchTeams l D cI cZ q se wo fO wI os fl wa fo sb lp fm pn tr fs sk ct nt so sd ti on he n il kn sp py bo a1 hn ) H.size) (cwV 1 hts gX3_whole_X3_searchTeams rfl rfl rfl (by decide +kernel) ⟨by show 100 + 1 ≤ 110; omega, by show 8 + (2 + 11) + (2400) ≤ 2600; omega⟩) (pv_of hK hN hP hD [0, 1, 2, 3, 4, 5, 6, 7, 8, 9, 10, 11, 12, 13, 14, 15, 16, 17, 18, 19] rfl rfl 3 0 rfl rfl) rfl rfl hl.1 rfl (lv_room (Nat.le_of_ble_eq_true rfl)) dX3_whole_12 ⟨Nat.zero_le _, Nat.zero_le _⟩) hP hD hS hA rfl rfl rfl (by decide) (fun _ => rfl) rfl (fun u12 H locs hu hP hD hS => ?_)
    replace hw := hw u12 hu
    have hP : va_P D vwCl (wM cI q se wo fO wI ++ wS cI q u12.1 u12.2.1 u12.2.2.1 u12.2.2.2.1 u12.2.2.2.2.1 u12.2.2.2.2.2.1 u12.2.2.2.2.2.2.1 u12.2.2.2.2.2.2.2.1 u12.2.2.2.2.2.2.2.2.1 u12.2.2.2.2.2.2.2.2.2.1 u12.2.2.2.2.2.2.2.2.2.2.1 u12.2.2.2.2.2.2.2.2.2.2.2.1 u12.2.2.2.2.2.2.2.2.2.2.2.2 ++ wD cI q so sd ti on he ++ wP cI q (nI n) il kn sp py bo) H := hP
    have hD : va_D A (wM cI q se wo fO wI ++ wS cI q u12.1 u12.2.1 u12.2.2.1 u12.2.2.2.1 u12.2.2.2.2.1 u12.2.2.2.2.2.1 u12.2.2.2.2.2.2.1 u12.2.2.2.2.2.2.2.1 u12.2.2.2.2.2.2.2.2.1 u12.2.2.2.2.2.2.2.2.2.1 u12.2.2.2.2.2.2.2.2.2.2.1 u12.2.2.2.2.2.2.2.2.2.2.2.1 u12.2.2.2.2.2.2.2.2.2.2.2.2 ++ wD cI q so sd ti on he ++ wP cI q (nI n) il kn sp py bo) := hD
    refine lv_aload_n hx hb dX3_whole_15 rfl (lv_at hl 0 rfl) ?_
    refine va_get (D := D) (ci := 3) (v := .ref (q 5)) (C := RX3) (T := TX3) (N := 7) hx hb hts hin3 hown hK hP 0 rfl rfl 1 (by decide) f21 (fun _ h9 => h9) rfl dX3_whole_16 ?_
    refine va_getN (D := D) (ci := 2) (v := .int u12.2.2.2.1) (C := RX2) (T := TX2) (N := 14) hx hb hts hin2 hown hK hP 3 rfl rfl 9 (by decide) f71 (fun _ h9 => h9) rfl dX3_whole_19 ?_
    exact hret _ (u12.1, u12.2.1, u12.2.2.1, u12.2.2.2.1, u12.2.2.2.2.1, u12.2.2.2.2.2.1, u12.2.2.2.2.2.2.1, u12.2.2.2.2.2.2.2.1, u12.2.2.2.2.2.2.2.2.1, u12.2.2.2.2.2.2.2.2.2.1, u12.2.2.2.2.2.2.2.2.2.2.1, u12.2.2.2.2.2.2.2.2.2.2.2.1, u12.2.2.2.2.2.2.2.2.2.2.2.2) _ _ _ _ hw rfl hP hD hS dX3_whole_22
  · replace hw := hw.1 hc
    refine lv_bipush (v := (-2 : Int32)) hx hb dX3_whole_7 (by decide) ?_
    exact hret _ (os, fl, wa, fo, sb, lp, fm, pn, tr, fs, sk, ct, nt) _ _ _ _ hw rfl hP hD hS dX3_whole_9
set_option maxHeartbeats 4000000 in
set_option maxRecDepth 100000 in
theorem c_X3_cheapest (l : Launch) (D : va_G) (cI cZ : ClassId) (q : Nat → Nat) (se : Int32) (wo : Int32) (fO : Nat → Int32) (wI : Nat → Int32) (os : Int32) (fl : Int32) (wa : Int32) (fo : Int32) (sb : Int32) (lp : Int32) (fm : Int32) (pn : Int32) (tr : Nat → Int32) (fs : Nat → Int32) (sk : Nat → Int32) (ct : Nat → Int32) (nt : Nat → Int32) (so : Nat → Int32) (sd : Nat → Int32) (ti : Nat → Int32) (on : Nat → Int32) (he : Nat → Int32) (n : Nat) (il : Int32) (kn : Nat → Int32) (sp : Nat → Int32) (py : Nat → Int32) (bo : Nat → Int32) (a1 : Int32) (hn : n ≤ 6) : MI l yX3_cheapest wsX3_cheapest ({ frames := 110, cells := 0, slots := 0, locals := 2600 }) D cI cZ [.ref (q 17), .int a1] (wM cI q se wo fO wI ++ wS cI q os fl wa fo sb lp fm pn tr fs sk ct nt ++ wD cI q so sd ti on he ++ wP cI q (nI n) il kn sp py bo) (fun u : Int32 × Int32 × Int32 × Int32 × Int32 × Int32 × Int32 × Int32 × (Nat → Int32) × (Nat → Int32) × (Nat → Int32) × (Nat → Int32) × (Nat → Int32) => (wM cI q se wo fO wI ++ wS cI q u.1 u.2.1 u.2.2.1 u.2.2.2.1 u.2.2.2.2.1 u.2.2.2.2.2.1 u.2.2.2.2.2.2.1 u.2.2.2.2.2.2.2.1 u.2.2.2.2.2.2.2.2.1 u.2.2.2.2.2.2.2.2.2.1 u.2.2.2.2.2.2.2.2.2.2.1 u.2.2.2.2.2.2.2.2.2.2.2.1 u.2.2.2.2.2.2.2.2.2.2.2.2 ++ wD cI q so sd ti on he ++ wP cI q (nI n) il kn sp py bo)) (fun r u => r = (if inB a1 2 = true then (stF n il kn sp py bo fO wI se a1 (os, fl, wa, fo, sb, lp, fm, pn, tr, fs, sk, ct, nt)).2.2.2.2.2.1 else (-2)) ∧ u = stF n il kn sp py bo fO wI se a1 (os, fl, wa, fo, sb, lp, fm, pn, tr, fs, sk, ct, nt)) := by
  refine MI_of (cc := cX3_cheapest) (maxL := 2) (ty := .int) (by decide) rfl (Nat.le_of_ble_eq_true rfl) (fun p e s m args below meth c A Q hx hb hml hown hts hK hN hA hret H locs ls hl hP hD hS => ?_)
  have hown : s.vm.findClass RX3 = some m.cls := hown
  have hl : lv_has ls 2 [(0, .ref (q 17)), (1, .int a1)] := hl
  have hin2 : ∀ w ∈ u_ws RX2 TX2 14, w ∈ wsX3_cheapest := fun w h => List.mem_cons_of_mem _ (List.mem_append_left _ (List.mem_append_right _ h))
  have hin3 : ∀ w ∈ u_ws RX3 TX3 7, w ∈ wsX3_cheapest := fun w h => List.mem_cons_of_mem _ (List.mem_append_left _ (List.mem_append_left _ (List.mem_append_right _ h)))
  have f21 : (Cond.fieldLink RX3 21 "GlassBooths" "search" "LGlassBooths$Search;").before args s = true := hts _ (by decide +kernel)
  have f74 : (Cond.fieldLinkNest RX3 74 "GlassBooths$Search" "leastPay" "I" "GlassBooths").before args s = true := va_Nw.use rfl (hN _ (List.mem_of_getElem? (i := 9) rfl))
  have hw := h_X3_cheapest n se wo fO wI so sd ti on he il kn sp py bo os fl wa fo sb lp fm pn tr fs sk ct nt a1 hn   
  unfold v_X3_cheapest_0 at hw
  refine lv_iload_n hx hb dX3_cheapest_0 rfl (lv_at hl 1 rfl) ?_
  refine zc_i0 (va_runS (As := [.int a1]) (rest := []) ⟨hx, hb, hml, hown, hts⟩ ((c_X3_isSession l D cI cZ a1  ) H.size) (va_cwS 1 hts gX3_cheapest_X3_isSession rfl rfl rfl (by decide +kernel) ⟨Nat.le_of_ble_eq_true rfl, Nat.le_of_ble_eq_true rfl⟩) (ps_of hK hN hP hD [] rfl rfl) rfl rfl hl.1 rfl (lv_room (Nat.le_of_ble_eq_true rfl)) dX3_cheapest_1 ⟨Nat.zero_le _, Nat.zero_le _⟩) hP hD hS hA (fun r u H locs hu hP hD hS => ?_)
  subst hu
  refine lv_if_ne (tgt := 10) hx hb dX3_cheapest_4 (by decide) (fun hc => ?_) (fun hc => ?_)
  · replace hw := hw.2 hc
    refine lv_aload_n hx hb dX3_cheapest_10 rfl (lv_at hl 0 rfl) ?_
    refine lv_iload_n hx hb dX3_cheapest_11 rfl (lv_at hl 1 rfl) ?_
    refine zc_v (fun u => (wM cI q se wo fO wI ++ wS cI q u.1 u.2.1 u.2.2.1 u.2.2.2.1 u.2.2.2.2.1 u.2.2.2.2.2.1 u.2.2.2.2.2.2.1 u.2.2.2.2.2.2.2.1 u.2.2.2.2.2.2.2.2.1 u.2.2.2.2.2.2.2.2.2.1 u.2.2.2.2.2.2.2.2.2.2.1 u.2.2.2.2.2.2.2.2.2.2.2.1 u.2.2.2.2.2.2.2.2.2.2.2.2 ++ wD cI q so sd ti on he ++ wP cI q (nI n) il kn sp py bo)) [0, 1, 2, 3, 4, 5, 6, 7, 8, 9, 10, 11, 12, 13, 14, 15, 16, 17, 18, 19] [] [0, 1, 2, 3, 4, 5, 6, 7, 8, 9, 10, 11, 12, 13, 14, 15, 16, 17, 18, 19] (va_runV (As := [.int a1]) (rest := []) ⟨hx, hb, hml, hown, hts⟩ ((c_X3_searchTeams l D cI cZ q se wo fO wI os fl wa fo sb lp fm pn tr fs sk ct nt so sd ti on he n il kn sp py bo a1 hn ) H.size) (cwV 1 hts gX3_cheapest_X3_searchTeams rfl rfl rfl (by decide +kernel) ⟨by show 100 + 1 ≤ 110; omega, by show 8 + (2 + 11) + (2400) ≤ 2600; omega⟩) (pv_of hK hN hP hD [0, 1, 2, 3, 4, 5, 6, 7, 8, 9, 10, 11, 12, 13, 14, 15, 16, 17, 18, 19] rfl rfl 3 0 rfl rfl) rfl rfl hl.1 rfl (lv_room (Nat.le_of_ble_eq_true rfl)) dX3_cheapest_12 ⟨Nat.zero_le _, Nat.zero_le _⟩) hP hD hS hA rfl rfl rfl (by decide) (fun _ => rfl) rfl (fun u12 H locs hu hP hD hS => ?_)
    replace hw := hw u12 hu
    have hP : va_P D vwCl (wM cI q se wo fO wI ++ wS cI q u12.1 u12.2.1 u12.2.2.1 u12.2.2.2.1 u12.2.2.2.2.1 u12.2.2.2.2.2.1 u12.2.2.2.2.2.2.1 u12.2.2.2.2.2.2.2.1 u12.2.2.2.2.2.2.2.2.1 u12.2.2.2.2.2.2.2.2.2.1 u12.2.2.2.2.2.2.2.2.2.2.1 u12.2.2.2.2.2.2.2.2.2.2.2.1 u12.2.2.2.2.2.2.2.2.2.2.2.2 ++ wD cI q so sd ti on he ++ wP cI q (nI n) il kn sp py bo) H := hP
    have hD : va_D A (wM cI q se wo fO wI ++ wS cI q u12.1 u12.2.1 u12.2.2.1 u12.2.2.2.1 u12.2.2.2.2.1 u12.2.2.2.2.2.1 u12.2.2.2.2.2.2.1 u12.2.2.2.2.2.2.2.1 u12.2.2.2.2.2.2.2.2.1 u12.2.2.2.2.2.2.2.2.2.1 u12.2.2.2.2.2.2.2.2.2.2.1 u12.2.2.2.2.2.2.2.2.2.2.2.1 u12.2.2.2.2.2.2.2.2.2.2.2.2 ++ wD cI q so sd ti on he ++ wP cI q (nI n) il kn sp py bo) := hD
    refine lv_aload_n hx hb dX3_cheapest_15 rfl (lv_at hl 0 rfl) ?_
    refine va_get (D := D) (ci := 3) (v := .ref (q 5)) (C := RX3) (T := TX3) (N := 7) hx hb hts hin3 hown hK hP 0 rfl rfl 1 (by decide) f21 (fun _ h9 => h9) rfl dX3_cheapest_16 ?_
    refine va_getN (D := D) (ci := 2) (v := .int u12.2.2.2.2.2.1) (C := RX2) (T := TX2) (N := 14) hx hb hts hin2 hown hK hP 3 rfl rfl 11 (by decide) f74 (fun _ h9 => h9) rfl dX3_cheapest_19 ?_
    exact hret _ (u12.1, u12.2.1, u12.2.2.1, u12.2.2.2.1, u12.2.2.2.2.1, u12.2.2.2.2.2.1, u12.2.2.2.2.2.2.1, u12.2.2.2.2.2.2.2.1, u12.2.2.2.2.2.2.2.2.1, u12.2.2.2.2.2.2.2.2.2.1, u12.2.2.2.2.2.2.2.2.2.2.1, u12.2.2.2.2.2.2.2.2.2.2.2.1, u12.2.2.2.2.2.2.2.2.2.2.2.2) _ _ _ _ hw rfl hP hD hS dX3_cheapest_22
  · replace hw := hw.1 hc
    refine lv_bipush (v := (-2 : Int32)) hx hb dX3_cheapest_7 (by decide) ?_
    exact hret _ (os, fl, wa, fo, sb, lp, fm, pn, tr, fs, sk, ct, nt) _ _ _ _ hw rfl hP hD hS dX3_cheapest_9
set_option maxHeartbeats 4000000 in
set_option maxRecDepth 100000 in
theorem c_X3_nearest (l : Launch) (D : va_G) (cI cZ : ClassId) (q : Nat → Nat) (se : Int32) (wo : Int32) (fO : Nat → Int32) (wI : Nat → Int32) (os : Int32) (fl : Int32) (wa : Int32) (fo : Int32) (sb : Int32) (lp : Int32) (fm : Int32) (pn : Int32) (tr : Nat → Int32) (fs : Nat → Int32) (sk : Nat → Int32) (ct : Nat → Int32) (nt : Nat → Int32) (so : Nat → Int32) (sd : Nat → Int32) (ti : Nat → Int32) (on : Nat → Int32) (he : Nat → Int32) (n : Nat) (il : Int32) (kn : Nat → Int32) (sp : Nat → Int32) (py : Nat → Int32) (bo : Nat → Int32) (a1 : Int32) (hn : n ≤ 6) : MI l yX3_nearest wsX3_nearest ({ frames := 110, cells := 0, slots := 0, locals := 2600 }) D cI cZ [.ref (q 17), .int a1] (wM cI q se wo fO wI ++ wS cI q os fl wa fo sb lp fm pn tr fs sk ct nt ++ wD cI q so sd ti on he ++ wP cI q (nI n) il kn sp py bo) (fun u : Int32 × Int32 × Int32 × Int32 × Int32 × Int32 × Int32 × Int32 × (Nat → Int32) × (Nat → Int32) × (Nat → Int32) × (Nat → Int32) × (Nat → Int32) => (wM cI q se wo fO wI ++ wS cI q u.1 u.2.1 u.2.2.1 u.2.2.2.1 u.2.2.2.2.1 u.2.2.2.2.2.1 u.2.2.2.2.2.2.1 u.2.2.2.2.2.2.2.1 u.2.2.2.2.2.2.2.2.1 u.2.2.2.2.2.2.2.2.2.1 u.2.2.2.2.2.2.2.2.2.2.1 u.2.2.2.2.2.2.2.2.2.2.2.1 u.2.2.2.2.2.2.2.2.2.2.2.2 ++ wD cI q so sd ti on he ++ wP cI q (nI n) il kn sp py bo)) (fun r u => r = (if inB a1 2 = true then (stF n il kn sp py bo fO wI se a1 (os, fl, wa, fo, sb, lp, fm, pn, tr, fs, sk, ct, nt)).2.2.2.2.2.2.1 else (-2)) ∧ u = stF n il kn sp py bo fO wI se a1 (os, fl, wa, fo, sb, lp, fm, pn, tr, fs, sk, ct, nt)) := by
  refine MI_of (cc := cX3_nearest) (maxL := 2) (ty := .int) (by decide) rfl (Nat.le_of_ble_eq_true rfl) (fun p e s m args below meth c A Q hx hb hml hown hts hK hN hA hret H locs ls hl hP hD hS => ?_)
  have hown : s.vm.findClass RX3 = some m.cls := hown
  have hl : lv_has ls 2 [(0, .ref (q 17)), (1, .int a1)] := hl
  have hin2 : ∀ w ∈ u_ws RX2 TX2 14, w ∈ wsX3_nearest := fun w h => List.mem_cons_of_mem _ (List.mem_append_left _ (List.mem_append_right _ h))
  have hin3 : ∀ w ∈ u_ws RX3 TX3 7, w ∈ wsX3_nearest := fun w h => List.mem_cons_of_mem _ (List.mem_append_left _ (List.mem_append_left _ (List.mem_append_right _ h)))
  have f21 : (Cond.fieldLink RX3 21 "GlassBooths" "search" "LGlassBooths$Search;").before args s = true := hts _ (by decide +kernel)
  have f77 : (Cond.fieldLinkNest RX3 77 "GlassBooths$Search" "fewestMoved" "I" "GlassBooths").before args s = true := va_Nw.use rfl (hN _ (List.mem_of_getElem? (i := 10) rfl))
  have hw := h_X3_nearest n se wo fO wI so sd ti on he il kn sp py bo os fl wa fo sb lp fm pn tr fs sk ct nt a1 hn   
  unfold v_X3_nearest_0 at hw
  refine lv_iload_n hx hb dX3_nearest_0 rfl (lv_at hl 1 rfl) ?_
  refine zc_i0 (va_runS (As := [.int a1]) (rest := []) ⟨hx, hb, hml, hown, hts⟩ ((c_X3_isSession l D cI cZ a1  ) H.size) (va_cwS 1 hts gX3_nearest_X3_isSession rfl rfl rfl (by decide +kernel) ⟨Nat.le_of_ble_eq_true rfl, Nat.le_of_ble_eq_true rfl⟩) (ps_of hK hN hP hD [] rfl rfl) rfl rfl hl.1 rfl (lv_room (Nat.le_of_ble_eq_true rfl)) dX3_nearest_1 ⟨Nat.zero_le _, Nat.zero_le _⟩) hP hD hS hA (fun r u H locs hu hP hD hS => ?_)
  subst hu
  refine lv_if_ne (tgt := 10) hx hb dX3_nearest_4 (by decide) (fun hc => ?_) (fun hc => ?_)
  · replace hw := hw.2 hc
    refine lv_aload_n hx hb dX3_nearest_10 rfl (lv_at hl 0 rfl) ?_
    refine lv_iload_n hx hb dX3_nearest_11 rfl (lv_at hl 1 rfl) ?_
    refine zc_v (fun u => (wM cI q se wo fO wI ++ wS cI q u.1 u.2.1 u.2.2.1 u.2.2.2.1 u.2.2.2.2.1 u.2.2.2.2.2.1 u.2.2.2.2.2.2.1 u.2.2.2.2.2.2.2.1 u.2.2.2.2.2.2.2.2.1 u.2.2.2.2.2.2.2.2.2.1 u.2.2.2.2.2.2.2.2.2.2.1 u.2.2.2.2.2.2.2.2.2.2.2.1 u.2.2.2.2.2.2.2.2.2.2.2.2 ++ wD cI q so sd ti on he ++ wP cI q (nI n) il kn sp py bo)) [0, 1, 2, 3, 4, 5, 6, 7, 8, 9, 10, 11, 12, 13, 14, 15, 16, 17, 18, 19] [] [0, 1, 2, 3, 4, 5, 6, 7, 8, 9, 10, 11, 12, 13, 14, 15, 16, 17, 18, 19] (va_runV (As := [.int a1]) (rest := []) ⟨hx, hb, hml, hown, hts⟩ ((c_X3_searchTeams l D cI cZ q se wo fO wI os fl wa fo sb lp fm pn tr fs sk ct nt so sd ti on he n il kn sp py bo a1 hn ) H.size) (cwV 1 hts gX3_nearest_X3_searchTeams rfl rfl rfl (by decide +kernel) ⟨by show 100 + 1 ≤ 110; omega, by show 8 + (2 + 11) + (2400) ≤ 2600; omega⟩) (pv_of hK hN hP hD [0, 1, 2, 3, 4, 5, 6, 7, 8, 9, 10, 11, 12, 13, 14, 15, 16, 17, 18, 19] rfl rfl 3 0 rfl rfl) rfl rfl hl.1 rfl (lv_room (Nat.le_of_ble_eq_true rfl)) dX3_nearest_12 ⟨Nat.zero_le _, Nat.zero_le _⟩) hP hD hS hA rfl rfl rfl (by decide) (fun _ => rfl) rfl (fun u12 H locs hu hP hD hS => ?_)
    replace hw := hw u12 hu
    have hP : va_P D vwCl (wM cI q se wo fO wI ++ wS cI q u12.1 u12.2.1 u12.2.2.1 u12.2.2.2.1 u12.2.2.2.2.1 u12.2.2.2.2.2.1 u12.2.2.2.2.2.2.1 u12.2.2.2.2.2.2.2.1 u12.2.2.2.2.2.2.2.2.1 u12.2.2.2.2.2.2.2.2.2.1 u12.2.2.2.2.2.2.2.2.2.2.1 u12.2.2.2.2.2.2.2.2.2.2.2.1 u12.2.2.2.2.2.2.2.2.2.2.2.2 ++ wD cI q so sd ti on he ++ wP cI q (nI n) il kn sp py bo) H := hP
    have hD : va_D A (wM cI q se wo fO wI ++ wS cI q u12.1 u12.2.1 u12.2.2.1 u12.2.2.2.1 u12.2.2.2.2.1 u12.2.2.2.2.2.1 u12.2.2.2.2.2.2.1 u12.2.2.2.2.2.2.2.1 u12.2.2.2.2.2.2.2.2.1 u12.2.2.2.2.2.2.2.2.2.1 u12.2.2.2.2.2.2.2.2.2.2.1 u12.2.2.2.2.2.2.2.2.2.2.2.1 u12.2.2.2.2.2.2.2.2.2.2.2.2 ++ wD cI q so sd ti on he ++ wP cI q (nI n) il kn sp py bo) := hD
    refine lv_aload_n hx hb dX3_nearest_15 rfl (lv_at hl 0 rfl) ?_
    refine va_get (D := D) (ci := 3) (v := .ref (q 5)) (C := RX3) (T := TX3) (N := 7) hx hb hts hin3 hown hK hP 0 rfl rfl 1 (by decide) f21 (fun _ h9 => h9) rfl dX3_nearest_16 ?_
    refine va_getN (D := D) (ci := 2) (v := .int u12.2.2.2.2.2.2.1) (C := RX2) (T := TX2) (N := 14) hx hb hts hin2 hown hK hP 3 rfl rfl 12 (by decide) f77 (fun _ h9 => h9) rfl dX3_nearest_19 ?_
    exact hret _ (u12.1, u12.2.1, u12.2.2.1, u12.2.2.2.1, u12.2.2.2.2.1, u12.2.2.2.2.2.1, u12.2.2.2.2.2.2.1, u12.2.2.2.2.2.2.2.1, u12.2.2.2.2.2.2.2.2.1, u12.2.2.2.2.2.2.2.2.2.1, u12.2.2.2.2.2.2.2.2.2.2.1, u12.2.2.2.2.2.2.2.2.2.2.2.1, u12.2.2.2.2.2.2.2.2.2.2.2.2) _ _ _ _ hw rfl hP hD hS dX3_nearest_22
  · replace hw := hw.1 hc
    refine lv_bipush (v := (-2 : Int32)) hx hb dX3_nearest_7 (by decide) ?_
    exact hret _ (os, fl, wa, fo, sb, lp, fm, pn, tr, fs, sk, ct, nt) _ _ _ _ hw rfl hP hD hS dX3_nearest_9
set_option maxHeartbeats 4000000 in
set_option maxRecDepth 100000 in
theorem c_X3_take (l : Launch) (D : va_G) (cI cZ : ClassId) (q : Nat → Nat) (se : Int32) (wo : Int32) (fO : Nat → Int32) (wI : Nat → Int32) (os : Int32) (fl : Int32) (wa : Int32) (fo : Int32) (sb : Int32) (lp : Int32) (fm : Int32) (pn : Int32) (tr : Nat → Int32) (fs : Nat → Int32) (sk : Nat → Int32) (ct : Nat → Int32) (nt : Nat → Int32) (so : Nat → Int32) (sd : Nat → Int32) (ti : Nat → Int32) (on : Nat → Int32) (he : Nat → Int32) (n : Nat) (il : Int32) (kn : Nat → Int32) (sp : Nat → Int32) (py : Nat → Int32) (bo : Nat → Int32) (a1 : Int32) (a2 : Int32) (hn : n ≤ 6) : MI l yX3_take wsX3_take ({ frames := 110, cells := 0, slots := 0, locals := 2600 }) D cI cZ [.ref (q 17), .int a1, .int a2] (wM cI q se wo fO wI ++ wS cI q os fl wa fo sb lp fm pn tr fs sk ct nt ++ wD cI q so sd ti on he ++ wP cI q (nI n) il kn sp py bo) (fun u : Int32 × Int32 × Int32 × Int32 × Int32 × Int32 × Int32 × Int32 × (Nat → Int32) × (Nat → Int32) × (Nat → Int32) × (Nat → Int32) × (Nat → Int32) × (Nat → Int32) => (wM cI q se wo fO wI ++ wS cI q u.1 u.2.1 u.2.2.1 u.2.2.2.1 u.2.2.2.2.1 u.2.2.2.2.2.1 u.2.2.2.2.2.2.1 u.2.2.2.2.2.2.2.1 u.2.2.2.2.2.2.2.2.1 u.2.2.2.2.2.2.2.2.2.1 u.2.2.2.2.2.2.2.2.2.2.1 u.2.2.2.2.2.2.2.2.2.2.2.1 u.2.2.2.2.2.2.2.2.2.2.2.2.1 ++ wD cI q so sd ti on he ++ wP cI q (nI n) il kn sp py u.2.2.2.2.2.2.2.2.2.2.2.2.2)) (fun r u => r = tkR a1 a2 (stF n il kn sp py bo fO wI se a1 (os, fl, wa, fo, sb, lp, fm, pn, tr, fs, sk, ct, nt)) ∧ u = tkF a1 a2 (stF n il kn sp py bo fO wI se a1 (os, fl, wa, fo, sb, lp, fm, pn, tr, fs, sk, ct, nt)) (os, fl, wa, fo, sb, lp, fm, pn, tr, fs, sk, ct, nt) bo) := by
  refine MI_of (cc := cX3_take) (maxL := 3) (ty := .int) (by decide) rfl (Nat.le_of_ble_eq_true rfl) (fun p e s m args below meth c A Q hx hb hml hown hts hK hN hA hret H locs ls hl hP hD hS => ?_)
  have hown : s.vm.findClass RX3 = some m.cls := hown
  have hl : lv_has ls 3 [(0, .ref (q 17)), (1, .int a1), (2, .int a2)] := hl
  have hin2 : ∀ w ∈ u_ws RX2 TX2 14, w ∈ wsX3_take := fun w h => List.mem_cons_of_mem _ (List.mem_append_left _ (List.mem_append_right _ h))
  have hin3 : ∀ w ∈ u_ws RX3 TX3 7, w ∈ wsX3_take := fun w h => List.mem_cons_of_mem _ (List.mem_append_left _ (List.mem_append_left _ (List.mem_append_right _ h)))
  have f21 : (Cond.fieldLink RX3 21 "GlassBooths" "search" "LGlassBooths$Search;").before args s = true := hts _ (by decide +kernel)
  have f71 : (Cond.fieldLinkNest RX3 71 "GlassBooths$Search" "found" "I" "GlassBooths").before args s = true := va_Nw.use rfl (hN _ (List.mem_of_getElem? (i := 7) rfl))
  have f10 : (Cond.fieldLink RX3 10 "GlassBooths" "people" "LGlassBooths$People;").before args s = true := hts _ (by decide +kernel)
  have f87 : (Cond.fieldLinkNest RX3 87 "GlassBooths$Search" "nearestTeam" "[I" "GlassBooths").before args s = true := va_Nw.use rfl (hN _ (List.mem_of_getElem? (i := 6) rfl))
  have f90 : (Cond.fieldLinkNest RX3 90 "GlassBooths$Search" "payOfNearest" "I" "GlassBooths").before args s = true := va_Nw.use rfl (hN _ (List.mem_of_getElem? (i := 11) rfl))
  have f80 : (Cond.fieldLinkNest RX3 80 "GlassBooths$Search" "cheapestTeam" "[I" "GlassBooths").before args s = true := va_Nw.use rfl (hN _ (List.mem_of_getElem? (i := 5) rfl))
  have f74 : (Cond.fieldLinkNest RX3 74 "GlassBooths$Search" "leastPay" "I" "GlassBooths").before args s = true := va_Nw.use rfl (hN _ (List.mem_of_getElem? (i := 9) rfl))
  have J22 : ∀ x1 x2 os_ fl_ wa_ fo_ sb_ lp_ fm_ pn_ tr_ fs_ sk_ ct_ nt_ bo_, v_X3_take_22 n se wo fO wI so sd ti on he il kn sp py (fun r u => r = tkR a1 a2 (stF n il kn sp py bo fO wI se a1 (os, fl, wa, fo, sb, lp, fm, pn, tr, fs, sk, ct, nt)) ∧ u = tkF a1 a2 (stF n il kn sp py bo fO wI se a1 (os, fl, wa, fo, sb, lp, fm, pn, tr, fs, sk, ct, nt)) (os, fl, wa, fo, sb, lp, fm, pn, tr, fs, sk, ct, nt) bo)  x1 x2 os_ fl_ wa_ fo_ sb_ lp_ fm_ pn_ tr_ fs_ sk_ ct_ nt_ bo_ → ∀ (H : Heap) (locs : List Loc) (ls : Array Slot), lv_has ls 3 [(0, .ref (q 17)), (1, .int x1), (2, .int x2)] → va_P D vwCl (wM cI q se wo fO wI ++ wS cI q os_ fl_ wa_ fo_ sb_ lp_ fm_ pn_ tr_ fs_ sk_ ct_ nt_ ++ wD cI q so sd ti on he ++ wP cI q (nI n) il kn sp py bo_) H → va_D A (wM cI q se wo fO wI ++ wS cI q os_ fl_ wa_ fo_ sb_ lp_ fm_ pn_ tr_ fs_ sk_ ct_ nt_ ++ wD cI q so sd ti on he ++ wP cI q (nI n) il kn sp py bo_) → va_S A s.heap H locs → W p l e (headSpec wsX3_take ({ frames := 110, cells := 0, slots := 0, locals := 2600 })).room s m args below meth c H locs 0 0 Q (F0 m 22 ls []) := by
    intro x1 x2 os_ fl_ wa_ fo_ sb_ lp_ fm_ pn_ tr_ fs_ sk_ ct_ nt_ bo_ hw
    intro H locs ls hl hP hD hS
    unfold v_X3_take_22 at hw
    refine lv_aload_n hx hb dX3_take_22 rfl (lv_at hl 0 rfl) ?_
    refine lv_iload_n hx hb dX3_take_23 rfl (lv_at hl 1 rfl) ?_
    refine zc_v (fun u => (wM cI q se wo fO wI ++ wS cI q u.1 u.2.1 u.2.2.1 u.2.2.2.1 u.2.2.2.2.1 u.2.2.2.2.2.1 u.2.2.2.2.2.2.1 u.2.2.2.2.2.2.2.1 u.2.2.2.2.2.2.2.2.1 u.2.2.2.2.2.2.2.2.2.1 u.2.2.2.2.2.2.2.2.2.2.1 u.2.2.2.2.2.2.2.2.2.2.2.1 u.2.2.2.2.2.2.2.2.2.2.2.2 ++ wD cI q so sd ti on he ++ wP cI q (nI n) il kn sp py bo_)) [0, 1, 2, 3, 4, 5, 6, 7, 8, 9, 10, 11, 12, 13, 14, 15, 16, 17, 18, 19] [] [0, 1, 2, 3, 4, 5, 6, 7, 8, 9, 10, 11, 12, 13, 14, 15, 16, 17, 18, 19] (va_runV (As := [.int x1]) (rest := []) ⟨hx, hb, hml, hown, hts⟩ ((c_X3_searchTeams l D cI cZ q se wo fO wI os_ fl_ wa_ fo_ sb_ lp_ fm_ pn_ tr_ fs_ sk_ ct_ nt_ so sd ti on he n il kn sp py bo_ x1 hn ) H.size) (cwV 1 hts gX3_take_X3_searchTeams rfl rfl rfl (by decide +kernel) ⟨by show 100 + 1 ≤ 110; omega, by show 8 + (2 + 11) + (2400) ≤ 2600; omega⟩) (pv_of hK hN hP hD [0, 1, 2, 3, 4, 5, 6, 7, 8, 9, 10, 11, 12, 13, 14, 15, 16, 17, 18, 19] rfl rfl 3 0 rfl rfl) rfl rfl hl.1 rfl (lv_room (Nat.le_of_ble_eq_true rfl)) dX3_take_24 ⟨Nat.zero_le _, Nat.zero_le _⟩) hP hD hS hA rfl rfl rfl (by decide) (fun _ => rfl) rfl (fun u24 H locs hu hP hD hS => ?_)
    replace hw := hw u24 hu
    have hP : va_P D vwCl (wM cI q se wo fO wI ++ wS cI q u24.1 u24.2.1 u24.2.2.1 u24.2.2.2.1 u24.2.2.2.2.1 u24.2.2.2.2.2.1 u24.2.2.2.2.2.2.1 u24.2.2.2.2.2.2.2.1 u24.2.2.2.2.2.2.2.2.1 u24.2.2.2.2.2.2.2.2.2.1 u24.2.2.2.2.2.2.2.2.2.2.1 u24.2.2.2.2.2.2.2.2.2.2.2.1 u24.2.2.2.2.2.2.2.2.2.2.2.2 ++ wD cI q so sd ti on he ++ wP cI q (nI n) il kn sp py bo_) H := hP
    have hD : va_D A (wM cI q se wo fO wI ++ wS cI q u24.1 u24.2.1 u24.2.2.1 u24.2.2.2.1 u24.2.2.2.2.1 u24.2.2.2.2.2.1 u24.2.2.2.2.2.2.1 u24.2.2.2.2.2.2.2.1 u24.2.2.2.2.2.2.2.2.1 u24.2.2.2.2.2.2.2.2.2.1 u24.2.2.2.2.2.2.2.2.2.2.1 u24.2.2.2.2.2.2.2.2.2.2.2.1 u24.2.2.2.2.2.2.2.2.2.2.2.2 ++ wD cI q so sd ti on he ++ wP cI q (nI n) il kn sp py bo_) := hD
    refine lv_aload_n hx hb dX3_take_27 rfl (lv_at hl 0 rfl) ?_
    refine va_get (D := D) (ci := 3) (v := .ref (q 5)) (C := RX3) (T := TX3) (N := 7) hx hb hts hin3 hown hK hP 0 rfl rfl 1 (by decide) f21 (fun _ h9 => h9) rfl dX3_take_28 ?_
    refine va_getN (D := D) (ci := 2) (v := .int u24.2.2.2.1) (C := RX2) (T := TX2) (N := 14) hx hb hts hin2 hown hK hP 3 rfl rfl 9 (by decide) f71 (fun _ h9 => h9) rfl dX3_take_31 ?_
    refine lv_if_ne (tgt := 40) hx hb dX3_take_34 (by decide) (fun hc => ?_) (fun hc => ?_)
    · replace hw := hw.2 hc
      refine lv_iload_n hx hb dX3_take_40 rfl (lv_at hl 2 rfl) ?_
      refine lv_if_ne (tgt := 66) hx hb dX3_take_41 (by decide) (fun hc => ?_) (fun hc => ?_)
      · replace hw := hw.2 hc
        refine lv_aload_n hx hb dX3_take_66 rfl (lv_at hl 0 rfl) ?_
        refine va_get (D := D) (ci := 3) (v := .ref (q 0)) (C := RX3) (T := TX3) (N := 7) hx hb hts hin3 hown hK hP 0 rfl rfl 0 (by decide) f10 (fun _ h9 => h9) rfl dX3_take_67 ?_
        refine lv_aload_n hx hb dX3_take_70 rfl (lv_at hl 0 rfl) ?_
        refine va_get (D := D) (ci := 3) (v := .ref (q 5)) (C := RX3) (T := TX3) (N := 7) hx hb hts hin3 hown hK hP 0 rfl rfl 1 (by decide) f21 (fun _ h9 => h9) rfl dX3_take_71 ?_
        refine va_getN (D := D) (ci := 2) (v := .ref (q 10)) (C := RX2) (T := TX2) (N := 14) hx hb hts hin2 hown hK hP 3 rfl rfl 5 (by decide) f87 (fun _ h9 => h9) rfl dX3_take_74 ?_
        refine zc_v (fun u => (wM cI q se wo fO wI ++ wS cI q u24.1 u24.2.1 u24.2.2.1 u24.2.2.2.1 u24.2.2.2.2.1 u24.2.2.2.2.2.1 u24.2.2.2.2.2.2.1 u24.2.2.2.2.2.2.2.1 u24.2.2.2.2.2.2.2.2.1 u24.2.2.2.2.2.2.2.2.2.1 u24.2.2.2.2.2.2.2.2.2.2.1 u24.2.2.2.2.2.2.2.2.2.2.2.1 u24.2.2.2.2.2.2.2.2.2.2.2.2 ++ wD cI q so sd ti on he ++ wP cI q (nI n) il kn sp py u)) [15, 16, 17, 18, 19, 8] [0, 1, 2, 3, 4, 5, 6, 7, 9, 10, 11, 12, 13, 14] [0, 1, 2, 3, 4, 5, 6, 7, 19, 8, 9, 10, 11, 12, 13, 14, 15, 16, 17, 18] (va_runV (As := [.ref (q 10)]) (rest := []) ⟨hx, hb, hml, hown, hts⟩ ((c_X1_seatAs l D cI cZ q n il kn sp py bo_ u24.2.2.2.2.2.2.2.2.2.2.2.2 (q 10) hn ) H.size) (cwV 1 hts gX3_take_X1_seatAs rfl rfl rfl (by decide +kernel) ⟨Nat.le_of_ble_eq_true rfl, Nat.le_of_ble_eq_true rfl⟩) (pv_of hK hN hP hD [15, 16, 17, 18, 19, 8] rfl rfl 1 0 rfl rfl) rfl rfl hl.1 rfl (lv_room (Nat.le_of_ble_eq_true rfl)) dX3_take_77 ⟨Nat.zero_le _, Nat.zero_le _⟩) hP hD hS hA rfl rfl rfl (by decide) (fun _ => rfl) rfl (fun u H locs hu hP hD hS => ?_)
        subst hu
        have hP : va_P D vwCl (wM cI q se wo fO wI ++ wS cI q u24.1 u24.2.1 u24.2.2.1 u24.2.2.2.1 u24.2.2.2.2.1 u24.2.2.2.2.2.1 u24.2.2.2.2.2.2.1 u24.2.2.2.2.2.2.2.1 u24.2.2.2.2.2.2.2.2.1 u24.2.2.2.2.2.2.2.2.2.1 u24.2.2.2.2.2.2.2.2.2.2.1 u24.2.2.2.2.2.2.2.2.2.2.2.1 u24.2.2.2.2.2.2.2.2.2.2.2.2 ++ wD cI q so sd ti on he ++ wP cI q (nI n) il kn sp py (va_cpy u24.2.2.2.2.2.2.2.2.2.2.2.2 bo_ 0 0 6)) H := hP
        have hD : va_D A (wM cI q se wo fO wI ++ wS cI q u24.1 u24.2.1 u24.2.2.1 u24.2.2.2.1 u24.2.2.2.2.1 u24.2.2.2.2.2.1 u24.2.2.2.2.2.2.1 u24.2.2.2.2.2.2.2.1 u24.2.2.2.2.2.2.2.2.1 u24.2.2.2.2.2.2.2.2.2.1 u24.2.2.2.2.2.2.2.2.2.2.1 u24.2.2.2.2.2.2.2.2.2.2.2.1 u24.2.2.2.2.2.2.2.2.2.2.2.2 ++ wD cI q so sd ti on he ++ wP cI q (nI n) il kn sp py (va_cpy u24.2.2.2.2.2.2.2.2.2.2.2.2 bo_ 0 0 6)) := hD
        refine lv_aload_n hx hb dX3_take_80 rfl (lv_at hl 0 rfl) ?_
        refine va_get (D := D) (ci := 3) (v := .ref (q 5)) (C := RX3) (T := TX3) (N := 7) hx hb hts hin3 hown hK hP 0 rfl rfl 1 (by decide) f21 (fun _ h9 => h9) rfl dX3_take_81 ?_
        refine va_getN (D := D) (ci := 2) (v := .int u24.2.2.2.2.2.2.2.1) (C := RX2) (T := TX2) (N := 14) hx hb hts hin2 hown hK hP 3 rfl rfl 13 (by decide) f90 (fun _ h9 => h9) rfl dX3_take_84 ?_
        exact hret _ (u24.1, u24.2.1, u24.2.2.1, u24.2.2.2.1, u24.2.2.2.2.1, u24.2.2.2.2.2.1, u24.2.2.2.2.2.2.1, u24.2.2.2.2.2.2.2.1, u24.2.2.2.2.2.2.2.2.1, u24.2.2.2.2.2.2.2.2.2.1, u24.2.2.2.2.2.2.2.2.2.2.1, u24.2.2.2.2.2.2.2.2.2.2.2.1, u24.2.2.2.2.2.2.2.2.2.2.2.2, va_cpy u24.2.2.2.2.2.2.2.2.2.2.2.2 bo_ 0 0 6) _ _ _ _ hw rfl hP hD hS dX3_take_87
      · replace hw := hw.1 hc
        refine lv_aload_n hx hb dX3_take_44 rfl (lv_at hl 0 rfl) ?_
        refine va_get (D := D) (ci := 3) (v := .ref (q 0)) (C := RX3) (T := TX3) (N := 7) hx hb hts hin3 hown hK hP 0 rfl rfl 0 (by decide) f10 (fun _ h9 => h9) rfl dX3_take_45 ?_
        refine lv_aload_n hx hb dX3_take_48 rfl (lv_at hl 0 rfl) ?_
        refine va_get (D := D) (ci := 3) (v := .ref (q 5)) (C := RX3) (T := TX3) (N := 7) hx hb hts hin3 hown hK hP 0 rfl rfl 1 (by decide) f21 (fun _ h9 => h9) rfl dX3_take_49 ?_
        refine va_getN (D := D) (ci := 2) (v := .ref (q 9)) (C := RX2) (T := TX2) (N := 14) hx hb hts hin2 hown hK hP 3 rfl rfl 4 (by decide) f80 (fun _ h9 => h9) rfl dX3_take_52 ?_
        refine zc_v (fun u => (wM cI q se wo fO wI ++ wS cI q u24.1 u24.2.1 u24.2.2.1 u24.2.2.2.1 u24.2.2.2.2.1 u24.2.2.2.2.2.1 u24.2.2.2.2.2.2.1 u24.2.2.2.2.2.2.2.1 u24.2.2.2.2.2.2.2.2.1 u24.2.2.2.2.2.2.2.2.2.1 u24.2.2.2.2.2.2.2.2.2.2.1 u24.2.2.2.2.2.2.2.2.2.2.2.1 u24.2.2.2.2.2.2.2.2.2.2.2.2 ++ wD cI q so sd ti on he ++ wP cI q (nI n) il kn sp py u)) [15, 16, 17, 18, 19, 7] [0, 1, 2, 3, 4, 5, 6, 8, 9, 10, 11, 12, 13, 14] [0, 1, 2, 3, 4, 5, 6, 19, 7, 8, 9, 10, 11, 12, 13, 14, 15, 16, 17, 18] (va_runV (As := [.ref (q 9)]) (rest := []) ⟨hx, hb, hml, hown, hts⟩ ((c_X1_seatAs l D cI cZ q n il kn sp py bo_ u24.2.2.2.2.2.2.2.2.2.2.2.1 (q 9) hn ) H.size) (cwV 1 hts gX3_take_X1_seatAs rfl rfl rfl (by decide +kernel) ⟨Nat.le_of_ble_eq_true rfl, Nat.le_of_ble_eq_true rfl⟩) (pv_of hK hN hP hD [15, 16, 17, 18, 19, 7] rfl rfl 1 0 rfl rfl) rfl rfl hl.1 rfl (lv_room (Nat.le_of_ble_eq_true rfl)) dX3_take_55 ⟨Nat.zero_le _, Nat.zero_le _⟩) hP hD hS hA rfl rfl rfl (by decide) (fun _ => rfl) rfl (fun u H locs hu hP hD hS => ?_)
        subst hu
        have hP : va_P D vwCl (wM cI q se wo fO wI ++ wS cI q u24.1 u24.2.1 u24.2.2.1 u24.2.2.2.1 u24.2.2.2.2.1 u24.2.2.2.2.2.1 u24.2.2.2.2.2.2.1 u24.2.2.2.2.2.2.2.1 u24.2.2.2.2.2.2.2.2.1 u24.2.2.2.2.2.2.2.2.2.1 u24.2.2.2.2.2.2.2.2.2.2.1 u24.2.2.2.2.2.2.2.2.2.2.2.1 u24.2.2.2.2.2.2.2.2.2.2.2.2 ++ wD cI q so sd ti on he ++ wP cI q (nI n) il kn sp py (va_cpy u24.2.2.2.2.2.2.2.2.2.2.2.1 bo_ 0 0 6)) H := hP
        have hD : va_D A (wM cI q se wo fO wI ++ wS cI q u24.1 u24.2.1 u24.2.2.1 u24.2.2.2.1 u24.2.2.2.2.1 u24.2.2.2.2.2.1 u24.2.2.2.2.2.2.1 u24.2.2.2.2.2.2.2.1 u24.2.2.2.2.2.2.2.2.1 u24.2.2.2.2.2.2.2.2.2.1 u24.2.2.2.2.2.2.2.2.2.2.1 u24.2.2.2.2.2.2.2.2.2.2.2.1 u24.2.2.2.2.2.2.2.2.2.2.2.2 ++ wD cI q so sd ti on he ++ wP cI q (nI n) il kn sp py (va_cpy u24.2.2.2.2.2.2.2.2.2.2.2.1 bo_ 0 0 6)) := hD
        refine lv_aload_n hx hb dX3_take_58 rfl (lv_at hl 0 rfl) ?_
        refine va_get (D := D) (ci := 3) (v := .ref (q 5)) (C := RX3) (T := TX3) (N := 7) hx hb hts hin3 hown hK hP 0 rfl rfl 1 (by decide) f21 (fun _ h9 => h9) rfl dX3_take_59 ?_
        refine va_getN (D := D) (ci := 2) (v := .int u24.2.2.2.2.2.1) (C := RX2) (T := TX2) (N := 14) hx hb hts hin2 hown hK hP 3 rfl rfl 11 (by decide) f74 (fun _ h9 => h9) rfl dX3_take_62 ?_
        exact hret _ (u24.1, u24.2.1, u24.2.2.1, u24.2.2.2.1, u24.2.2.2.2.1, u24.2.2.2.2.2.1, u24.2.2.2.2.2.2.1, u24.2.2.2.2.2.2.2.1, u24.2.2.2.2.2.2.2.2.1, u24.2.2.2.2.2.2.2.2.2.1, u24.2.2.2.2.2.2.2.2.2.2.1, u24.2.2.2.2.2.2.2.2.2.2.2.1, u24.2.2.2.2.2.2.2.2.2.2.2.2, va_cpy u24.2.2.2.2.2.2.2.2.2.2.2.1 bo_ 0 0 6) _ _ _ _ hw rfl hP hD hS dX3_take_65
    · replace hw := hw.1 hc
      refine lv_bipush (v := (-4 : Int32)) hx hb dX3_take_37 (by decide) ?_
      exact hret _ (u24.1, u24.2.1, u24.2.2.1, u24.2.2.2.1, u24.2.2.2.2.1, u24.2.2.2.2.2.1, u24.2.2.2.2.2.2.1, u24.2.2.2.2.2.2.2.1, u24.2.2.2.2.2.2.2.2.1, u24.2.2.2.2.2.2.2.2.2.1, u24.2.2.2.2.2.2.2.2.2.2.1, u24.2.2.2.2.2.2.2.2.2.2.2.1, u24.2.2.2.2.2.2.2.2.2.2.2.2, bo_) _ _ _ _ hw rfl hP hD hS dX3_take_39
  have hw := h_X3_take n se wo fO wI so sd ti on he il kn sp py os fl wa fo sb lp fm pn tr fs sk ct nt bo a1 a2 hn   
  unfold v_X3_take_0 at hw
  refine lv_iload_n hx hb dX3_take_0 rfl (lv_at hl 1 rfl) ?_
  refine zc_i0 (va_runS (As := [.int a1]) (rest := []) ⟨hx, hb, hml, hown, hts⟩ ((c_X3_isSession l D cI cZ a1  ) H.size) (va_cwS 1 hts gX3_take_X3_isSession rfl rfl rfl (by decide +kernel) ⟨Nat.le_of_ble_eq_true rfl, Nat.le_of_ble_eq_true rfl⟩) (ps_of hK hN hP hD [] rfl rfl) rfl rfl hl.1 rfl (lv_room (Nat.le_of_ble_eq_true rfl)) dX3_take_1 ⟨Nat.zero_le _, Nat.zero_le _⟩) hP hD hS hA (fun r u H locs hu hP hD hS => ?_)
  subst hu
  refine lv_if_ne (tgt := 10) hx hb dX3_take_4 (by decide) (fun hc => ?_) (fun hc => ?_)
  · replace hw := hw.2 hc
    refine lv_iload_n hx hb dX3_take_10 rfl (lv_at hl 2 rfl) ?_
    refine lv_if_eq (tgt := 22) hx hb dX3_take_11 (by decide) (fun hc => ?_) (fun hc => ?_)
    · replace hw := hw.1 hc
      exact J22 _ _ _ _ _ _ _ _ _ _ _ _ _ _ _ _ hw _ _ _ (lv_sub hl [0, 1, 2] rfl) hP hD hS
    · replace hw := hw.2 hc
      refine lv_iload_n hx hb dX3_take_14 rfl (lv_at hl 2 rfl) ?_
      refine lv_iconst (v := (1 : Int32)) hx hb dX3_take_15 (by decide) ?_
      refine lv_icmp_eq (tgt := 22) hx hb dX3_take_16 (by decide) (fun hc => ?_) (fun hc => ?_)
      · replace hw := hw.1 hc
        exact J22 _ _ _ _ _ _ _ _ _ _ _ _ _ _ _ _ hw _ _ _ (lv_sub hl [0, 1, 2] rfl) hP hD hS
      · replace hw := hw.2 hc
        refine lv_bipush (v := (-3 : Int32)) hx hb dX3_take_19 (by decide) ?_
        exact hret _ (os, fl, wa, fo, sb, lp, fm, pn, tr, fs, sk, ct, nt, bo) _ _ _ _ hw rfl hP hD hS dX3_take_21
  · replace hw := hw.1 hc
    refine lv_bipush (v := (-2 : Int32)) hx hb dX3_take_7 (by decide) ?_
    exact hret _ (os, fl, wa, fo, sb, lp, fm, pn, tr, fs, sk, ct, nt, bo) _ _ _ _ hw rfl hP hD hS dX3_take_9
set_option maxHeartbeats 4000000 in
set_option maxRecDepth 100000 in
theorem c_X3_leave (l : Launch) (D : va_G) (cI cZ : ClassId) (q : Nat → Nat) (se : Int32) (wo : Int32) (fO : Nat → Int32) (wI : Nat → Int32) (os : Int32) (fl : Int32) (wa : Int32) (fo : Int32) (sb : Int32) (lp : Int32) (fm : Int32) (pn : Int32) (tr : Nat → Int32) (fs : Nat → Int32) (sk : Nat → Int32) (ct : Nat → Int32) (nt : Nat → Int32) (so : Nat → Int32) (sd : Nat → Int32) (ti : Nat → Int32) (on : Nat → Int32) (he : Nat → Int32) (n : Nat) (il : Int32) (kn : Nat → Int32) (sp : Nat → Int32) (py : Nat → Int32) (bo : Nat → Int32) (hn : n ≤ 6) : MI l yX3_leave wsX3_leave ({ frames := 10, cells := 0, slots := 0, locals := 400 }) D cI cZ [.ref (q 17)] (wM cI q se wo fO wI ++ wS cI q os fl wa fo sb lp fm pn tr fs sk ct nt ++ wD cI q so sd ti on he ++ wP cI q (nI n) il kn sp py bo) (fun u : (Nat → Int32) => (wM cI q se wo fO wI ++ wS cI q os fl wa fo sb lp fm pn tr fs sk ct nt ++ wD cI q so sd ti on he ++ wP cI q (nI n) il kn sp py u)) (fun r u => r = sI (fun k => bI (!decide (bo k = 5))) n ∧ u = fillA bo 6 5) := by
  refine MI_of (cc := cX3_leave) (maxL := 2) (ty := .int) (by decide) rfl (Nat.le_of_ble_eq_true rfl) (fun p e s m args below meth c A Q hx hb hml hown hts hK hN hA hret H locs ls hl hP hD hS => ?_)
  have hown : s.vm.findClass RX3 = some m.cls := hown
  have hl : lv_has ls 2 [(0, .ref (q 17))] := hl
  have hin3 : ∀ w ∈ u_ws RX3 TX3 7, w ∈ wsX3_leave := fun w h => List.mem_cons_of_mem _ (List.mem_append_left _ (List.mem_append_right _ h))
  have f10 : (Cond.fieldLink RX3 10 "GlassBooths" "people" "LGlassBooths$People;").before args s = true := hts _ (by decide +kernel)
  have hw := h_X3_leave n se wo fO wI os fl wa fo sb lp fm pn tr fs sk ct nt so sd ti on he il kn sp py bo  hn   
  unfold v_X3_leave_0 at hw
  refine lv_aload_n hx hb dX3_leave_0 rfl (lv_at hl 0 rfl) ?_
  refine va_get (D := D) (ci := 3) (v := .ref (q 0)) (C := RX3) (T := TX3) (N := 7) hx hb hts hin3 hown hK hP 0 rfl rfl 0 (by decide) f10 (fun _ h9 => h9) rfl dX3_leave_1 ?_
  refine zc_i (fun u => (wM cI q se wo fO wI ++ wS cI q os fl wa fo sb lp fm pn tr fs sk ct nt ++ wD cI q so sd ti on he ++ wP cI q (nI n) il kn sp py bo)) [15, 16, 17, 18, 19] [0, 1, 2, 3, 4, 5, 6, 7, 8, 9, 10, 11, 12, 13, 14] [0, 1, 2, 3, 4, 5, 6, 7, 8, 9, 10, 11, 12, 13, 14, 15, 16, 17, 18, 19] (va_runV (As := []) (rest := []) ⟨hx, hb, hml, hown, hts⟩ ((c_X1_seated l D cI cZ q n il kn sp py bo hn ) H.size) (cwV 0 hts gX3_leave_X1_seated rfl rfl rfl (by decide +kernel) ⟨Nat.le_of_ble_eq_true rfl, Nat.le_of_ble_eq_true rfl⟩) (pv_of hK hN hP hD [15, 16, 17, 18, 19] rfl rfl 1 0 rfl rfl) rfl rfl hl.1 rfl (lv_room (Nat.le_of_ble_eq_true rfl)) dX3_leave_4 ⟨Nat.zero_le _, Nat.zero_le _⟩) hP hD hS hA rfl rfl rfl (by decide) (fun _ => rfl) rfl (fun r u H locs hu hP hD hS => ?_)
  subst hu
  have hP : va_P D vwCl (wM cI q se wo fO wI ++ wS cI q os fl wa fo sb lp fm pn tr fs sk ct nt ++ wD cI q so sd ti on he ++ wP cI q (nI n) il kn sp py bo) H := hP
  have hD : va_D A (wM cI q se wo fO wI ++ wS cI q os fl wa fo sb lp fm pn tr fs sk ct nt ++ wD cI q so sd ti on he ++ wP cI q (nI n) il kn sp py bo) := hD
  refine lv_istore_n (lv' := [(1, .int (sI (fun k => bI (!decide (bo k = 5))) n)), (0, .ref (q 17))]) hx hb dX3_leave_7 rfl hl (by decide) rfl (fun ls hl => ?_)
  refine lv_aload_n hx hb dX3_leave_8 rfl (lv_at hl 1 rfl) ?_
  refine va_get (D := D) (ci := 3) (v := .ref (q 0)) (C := RX3) (T := TX3) (N := 7) hx hb hts hin3 hown hK hP 0 rfl rfl 0 (by decide) f10 (fun _ h9 => h9) rfl dX3_leave_9 ?_
  refine zc_v (fun u => (wM cI q se wo fO wI ++ wS cI q os fl wa fo sb lp fm pn tr fs sk ct nt ++ wD cI q so sd ti on he ++ wP cI q (nI n) il kn sp py u)) [15, 16, 17, 18, 19] [0, 1, 2, 3, 4, 5, 6, 7, 8, 9, 10, 11, 12, 13, 14] [0, 1, 2, 3, 4, 5, 6, 7, 8, 9, 10, 11, 12, 13, 14, 15, 16, 17, 18, 19] (va_runV (As := []) (rest := []) ⟨hx, hb, hml, hown, hts⟩ ((c_X1_unseatAll l D cI cZ q n il kn sp py bo hn ) H.size) (cwV 0 hts gX3_leave_X1_unseatAll rfl rfl rfl (by decide +kernel) ⟨Nat.le_of_ble_eq_true rfl, Nat.le_of_ble_eq_true rfl⟩) (pv_of hK hN hP hD [15, 16, 17, 18, 19] rfl rfl 1 0 rfl rfl) rfl rfl hl.1 rfl (lv_room (Nat.le_of_ble_eq_true rfl)) dX3_leave_12 ⟨Nat.zero_le _, Nat.zero_le _⟩) hP hD hS hA rfl rfl rfl (by decide) (fun _ => rfl) rfl (fun u H locs hu hP hD hS => ?_)
  subst hu
  have hP : va_P D vwCl (wM cI q se wo fO wI ++ wS cI q os fl wa fo sb lp fm pn tr fs sk ct nt ++ wD cI q so sd ti on he ++ wP cI q (nI n) il kn sp py (fillA bo 6 5)) H := hP
  have hD : va_D A (wM cI q se wo fO wI ++ wS cI q os fl wa fo sb lp fm pn tr fs sk ct nt ++ wD cI q so sd ti on he ++ wP cI q (nI n) il kn sp py (fillA bo 6 5)) := hD
  refine lv_iload_n hx hb dX3_leave_15 rfl (lv_at hl 0 rfl) ?_
  exact hret _ (fillA bo 6 5) _ _ _ _ hw rfl hP hD hS dX3_leave_16
set_option maxHeartbeats 4000000 in
set_option maxRecDepth 100000 in
theorem c_X3_booth (l : Launch) (D : va_G) (cI cZ : ClassId) (q : Nat → Nat) (se : Int32) (wo : Int32) (fO : Nat → Int32) (wI : Nat → Int32) (os : Int32) (fl : Int32) (wa : Int32) (fo : Int32) (sb : Int32) (lp : Int32) (fm : Int32) (pn : Int32) (tr : Nat → Int32) (fs : Nat → Int32) (sk : Nat → Int32) (ct : Nat → Int32) (nt : Nat → Int32) (so : Nat → Int32) (sd : Nat → Int32) (ti : Nat → Int32) (on : Nat → Int32) (he : Nat → Int32) (n : Nat) (il : Int32) (kn : Nat → Int32) (sp : Nat → Int32) (py : Nat → Int32) (bo : Nat → Int32) (a1 : Int32) (hn : n ≤ 6) : MI l yX3_booth wsX3_booth ({ frames := 10, cells := 0, slots := 0, locals := 400 }) D cI cZ [.ref (q 17), .int a1] (wM cI q se wo fO wI ++ wS cI q os fl wa fo sb lp fm pn tr fs sk ct nt ++ wD cI q so sd ti on he ++ wP cI q (nI n) il kn sp py bo) (fun _ : Unit => (wM cI q se wo fO wI ++ wS cI q os fl wa fo sb lp fm pn tr fs sk ct nt ++ wD cI q so sd ti on he ++ wP cI q (nI n) il kn sp py bo)) (fun r _ => r = (if inB a1 (nI n) = true then bo a1.toNatClampNeg else (-2))) := by
  refine MI_of (cc := cX3_booth) (maxL := 2) (ty := .int) (by decide) rfl (Nat.le_of_ble_eq_true rfl) (fun p e s m args below meth c A Q hx hb hml hown hts hK hN hA hret H locs ls hl hP hD hS => ?_)
  have hown : s.vm.findClass RX3 = some m.cls := hown
  have hl : lv_has ls 2 [(0, .ref (q 17)), (1, .int a1)] := hl
  have hin3 : ∀ w ∈ u_ws RX3 TX3 7, w ∈ wsX3_booth := fun w h => List.mem_cons_of_mem _ (List.mem_append_left _ (List.mem_append_right _ h))
  have f10 : (Cond.fieldLink RX3 10 "GlassBooths" "people" "LGlassBooths$People;").before args s = true := hts _ (by decide +kernel)
  have hw := h_X3_booth n se wo fO wI os fl wa fo sb lp fm pn tr fs sk ct nt so sd ti on he il kn sp py bo  a1 hn   
  unfold v_X3_booth_0 at hw
  refine lv_aload_n hx hb dX3_booth_0 rfl (lv_at hl 0 rfl) ?_
  refine va_get (D := D) (ci := 3) (v := .ref (q 0)) (C := RX3) (T := TX3) (N := 7) hx hb hts hin3 hown hK hP 0 rfl rfl 0 (by decide) f10 (fun _ h9 => h9) rfl dX3_booth_1 ?_
  refine lv_iload_n hx hb dX3_booth_4 rfl (lv_at hl 1 rfl) ?_
  refine zc_i (fun u => (wM cI q se wo fO wI ++ wS cI q os fl wa fo sb lp fm pn tr fs sk ct nt ++ wD cI q so sd ti on he ++ wP cI q (nI n) il kn sp py bo)) [15, 16, 17, 18, 19] [0, 1, 2, 3, 4, 5, 6, 7, 8, 9, 10, 11, 12, 13, 14] [0, 1, 2, 3, 4, 5, 6, 7, 8, 9, 10, 11, 12, 13, 14, 15, 16, 17, 18, 19] (va_runV (As := [.int a1]) (rest := []) ⟨hx, hb, hml, hown, hts⟩ ((c_X1_has l D cI cZ q n il kn sp py bo a1 hn ) H.size) (cwV 1 hts gX3_booth_X1_has rfl rfl rfl (by decide +kernel) ⟨Nat.le_of_ble_eq_true rfl, Nat.le_of_ble_eq_true rfl⟩) (pv_of hK hN hP hD [15, 16, 17, 18, 19] rfl rfl 1 0 rfl rfl) rfl rfl hl.1 rfl (lv_room (Nat.le_of_ble_eq_true rfl)) dX3_booth_5 ⟨Nat.zero_le _, Nat.zero_le _⟩) hP hD hS hA rfl rfl rfl (by decide) (fun _ => rfl) rfl (fun r u H locs hu hP hD hS => ?_)
  subst hu
  have hP : va_P D vwCl (wM cI q se wo fO wI ++ wS cI q os fl wa fo sb lp fm pn tr fs sk ct nt ++ wD cI q so sd ti on he ++ wP cI q (nI n) il kn sp py bo) H := hP
  have hD : va_D A (wM cI q se wo fO wI ++ wS cI q os fl wa fo sb lp fm pn tr fs sk ct nt ++ wD cI q so sd ti on he ++ wP cI q (nI n) il kn sp py bo) := hD
  refine lv_if_ne (tgt := 14) hx hb dX3_booth_8 (by decide) (fun hc => ?_) (fun hc => ?_)
  · replace hw := hw.2 hc
    refine lv_aload_n hx hb dX3_booth_14 rfl (lv_at hl 0 rfl) ?_
    refine va_get (D := D) (ci := 3) (v := .ref (q 0)) (C := RX3) (T := TX3) (N := 7) hx hb hts hin3 hown hK hP 0 rfl rfl 0 (by decide) f10 (fun _ h9 => h9) rfl dX3_booth_15 ?_
    refine lv_iload_n hx hb dX3_booth_18 rfl (lv_at hl 1 rfl) ?_
    refine zc_i (fun u => (wM cI q se wo fO wI ++ wS cI q os fl wa fo sb lp fm pn tr fs sk ct nt ++ wD cI q so sd ti on he ++ wP cI q (nI n) il kn sp py bo)) [15, 16, 17, 18, 19] [0, 1, 2, 3, 4, 5, 6, 7, 8, 9, 10, 11, 12, 13, 14] [0, 1, 2, 3, 4, 5, 6, 7, 8, 9, 10, 11, 12, 13, 14, 15, 16, 17, 18, 19] (va_runV (As := [.int a1]) (rest := []) ⟨hx, hb, hml, hown, hts⟩ ((c_X1_boothOf l D cI cZ q n il kn sp py bo a1 hn ) H.size) (cwV 1 hts gX3_booth_X1_boothOf rfl rfl rfl (by decide +kernel) ⟨Nat.le_of_ble_eq_true rfl, Nat.le_of_ble_eq_true rfl⟩) (pv_of hK hN hP hD [15, 16, 17, 18, 19] rfl rfl 1 0 rfl rfl) rfl rfl hl.1 rfl (lv_room (Nat.le_of_ble_eq_true rfl)) dX3_booth_19 ⟨Nat.zero_le _, Nat.zero_le _⟩) hP hD hS hA rfl rfl rfl (by decide) (fun _ => rfl) rfl (fun r u H locs hu hP hD hS => ?_)
    subst hu
    have hP : va_P D vwCl (wM cI q se wo fO wI ++ wS cI q os fl wa fo sb lp fm pn tr fs sk ct nt ++ wD cI q so sd ti on he ++ wP cI q (nI n) il kn sp py bo) H := hP
    have hD : va_D A (wM cI q se wo fO wI ++ wS cI q os fl wa fo sb lp fm pn tr fs sk ct nt ++ wD cI q so sd ti on he ++ wP cI q (nI n) il kn sp py bo) := hD
    exact hret _ () _ _ _ _ hw rfl hP hD hS dX3_booth_22
  · replace hw := hw.1 hc
    refine lv_bipush (v := (-2 : Int32)) hx hb dX3_booth_11 (by decide) ?_
    exact hret _ () _ _ _ _ hw rfl hP hD hS dX3_booth_13
set_option maxHeartbeats 4000000 in
set_option maxRecDepth 100000 in
theorem c_X3_lacking (l : Launch) (D : va_G) (cI cZ : ClassId) (q : Nat → Nat) (se : Int32) (wo : Int32) (fO : Nat → Int32) (wI : Nat → Int32) (os : Int32) (fl : Int32) (wa : Int32) (fo : Int32) (sb : Int32) (lp : Int32) (fm : Int32) (pn : Int32) (tr : Nat → Int32) (fs : Nat → Int32) (sk : Nat → Int32) (ct : Nat → Int32) (nt : Nat → Int32) (so : Nat → Int32) (sd : Nat → Int32) (ti : Nat → Int32) (on : Nat → Int32) (he : Nat → Int32) (n : Nat) (il : Int32) (kn : Nat → Int32) (sp : Nat → Int32) (py : Nat → Int32) (bo : Nat → Int32) (a1 : Int32) (hn : n ≤ 6) : MI l yX3_lacking wsX3_lacking ({ frames := 12, cells := 0, slots := 0, locals := 480 }) D cI cZ [.ref (q 17), .int a1] (wM cI q se wo fO wI ++ wS cI q os fl wa fo sb lp fm pn tr fs sk ct nt ++ wD cI q so sd ti on he ++ wP cI q (nI n) il kn sp py bo) (fun _ : Unit => (wM cI q se wo fO wI ++ wS cI q os fl wa fo sb lp fm pn tr fs sk ct nt ++ wD cI q so sd ti on he ++ wP cI q (nI n) il kn sp py bo)) (fun r _ => r = (if inB a1 2 = true then lcF n il sp (wI a1.toNatClampNeg) se 5 else (-2))) := by
  refine MI_of (cc := cX3_lacking) (maxL := 4) (ty := .int) (by decide) rfl (Nat.le_of_ble_eq_true rfl) (fun p e s m args below meth c A Q hx hb hml hown hts hK hN hA hret H locs ls hl hP hD hS => ?_)
  have hown : s.vm.findClass RX3 = some m.cls := hown
  have hl : lv_has ls 4 [(0, .ref (q 17)), (1, .int a1)] := hl
  have hin3 : ∀ w ∈ u_ws RX3 TX3 7, w ∈ wsX3_lacking := fun w h => List.mem_cons_of_mem _ (List.mem_append_left _ (List.mem_append_right _ h))
  have f36 : (Cond.fieldLink RX3 36 "GlassBooths" "wantedIn" "[I").before args s = true := hts _ (by decide +kernel)
  have f10 : (Cond.fieldLink RX3 10 "GlassBooths" "people" "LGlassBooths$People;").before args s = true := hts _ (by decide +kernel)
  have f39 : (Cond.fieldLink RX3 39 "GlassBooths" "seatsEach" "I").before args s = true := hts _ (by decide +kernel)
  obtain ⟨K14, k14i, k14e⟩ := ex_K3 (fun (x1 : Int32) (x2 : Int32) (x3 : Int32) => ∀ (H : Heap) (locs : List Loc) (ls : Array Slot), lv_has ls 4 [(0, .ref (q 17)), (1, .int x1), (2, .int x2), (3, .int x3)] → va_P D vwCl (wM cI q se wo fO wI ++ wS cI q os fl wa fo sb lp fm pn tr fs sk ct nt ++ wD cI q so sd ti on he ++ wP cI q (nI n) il kn sp py bo) H → va_D A (wM cI q se wo fO wI ++ wS cI q os fl wa fo sb lp fm pn tr fs sk ct nt ++ wD cI q so sd ti on he ++ wP cI q (nI n) il kn sp py bo) → va_S A s.heap H locs → W p l e (headSpec wsX3_lacking ({ frames := 12, cells := 0, slots := 0, locals := 480 })).room s m args below meth c H locs 0 0 Q (F0 m 14 ls []))
  have J53 : ∀ x1 x2 x3, v_X3_lacking_53 n se wo fO wI os fl wa fo sb lp fm pn tr fs sk ct nt so sd ti on he il kn sp py bo (fun r _ => r = (if inB a1 2 = true then lcF n il sp (wI a1.toNatClampNeg) se 5 else (-2))) K14 x1 x2 x3 → ∀ (H : Heap) (locs : List Loc) (ls : Array Slot), lv_has ls 4 [(0, .ref (q 17)), (1, .int x1), (2, .int x2), (3, .int x3)] → va_P D vwCl (wM cI q se wo fO wI ++ wS cI q os fl wa fo sb lp fm pn tr fs sk ct nt ++ wD cI q so sd ti on he ++ wP cI q (nI n) il kn sp py bo) H → va_D A (wM cI q se wo fO wI ++ wS cI q os fl wa fo sb lp fm pn tr fs sk ct nt ++ wD cI q so sd ti on he ++ wP cI q (nI n) il kn sp py bo) → va_S A s.heap H locs → W p l e (headSpec wsX3_lacking ({ frames := 12, cells := 0, slots := 0, locals := 480 })).room s m args below meth c H locs 0 0 Q (F0 m 53 ls []) := by
    intro x1 x2 x3 hw
    intro H locs ls hl hP hD hS
    unfold v_X3_lacking_53 at hw
    refine lv_iinc (v := x3 + 1) (lv' := [(3, .int (x3 + 1)), (0, .ref (q 17)), (1, .int x1), (2, .int x2)]) hx hb dX3_lacking_53 hl (k := 3) rfl rfl (by decide) rfl (fun ls hl => ?_)
    refine lv_goto (tgt := 14) hx hb dX3_lacking_56 (by decide) ?_
    exact k14e _ _ _ hw _ _ _ (lv_sub hl [1, 2, 3, 0] rfl) hP hD hS
  have R14 : ∀ x1 x2 x3, v_X3_lacking_14 n se wo fO wI os fl wa fo sb lp fm pn tr fs sk ct nt so sd ti on he il kn sp py bo (fun r _ => r = (if inB a1 2 = true then lcF n il sp (wI a1.toNatClampNeg) se 5 else (-2))) K14 x1 x2 x3 → K14 x1 x2 x3 := by
    intro x1 x2 x3 hw
    refine k14i _ _ _ ?_
    intro H locs ls hl hP hD hS
    unfold v_X3_lacking_14 at hw
    refine lv_iload_n hx hb dX3_lacking_14 rfl (lv_at hl 3 rfl) ?_
    refine lv_iconst (v := (5 : Int32)) hx hb dX3_lacking_15 (by decide) ?_
    refine lv_icmp_ge (tgt := 59) hx hb dX3_lacking_16 (by decide) (fun hc => ?_) (fun hc => ?_)
    · replace hw := hw.1 hc
      refine lv_iload_n hx hb dX3_lacking_59 rfl (lv_at hl 2 rfl) ?_
      exact hret _ () _ _ _ _ hw rfl hP hD hS dX3_lacking_60
    · replace hw := hw.2 hc
      refine lv_aload_n hx hb dX3_lacking_19 rfl (lv_at hl 0 rfl) ?_
      refine va_get (D := D) (ci := 3) (v := .ref (q 19)) (C := RX3) (T := TX3) (N := 7) hx hb hts hin3 hown hK hP 0 rfl rfl 4 (by decide) f36 (fun _ h9 => h9) rfl dX3_lacking_20 ?_
      refine lv_iload_n hx hb dX3_lacking_23 rfl (lv_at hl 1 rfl) ?_
      obtain ⟨hv, hw⟩ := hw
      refine va_iald hx hb hK hP 2 0 rfl rfl hv dX3_lacking_24 ?_
      refine lv_iload_n hx hb dX3_lacking_25 rfl (lv_at hl 3 rfl) ?_
      refine zc_i0 (va_runS (As := [.int (wI x1.toNatClampNeg), .int x3]) (rest := []) ⟨hx, hb, hml, hown, hts⟩ ((c_X3_holds l D cI cZ (wI x1.toNatClampNeg) x3  ) H.size) (va_cwS 2 hts gX3_lacking_X3_holds rfl rfl rfl (by decide +kernel) ⟨Nat.le_of_ble_eq_true rfl, Nat.le_of_ble_eq_true rfl⟩) (ps_of hK hN hP hD [] rfl rfl) rfl rfl hl.1 rfl (lv_room (Nat.le_of_ble_eq_true rfl)) dX3_lacking_26 ⟨Nat.zero_le _, Nat.zero_le _⟩) hP hD hS hA (fun r u H locs hu hP hD hS => ?_)
      subst hu
      refine lv_if_eq (tgt := 53) hx hb dX3_lacking_29 (by decide) (fun hc => ?_) (fun hc => ?_)
      · replace hw := hw.1 hc
        exact J53 _ _ _ hw _ _ _ (lv_sub hl [0, 1, 2, 3] rfl) hP hD hS
      · replace hw := hw.2 hc
        refine lv_aload_n hx hb dX3_lacking_32 rfl (lv_at hl 0 rfl) ?_
        refine va_get (D := D) (ci := 3) (v := .ref (q 0)) (C := RX3) (T := TX3) (N := 7) hx hb hts hin3 hown hK hP 0 rfl rfl 0 (by decide) f10 (fun _ h9 => h9) rfl dX3_lacking_33 ?_
        refine lv_iload_n hx hb dX3_lacking_36 rfl (lv_at hl 3 rfl) ?_
        refine zc_i (fun u => (wM cI q se wo fO wI ++ wS cI q os fl wa fo sb lp fm pn tr fs sk ct nt ++ wD cI q so sd ti on he ++ wP cI q (nI n) il kn sp py bo)) [15, 16, 17, 18, 19] [0, 1, 2, 3, 4, 5, 6, 7, 8, 9, 10, 11, 12, 13, 14] [0, 1, 2, 3, 4, 5, 6, 7, 8, 9, 10, 11, 12, 13, 14, 15, 16, 17, 18, 19] (va_runV (As := [.int x3]) (rest := []) ⟨hx, hb, hml, hown, hts⟩ ((c_X1_ableToTurnInto l D cI cZ q n il kn sp py bo x3 hn ) H.size) (cwV 1 hts gX3_lacking_X1_ableToTurnInto rfl rfl rfl (by decide +kernel) ⟨Nat.le_of_ble_eq_true rfl, Nat.le_of_ble_eq_true rfl⟩) (pv_of hK hN hP hD [15, 16, 17, 18, 19] rfl rfl 1 0 rfl rfl) rfl rfl hl.1 rfl (lv_room (Nat.le_of_ble_eq_true rfl)) dX3_lacking_37 ⟨Nat.zero_le _, Nat.zero_le _⟩) hP hD hS hA rfl rfl rfl (by decide) (fun _ => rfl) rfl (fun r u H locs hu hP hD hS => ?_)
        subst hu
        have hP : va_P D vwCl (wM cI q se wo fO wI ++ wS cI q os fl wa fo sb lp fm pn tr fs sk ct nt ++ wD cI q so sd ti on he ++ wP cI q (nI n) il kn sp py bo) H := hP
        have hD : va_D A (wM cI q se wo fO wI ++ wS cI q os fl wa fo sb lp fm pn tr fs sk ct nt ++ wD cI q so sd ti on he ++ wP cI q (nI n) il kn sp py bo) := hD
        refine lv_aload_n hx hb dX3_lacking_40 rfl (lv_at hl 0 rfl) ?_
        refine va_get (D := D) (ci := 3) (v := .int se) (C := RX3) (T := TX3) (N := 7) hx hb hts hin3 hown hK hP 0 rfl rfl 5 (by decide) f39 (fun _ h9 => h9) rfl dX3_lacking_41 ?_
        refine lv_icmp_ge (tgt := 53) hx hb dX3_lacking_44 (by decide) (fun hc => ?_) (fun hc => ?_)
        · replace hw := hw.1 hc
          exact J53 _ _ _ hw _ _ _ (lv_sub hl [0, 1, 2, 3] rfl) hP hD hS
        · replace hw := hw.2 hc
          refine lv_iload_n hx hb dX3_lacking_47 rfl (lv_at hl 2 rfl) ?_
          refine lv_iconst (v := (1 : Int32)) hx hb dX3_lacking_48 (by decide) ?_
          refine lv_iload_n hx hb dX3_lacking_49 rfl (lv_at hl 3 rfl) ?_
          refine lv_ishl hx hb dX3_lacking_50 ?_
          refine lv_ior hx hb dX3_lacking_51 ?_
          refine lv_istore_n (lv' := [(2, .int (x2 ||| ((1 : Int32) <<< (x3 &&& 31)))), (0, .ref (q 17)), (1, .int x1), (3, .int x3)]) hx hb dX3_lacking_52 rfl hl (by decide) rfl (fun ls hl => ?_)
          exact J53 _ _ _ hw _ _ _ (lv_sub hl [1, 2, 0, 3] rfl) hP hD hS
  have hw := h_X3_lacking n se wo fO wI os fl wa fo sb lp fm pn tr fs sk ct nt so sd ti on he il kn sp py bo  a1 hn  K14 R14
  unfold v_X3_lacking_0 at hw
  refine lv_iload_n hx hb dX3_lacking_0 rfl (lv_at hl 1 rfl) ?_
  refine zc_i0 (va_runS (As := [.int a1]) (rest := []) ⟨hx, hb, hml, hown, hts⟩ ((c_X3_isSession l D cI cZ a1  ) H.size) (va_cwS 1 hts gX3_lacking_X3_isSession rfl rfl rfl (by decide +kernel) ⟨Nat.le_of_ble_eq_true rfl, Nat.le_of_ble_eq_true rfl⟩) (ps_of hK hN hP hD [] rfl rfl) rfl rfl hl.1 rfl (lv_room (Nat.le_of_ble_eq_true rfl)) dX3_lacking_1 ⟨Nat.zero_le _, Nat.zero_le _⟩) hP hD hS hA (fun r u H locs hu hP hD hS => ?_)
  subst hu
  refine lv_if_ne (tgt := 10) hx hb dX3_lacking_4 (by decide) (fun hc => ?_) (fun hc => ?_)
  · replace hw := hw.2 hc
    refine lv_iconst (v := (0 : Int32)) hx hb dX3_lacking_10 (by decide) ?_
    refine lv_istore_n (lv' := [(2, .int (0 : Int32)), (0, .ref (q 17)), (1, .int a1)]) hx hb dX3_lacking_11 rfl hl (by decide) rfl (fun ls hl => ?_)
    refine lv_iconst (v := (0 : Int32)) hx hb dX3_lacking_12 (by decide) ?_
    refine lv_istore_n (lv' := [(3, .int (0 : Int32)), (2, .int (0 : Int32)), (0, .ref (q 17)), (1, .int a1)]) hx hb dX3_lacking_13 rfl hl (by decide) rfl (fun ls hl => ?_)
    exact k14e _ _ _ hw _ _ _ (lv_sub hl [2, 3, 1, 0] rfl) hP hD hS
  · replace hw := hw.1 hc
    refine lv_bipush (v := (-2 : Int32)) hx hb dX3_lacking_7 (by decide) ?_
    exact hret _ () _ _ _ _ hw rfl hP hD hS dX3_lacking_9
set_option maxHeartbeats 4000000 in
set_option maxRecDepth 100000 in
theorem c_X3_needed (l : Launch) (D : va_G) (cI cZ : ClassId) (q : Nat → Nat) (se : Int32) (wo : Int32) (fO : Nat → Int32) (wI : Nat → Int32) (os : Int32) (fl : Int32) (wa : Int32) (fo : Int32) (sb : Int32) (lp : Int32) (fm : Int32) (pn : Int32) (tr : Nat → Int32) (fs : Nat → Int32) (sk : Nat → Int32) (ct : Nat → Int32) (nt : Nat → Int32) (so : Nat → Int32) (sd : Nat → Int32) (ti : Nat → Int32) (on : Nat → Int32) (he : Nat → Int32) (n : Nat) (il : Int32) (kn : Nat → Int32) (sp : Nat → Int32) (py : Nat → Int32) (bo : Nat → Int32) (a1 : Int32) (a2 : Int32) (hn : n ≤ 6) : MI l yX3_needed wsX3_needed ({ frames := 110, cells := 0, slots := 0, locals := 2600 }) D cI cZ [.ref (q 17), .int a1, .int a2] (wM cI q se wo fO wI ++ wS cI q os fl wa fo sb lp fm pn tr fs sk ct nt ++ wD cI q so sd ti on he ++ wP cI q (nI n) il kn sp py bo) (fun u : Int32 × Int32 × Int32 × Int32 × Int32 × Int32 × Int32 × Int32 × (Nat → Int32) × (Nat → Int32) × (Nat → Int32) × (Nat → Int32) × (Nat → Int32) => (wM cI q se wo fO wI ++ wS cI q u.1 u.2.1 u.2.2.1 u.2.2.2.1 u.2.2.2.2.1 u.2.2.2.2.2.1 u.2.2.2.2.2.2.1 u.2.2.2.2.2.2.2.1 u.2.2.2.2.2.2.2.2.1 u.2.2.2.2.2.2.2.2.2.1 u.2.2.2.2.2.2.2.2.2.2.1 u.2.2.2.2.2.2.2.2.2.2.2.1 u.2.2.2.2.2.2.2.2.2.2.2.2 ++ wD cI q so sd ti on he ++ wP cI q (nI n) il kn sp py bo)) (fun r u => r = (if (inB a1 (nI n) && inB a2 2) = true then bI (!decide ((stF n il kn sp py bo fO wI se a2 (os, fl, wa, fo, sb, lp, fm, pn, tr, fs, sk, ct, nt)).2.2.2.1 ≤ 0) && !hs ((stF n il kn sp py bo fO wI se a2 (os, fl, wa, fo, sb, lp, fm, pn, tr, fs, sk, ct, nt)).2.2.2.2.1) a1) else (-2)) ∧ u = (if (inB a1 (nI n) && inB a2 2) = true then stF n il kn sp py bo fO wI se a2 (os, fl, wa, fo, sb, lp, fm, pn, tr, fs, sk, ct, nt) else (os, fl, wa, fo, sb, lp, fm, pn, tr, fs, sk, ct, nt))) := by
  refine MI_of (cc := cX3_needed) (maxL := 3) (ty := .int) (by decide) rfl (Nat.le_of_ble_eq_true rfl) (fun p e s m args below meth c A Q hx hb hml hown hts hK hN hA hret H locs ls hl hP hD hS => ?_)
  have hown : s.vm.findClass RX3 = some m.cls := hown
  have hl : lv_has ls 3 [(0, .ref (q 17)), (1, .int a1), (2, .int a2)] := hl
  have hin2 : ∀ w ∈ u_ws RX2 TX2 14, w ∈ wsX3_needed := fun w h => List.mem_cons_of_mem _ (List.mem_append_left _ (List.mem_append_right _ h))
  have hin3 : ∀ w ∈ u_ws RX3 TX3 7, w ∈ wsX3_needed := fun w h => List.mem_cons_of_mem _ (List.mem_append_left _ (List.mem_append_left _ (List.mem_append_right _ h)))
  have f10 : (Cond.fieldLink RX3 10 "GlassBooths" "people" "LGlassBooths$People;").before args s = true := hts _ (by decide +kernel)
  have f21 : (Cond.fieldLink RX3 21 "GlassBooths" "search" "LGlassBooths$Search;").before args s = true := hts _ (by decide +kernel)
  have f71 : (Cond.fieldLinkNest RX3 71 "GlassBooths$Search" "found" "I" "GlassBooths").before args s = true := va_Nw.use rfl (hN _ (List.mem_of_getElem? (i := 7) rfl))
  have f111 : (Cond.fieldLinkNest RX3 111 "GlassBooths$Search" "sparedBits" "I" "GlassBooths").before args s = true := va_Nw.use rfl (hN _ (List.mem_of_getElem? (i := 8) rfl))
  have hw := h_X3_needed n se wo fO wI so sd ti on he il kn sp py bo os fl wa fo sb lp fm pn tr fs sk ct nt a1 a2 hn   
  unfold v_X3_needed_0 at hw
  refine lv_aload_n hx hb dX3_needed_0 rfl (lv_at hl 0 rfl) ?_
  refine va_get (D := D) (ci := 3) (v := .ref (q 0)) (C := RX3) (T := TX3) (N := 7) hx hb hts hin3 hown hK hP 0 rfl rfl 0 (by decide) f10 (fun _ h9 => h9) rfl dX3_needed_1 ?_
  refine lv_iload_n hx hb dX3_needed_4 rfl (lv_at hl 1 rfl) ?_
  refine zc_i (fun u => (wM cI q se wo fO wI ++ wS cI q os fl wa fo sb lp fm pn tr fs sk ct nt ++ wD cI q so sd ti on he ++ wP cI q (nI n) il kn sp py bo)) [15, 16, 17, 18, 19] [0, 1, 2, 3, 4, 5, 6, 7, 8, 9, 10, 11, 12, 13, 14] [0, 1, 2, 3, 4, 5, 6, 7, 8, 9, 10, 11, 12, 13, 14, 15, 16, 17, 18, 19] (va_runV (As := [.int a1]) (rest := []) ⟨hx, hb, hml, hown, hts⟩ ((c_X1_has l D cI cZ q n il kn sp py bo a1 hn ) H.size) (cwV 1 hts gX3_needed_X1_has rfl rfl rfl (by decide +kernel) ⟨Nat.le_of_ble_eq_true rfl, Nat.le_of_ble_eq_true rfl⟩) (pv_of hK hN hP hD [15, 16, 17, 18, 19] rfl rfl 1 0 rfl rfl) rfl rfl hl.1 rfl (lv_room (Nat.le_of_ble_eq_true rfl)) dX3_needed_5 ⟨Nat.zero_le _, Nat.zero_le _⟩) hP hD hS hA rfl rfl rfl (by decide) (fun _ => rfl) rfl (fun r u H locs hu hP hD hS => ?_)
  subst hu
  have hP : va_P D vwCl (wM cI q se wo fO wI ++ wS cI q os fl wa fo sb lp fm pn tr fs sk ct nt ++ wD cI q so sd ti on he ++ wP cI q (nI n) il kn sp py bo) H := hP
  have hD : va_D A (wM cI q se wo fO wI ++ wS cI q os fl wa fo sb lp fm pn tr fs sk ct nt ++ wD cI q so sd ti on he ++ wP cI q (nI n) il kn sp py bo) := hD
  refine lv_if_eq (tgt := 18) hx hb dX3_needed_8 (by decide) (fun hc => ?_) (fun hc => ?_)
  · replace hw := hw.1 hc
    refine lv_bipush (v := (-2 : Int32)) hx hb dX3_needed_18 (by decide) ?_
    exact hret _ (os, fl, wa, fo, sb, lp, fm, pn, tr, fs, sk, ct, nt) _ _ _ _ hw rfl hP hD hS dX3_needed_20
  · replace hw := hw.2 hc
    refine lv_iload_n hx hb dX3_needed_11 rfl (lv_at hl 2 rfl) ?_
    refine zc_i0 (va_runS (As := [.int a2]) (rest := []) ⟨hx, hb, hml, hown, hts⟩ ((c_X3_isSession l D cI cZ a2  ) H.size) (va_cwS 1 hts gX3_needed_X3_isSession rfl rfl rfl (by decide +kernel) ⟨Nat.le_of_ble_eq_true rfl, Nat.le_of_ble_eq_true rfl⟩) (ps_of hK hN hP hD [] rfl rfl) rfl rfl hl.1 rfl (lv_room (Nat.le_of_ble_eq_true rfl)) dX3_needed_12 ⟨Nat.zero_le _, Nat.zero_le _⟩) hP hD hS hA (fun r u H locs hu hP hD hS => ?_)
    subst hu
    refine lv_if_ne (tgt := 21) hx hb dX3_needed_15 (by decide) (fun hc => ?_) (fun hc => ?_)
    · replace hw := hw.2 hc
      refine lv_aload_n hx hb dX3_needed_21 rfl (lv_at hl 0 rfl) ?_
      refine lv_iload_n hx hb dX3_needed_22 rfl (lv_at hl 2 rfl) ?_
      refine zc_v (fun u => (wM cI q se wo fO wI ++ wS cI q u.1 u.2.1 u.2.2.1 u.2.2.2.1 u.2.2.2.2.1 u.2.2.2.2.2.1 u.2.2.2.2.2.2.1 u.2.2.2.2.2.2.2.1 u.2.2.2.2.2.2.2.2.1 u.2.2.2.2.2.2.2.2.2.1 u.2.2.2.2.2.2.2.2.2.2.1 u.2.2.2.2.2.2.2.2.2.2.2.1 u.2.2.2.2.2.2.2.2.2.2.2.2 ++ wD cI q so sd ti on he ++ wP cI q (nI n) il kn sp py bo)) [0, 1, 2, 3, 4, 5, 6, 7, 8, 9, 10, 11, 12, 13, 14, 15, 16, 17, 18, 19] [] [0, 1, 2, 3, 4, 5, 6, 7, 8, 9, 10, 11, 12, 13, 14, 15, 16, 17, 18, 19] (va_runV (As := [.int a2]) (rest := []) ⟨hx, hb, hml, hown, hts⟩ ((c_X3_searchTeams l D cI cZ q se wo fO wI os fl wa fo sb lp fm pn tr fs sk ct nt so sd ti on he n il kn sp py bo a2 hn ) H.size) (cwV 1 hts gX3_needed_X3_searchTeams rfl rfl rfl (by decide +kernel) ⟨by show 100 + 1 ≤ 110; omega, by show 8 + (2 + 11) + (2400) ≤ 2600; omega⟩) (pv_of hK hN hP hD [0, 1, 2, 3, 4, 5, 6, 7, 8, 9, 10, 11, 12, 13, 14, 15, 16, 17, 18, 19] rfl rfl 3 0 rfl rfl) rfl rfl hl.1 rfl (lv_room (Nat.le_of_ble_eq_true rfl)) dX3_needed_23 ⟨Nat.zero_le _, Nat.zero_le _⟩) hP hD hS hA rfl rfl rfl (by decide) (fun _ => rfl) rfl (fun u23 H locs hu hP hD hS => ?_)
      replace hw := hw u23 hu
      have hP : va_P D vwCl (wM cI q se wo fO wI ++ wS cI q u23.1 u23.2.1 u23.2.2.1 u23.2.2.2.1 u23.2.2.2.2.1 u23.2.2.2.2.2.1 u23.2.2.2.2.2.2.1 u23.2.2.2.2.2.2.2.1 u23.2.2.2.2.2.2.2.2.1 u23.2.2.2.2.2.2.2.2.2.1 u23.2.2.2.2.2.2.2.2.2.2.1 u23.2.2.2.2.2.2.2.2.2.2.2.1 u23.2.2.2.2.2.2.2.2.2.2.2.2 ++ wD cI q so sd ti on he ++ wP cI q (nI n) il kn sp py bo) H := hP
      have hD : va_D A (wM cI q se wo fO wI ++ wS cI q u23.1 u23.2.1 u23.2.2.1 u23.2.2.2.1 u23.2.2.2.2.1 u23.2.2.2.2.2.1 u23.2.2.2.2.2.2.1 u23.2.2.2.2.2.2.2.1 u23.2.2.2.2.2.2.2.2.1 u23.2.2.2.2.2.2.2.2.2.1 u23.2.2.2.2.2.2.2.2.2.2.1 u23.2.2.2.2.2.2.2.2.2.2.2.1 u23.2.2.2.2.2.2.2.2.2.2.2.2 ++ wD cI q so sd ti on he ++ wP cI q (nI n) il kn sp py bo) := hD
      refine lv_aload_n hx hb dX3_needed_26 rfl (lv_at hl 0 rfl) ?_
      refine va_get (D := D) (ci := 3) (v := .ref (q 5)) (C := RX3) (T := TX3) (N := 7) hx hb hts hin3 hown hK hP 0 rfl rfl 1 (by decide) f21 (fun _ h9 => h9) rfl dX3_needed_27 ?_
      refine va_getN (D := D) (ci := 2) (v := .int u23.2.2.2.1) (C := RX2) (T := TX2) (N := 14) hx hb hts hin2 hown hK hP 3 rfl rfl 9 (by decide) f71 (fun _ h9 => h9) rfl dX3_needed_30 ?_
      refine lv_if_le (tgt := 54) hx hb dX3_needed_33 (by decide) (fun hc => ?_) (fun hc => ?_)
      · replace hw := hw.1 hc
        refine lv_iconst (v := (0 : Int32)) hx hb dX3_needed_54 (by decide) ?_
        exact hret _ (u23.1, u23.2.1, u23.2.2.1, u23.2.2.2.1, u23.2.2.2.2.1, u23.2.2.2.2.2.1, u23.2.2.2.2.2.2.1, u23.2.2.2.2.2.2.2.1, u23.2.2.2.2.2.2.2.2.1, u23.2.2.2.2.2.2.2.2.2.1, u23.2.2.2.2.2.2.2.2.2.2.1, u23.2.2.2.2.2.2.2.2.2.2.2.1, u23.2.2.2.2.2.2.2.2.2.2.2.2) _ _ _ _ hw rfl hP hD hS dX3_needed_55
      · replace hw := hw.2 hc
        refine lv_aload_n hx hb dX3_needed_36 rfl (lv_at hl 0 rfl) ?_
        refine va_get (D := D) (ci := 3) (v := .ref (q 5)) (C := RX3) (T := TX3) (N := 7) hx hb hts hin3 hown hK hP 0 rfl rfl 1 (by decide) f21 (fun _ h9 => h9) rfl dX3_needed_37 ?_
        refine va_getN (D := D) (ci := 2) (v := .int u23.2.2.2.2.1) (C := RX2) (T := TX2) (N := 14) hx hb hts hin2 hown hK hP 3 rfl rfl 10 (by decide) f111 (fun _ h9 => h9) rfl dX3_needed_40 ?_
        refine lv_iload_n hx hb dX3_needed_43 rfl (lv_at hl 1 rfl) ?_
        refine zc_i0 (va_runS (As := [.int u23.2.2.2.2.1, .int a1]) (rest := []) ⟨hx, hb, hml, hown, hts⟩ ((c_X3_holds l D cI cZ u23.2.2.2.2.1 a1  ) H.size) (va_cwS 2 hts gX3_needed_X3_holds rfl rfl rfl (by decide +kernel) ⟨Nat.le_of_ble_eq_true rfl, Nat.le_of_ble_eq_true rfl⟩) (ps_of hK hN hP hD [] rfl rfl) rfl rfl hl.1 rfl (lv_room (Nat.le_of_ble_eq_true rfl)) dX3_needed_44 ⟨Nat.zero_le _, Nat.zero_le _⟩) hP hD hS hA (fun r u H locs hu hP hD hS => ?_)
        subst hu
        refine lv_if_ne (tgt := 54) hx hb dX3_needed_47 (by decide) (fun hc => ?_) (fun hc => ?_)
        · replace hw := hw.2 hc
          refine lv_iconst (v := (0 : Int32)) hx hb dX3_needed_54 (by decide) ?_
          exact hret _ (u23.1, u23.2.1, u23.2.2.1, u23.2.2.2.1, u23.2.2.2.2.1, u23.2.2.2.2.2.1, u23.2.2.2.2.2.2.1, u23.2.2.2.2.2.2.2.1, u23.2.2.2.2.2.2.2.2.1, u23.2.2.2.2.2.2.2.2.2.1, u23.2.2.2.2.2.2.2.2.2.2.1, u23.2.2.2.2.2.2.2.2.2.2.2.1, u23.2.2.2.2.2.2.2.2.2.2.2.2) _ _ _ _ hw rfl hP hD hS dX3_needed_55
        · replace hw := hw.1 hc
          refine lv_iconst (v := (1 : Int32)) hx hb dX3_needed_50 (by decide) ?_
          refine lv_goto (tgt := 55) hx hb dX3_needed_51 (by decide) ?_
          exact hret _ (u23.1, u23.2.1, u23.2.2.1, u23.2.2.2.1, u23.2.2.2.2.1, u23.2.2.2.2.2.1, u23.2.2.2.2.2.2.1, u23.2.2.2.2.2.2.2.1, u23.2.2.2.2.2.2.2.2.1, u23.2.2.2.2.2.2.2.2.2.1, u23.2.2.2.2.2.2.2.2.2.2.1, u23.2.2.2.2.2.2.2.2.2.2.2.1, u23.2.2.2.2.2.2.2.2.2.2.2.2) _ _ _ _ hw rfl hP hD hS dX3_needed_55
    · replace hw := hw.1 hc
      refine lv_bipush (v := (-2 : Int32)) hx hb dX3_needed_18 (by decide) ?_
      exact hret _ (os, fl, wa, fo, sb, lp, fm, pn, tr, fs, sk, ct, nt) _ _ _ _ hw rfl hP hD hS dX3_needed_20
set_option maxHeartbeats 4000000 in
set_option maxRecDepth 100000 in
theorem c_X3_speak (l : Launch) (D : va_G) (cI cZ : ClassId) (q : Nat → Nat) (se : Int32) (wo : Int32) (fO : Nat → Int32) (wI : Nat → Int32) (os : Int32) (fl : Int32) (wa : Int32) (fo : Int32) (sb : Int32) (lp : Int32) (fm : Int32) (pn : Int32) (tr : Nat → Int32) (fs : Nat → Int32) (sk : Nat → Int32) (ct : Nat → Int32) (nt : Nat → Int32) (so : Nat → Int32) (sd : Nat → Int32) (ti : Nat → Int32) (on : Nat → Int32) (he : Nat → Int32) (n : Nat) (il : Int32) (kn : Nat → Int32) (sp : Nat → Int32) (py : Nat → Int32) (bo : Nat → Int32) (a1 : Int32) (a2 : Int32) (a3 : Int32) (hn : n ≤ 6) : MI l yX3_speak wsX3_speak ({ frames := 10, cells := 0, slots := 0, locals := 400 }) D cI cZ [.ref (q 17), .int a1, .int a2, .int a3] (wM cI q se wo fO wI ++ wS cI q os fl wa fo sb lp fm pn tr fs sk ct nt ++ wD cI q so sd ti on he ++ wP cI q (nI n) il kn sp py bo) (fun u : (Nat → Int32) × (Nat → Int32) => (wM cI q se wo fO wI ++ wS cI q os fl wa fo sb lp fm pn tr fs sk ct nt ++ wD cI q u.1 u.2 ti on he ++ wP cI q (nI n) il kn sp py bo)) (fun r u => r = (if (inB a1 16 && inB a2 5) = true then (if (!decide (a3 < 1) && !decide (9 < a3)) = true then 1 else (-3)) else (-2)) ∧ u = ((if (inB a1 16 && (inB a2 5 && (!decide (a3 < 1) && !decide (9 < a3)))) = true then upd so a1.toNatClampNeg a2 else so), (if (inB a1 16 && (inB a2 5 && (!decide (a3 < 1) && !decide (9 < a3)))) = true then upd sd a1.toNatClampNeg a3 else sd))) := by
  refine MI_of (cc := cX3_speak) (maxL := 4) (ty := .int) (by decide) rfl (Nat.le_of_ble_eq_true rfl) (fun p e s m args below meth c A Q hx hb hml hown hts hK hN hA hret H locs ls hl hP hD hS => ?_)
  have hown : s.vm.findClass RX3 = some m.cls := hown
  have hl : lv_has ls 4 [(0, .ref (q 17)), (1, .int a1), (2, .int a2), (3, .int a3)] := hl
  have hin3 : ∀ w ∈ u_ws RX3 TX3 7, w ∈ wsX3_speak := fun w h => List.mem_cons_of_mem _ (List.mem_append_left _ (List.mem_append_right _ h))
  have f28 : (Cond.fieldLink RX3 28 "GlassBooths" "day" "LGlassBooths$Day;").before args s = true := hts _ (by decide +kernel)
  have hw := h_X3_speak n se wo fO wI os fl wa fo sb lp fm pn tr fs sk ct nt ti on he il kn sp py bo so sd a1 a2 a3 hn   
  unfold v_X3_speak_0 at hw
  refine lv_iload_n hx hb dX3_speak_0 rfl (lv_at hl 1 rfl) ?_
  refine zc_i0 (va_runS (As := [.int a1]) (rest := []) ⟨hx, hb, hml, hown, hts⟩ ((c_X3_isHalf l D cI cZ a1  ) H.size) (va_cwS 1 hts gX3_speak_X3_isHalf rfl rfl rfl (by decide +kernel) ⟨Nat.le_of_ble_eq_true rfl, Nat.le_of_ble_eq_true rfl⟩) (ps_of hK hN hP hD [] rfl rfl) rfl rfl hl.1 rfl (lv_room (Nat.le_of_ble_eq_true rfl)) dX3_speak_1 ⟨Nat.zero_le _, Nat.zero_le _⟩) hP hD hS hA (fun r u H locs hu hP hD hS => ?_)
  subst hu
  refine lv_if_eq (tgt := 14) hx hb dX3_speak_4 (by decide) (fun hc => ?_) (fun hc => ?_)
  · replace hw := hw.1 hc
    refine lv_bipush (v := (-2 : Int32)) hx hb dX3_speak_14 (by decide) ?_
    exact hret _ (so, sd) _ _ _ _ hw rfl hP hD hS dX3_speak_16
  · replace hw := hw.2 hc
    refine lv_iload_n hx hb dX3_speak_7 rfl (lv_at hl 2 rfl) ?_
    refine zc_i0 (va_runS (As := [.int a2]) (rest := []) ⟨hx, hb, hml, hown, hts⟩ ((c_X3_isTongue l D cI cZ a2  ) H.size) (va_cwS 1 hts gX3_speak_X3_isTongue rfl rfl rfl (by decide +kernel) ⟨Nat.le_of_ble_eq_true rfl, Nat.le_of_ble_eq_true rfl⟩) (ps_of hK hN hP hD [] rfl rfl) rfl rfl hl.1 rfl (lv_room (Nat.le_of_ble_eq_true rfl)) dX3_speak_8 ⟨Nat.zero_le _, Nat.zero_le _⟩) hP hD hS hA (fun r u H locs hu hP hD hS => ?_)
    subst hu
    refine lv_if_ne (tgt := 17) hx hb dX3_speak_11 (by decide) (fun hc => ?_) (fun hc => ?_)
    · replace hw := hw.2 hc
      refine lv_iload_n hx hb dX3_speak_17 rfl (lv_at hl 3 rfl) ?_
      refine lv_iconst (v := (1 : Int32)) hx hb dX3_speak_18 (by decide) ?_
      refine lv_icmp_lt (tgt := 28) hx hb dX3_speak_19 (by decide) (fun hc => ?_) (fun hc => ?_)
      · replace hw := hw.1 hc
        refine lv_bipush (v := (-3 : Int32)) hx hb dX3_speak_28 (by decide) ?_
        exact hret _ (so, sd) _ _ _ _ hw rfl hP hD hS dX3_speak_30
      · replace hw := hw.2 hc
        refine lv_iload_n hx hb dX3_speak_22 rfl (lv_at hl 3 rfl) ?_
        refine lv_bipush (v := (9 : Int32)) hx hb dX3_speak_23 (by decide) ?_
        refine lv_icmp_le (tgt := 31) hx hb dX3_speak_25 (by decide) (fun hc => ?_) (fun hc => ?_)
        · replace hw := hw.1 hc
          refine lv_aload_n hx hb dX3_speak_31 rfl (lv_at hl 0 rfl) ?_
          refine va_get (D := D) (ci := 3) (v := .ref (q 11)) (C := RX3) (T := TX3) (N := 7) hx hb hts hin3 hown hK hP 0 rfl rfl 2 (by decide) f28 (fun _ h9 => h9) rfl dX3_speak_32 ?_
          refine lv_iload_n hx hb dX3_speak_35 rfl (lv_at hl 1 rfl) ?_
          refine lv_iload_n hx hb dX3_speak_36 rfl (lv_at hl 2 rfl) ?_
          refine lv_iload_n hx hb dX3_speak_37 rfl (lv_at hl 3 rfl) ?_
          refine zc_v (fun u => (wM cI q se wo fO wI ++ wS cI q os fl wa fo sb lp fm pn tr fs sk ct nt ++ wD cI q u.1 u.2 ti on he ++ wP cI q (nI n) il kn sp py bo)) [9, 10, 11, 12, 13, 14, 15, 16, 17, 18, 19] [0, 1, 2, 3, 4, 5, 6, 7, 8] [0, 1, 2, 3, 4, 5, 6, 7, 8, 9, 10, 11, 12, 13, 14, 15, 16, 17, 18, 19] (va_runV (As := [.int a1, .int a2, .int a3]) (rest := []) ⟨hx, hb, hml, hown, hts⟩ ((c_X0_setSpoken l D cI cZ q so sd ti on he n il kn sp py bo a1 a2 a3 hn ) H.size) (cwV 3 hts gX3_speak_X0_setSpoken rfl rfl rfl (by decide +kernel) ⟨Nat.le_of_ble_eq_true rfl, Nat.le_of_ble_eq_true rfl⟩) (pv_of hK hN hP hD [9, 10, 11, 12, 13, 14, 15, 16, 17, 18, 19] rfl rfl 0 0 rfl rfl) rfl rfl hl.1 rfl (lv_room (Nat.le_of_ble_eq_true rfl)) dX3_speak_38 ⟨Nat.zero_le _, Nat.zero_le _⟩) hP hD hS hA rfl rfl rfl (by decide) (fun _ => rfl) rfl (fun u H locs hu hP hD hS => ?_)
          subst hu
          have hP : va_P D vwCl (wM cI q se wo fO wI ++ wS cI q os fl wa fo sb lp fm pn tr fs sk ct nt ++ wD cI q (if inB a1 16 = true then upd so a1.toNatClampNeg a2 else so) (if inB a1 16 = true then upd sd a1.toNatClampNeg a3 else sd) ti on he ++ wP cI q (nI n) il kn sp py bo) H := hP
          have hD : va_D A (wM cI q se wo fO wI ++ wS cI q os fl wa fo sb lp fm pn tr fs sk ct nt ++ wD cI q (if inB a1 16 = true then upd so a1.toNatClampNeg a2 else so) (if inB a1 16 = true then upd sd a1.toNatClampNeg a3 else sd) ti on he ++ wP cI q (nI n) il kn sp py bo) := hD
          refine lv_iconst (v := (1 : Int32)) hx hb dX3_speak_41 (by decide) ?_
          exact hret _ ((if inB a1 16 = true then upd so a1.toNatClampNeg a2 else so), (if inB a1 16 = true then upd sd a1.toNatClampNeg a3 else sd)) _ _ _ _ hw rfl hP hD hS dX3_speak_42
        · replace hw := hw.2 hc
          refine lv_bipush (v := (-3 : Int32)) hx hb dX3_speak_28 (by decide) ?_
          exact hret _ (so, sd) _ _ _ _ hw rfl hP hD hS dX3_speak_30
    · replace hw := hw.1 hc
      refine lv_bipush (v := (-2 : Int32)) hx hb dX3_speak_14 (by decide) ?_
      exact hret _ (so, sd) _ _ _ _ hw rfl hP hD hS dX3_speak_16
set_option maxHeartbeats 4000000 in
set_option maxRecDepth 100000 in
theorem c_X3_silence (l : Launch) (D : va_G) (cI cZ : ClassId) (q : Nat → Nat) (se : Int32) (wo : Int32) (fO : Nat → Int32) (wI : Nat → Int32) (os : Int32) (fl : Int32) (wa : Int32) (fo : Int32) (sb : Int32) (lp : Int32) (fm : Int32) (pn : Int32) (tr : Nat → Int32) (fs : Nat → Int32) (sk : Nat → Int32) (ct : Nat → Int32) (nt : Nat → Int32) (so : Nat → Int32) (sd : Nat → Int32) (ti : Nat → Int32) (on : Nat → Int32) (he : Nat → Int32) (n : Nat) (il : Int32) (kn : Nat → Int32) (sp : Nat → Int32) (py : Nat → Int32) (bo : Nat → Int32) (a1 : Int32) (hn : n ≤ 6) : MI l yX3_silence wsX3_silence ({ frames := 10, cells := 0, slots := 0, locals := 400 }) D cI cZ [.ref (q 17), .int a1] (wM cI q se wo fO wI ++ wS cI q os fl wa fo sb lp fm pn tr fs sk ct nt ++ wD cI q so sd ti on he ++ wP cI q (nI n) il kn sp py bo) (fun u : (Nat → Int32) × (Nat → Int32) => (wM cI q se wo fO wI ++ wS cI q os fl wa fo sb lp fm pn tr fs sk ct nt ++ wD cI q u.1 u.2 ti on he ++ wP cI q (nI n) il kn sp py bo)) (fun r u => r = (if inB a1 16 = true then bI (!decide (so a1.toNatClampNeg = -1)) else (-2)) ∧ u = ((if inB a1 16 = true then upd so a1.toNatClampNeg (-1) else so), (if inB a1 16 = true then upd sd a1.toNatClampNeg 0 else sd))) := by
  refine MI_of (cc := cX3_silence) (maxL := 3) (ty := .int) (by decide) rfl (Nat.le_of_ble_eq_true rfl) (fun p e s m args below meth c A Q hx hb hml hown hts hK hN hA hret H locs ls hl hP hD hS => ?_)
  have hown : s.vm.findClass RX3 = some m.cls := hown
  have hl : lv_has ls 3 [(0, .ref (q 17)), (1, .int a1)] := hl
  have hin3 : ∀ w ∈ u_ws RX3 TX3 7, w ∈ wsX3_silence := fun w h => List.mem_cons_of_mem _ (List.mem_append_left _ (List.mem_append_right _ h))
  have f28 : (Cond.fieldLink RX3 28 "GlassBooths" "day" "LGlassBooths$Day;").before args s = true := hts _ (by decide +kernel)
  have J26 : ∀ x1 s0 so_ sd_, v_X3_silence_26 n se wo fO wI os fl wa fo sb lp fm pn tr fs sk ct nt ti on he il kn sp py bo (fun r u => r = (if inB a1 16 = true then bI (!decide (so a1.toNatClampNeg = -1)) else (-2)) ∧ u = ((if inB a1 16 = true then upd so a1.toNatClampNeg (-1) else so), (if inB a1 16 = true then upd sd a1.toNatClampNeg 0 else sd)))  x1 s0 so_ sd_ → ∀ (H : Heap) (locs : List Loc) (ls : Array Slot), lv_has ls 3 [(0, .ref (q 17)), (1, .int x1)] → va_P D vwCl (wM cI q se wo fO wI ++ wS cI q os fl wa fo sb lp fm pn tr fs sk ct nt ++ wD cI q so_ sd_ ti on he ++ wP cI q (nI n) il kn sp py bo) H → va_D A (wM cI q se wo fO wI ++ wS cI q os fl wa fo sb lp fm pn tr fs sk ct nt ++ wD cI q so_ sd_ ti on he ++ wP cI q (nI n) il kn sp py bo) → va_S A s.heap H locs → W p l e (headSpec wsX3_silence ({ frames := 10, cells := 0, slots := 0, locals := 400 })).room s m args below meth c H locs 0 0 Q (F0 m 26 ls [.int s0]) := by
    intro x1 s0 so_ sd_ hw
    intro H locs ls hl hP hD hS
    unfold v_X3_silence_26 at hw
    refine lv_istore_n (lv' := [(2, .int s0), (0, .ref (q 17)), (1, .int x1)]) hx hb dX3_silence_26 rfl hl (by decide) rfl (fun ls hl => ?_)
    refine lv_aload_n hx hb dX3_silence_27 rfl (lv_at hl 1 rfl) ?_
    refine va_get (D := D) (ci := 3) (v := .ref (q 11)) (C := RX3) (T := TX3) (N := 7) hx hb hts hin3 hown hK hP 0 rfl rfl 2 (by decide) f28 (fun _ h9 => h9) rfl dX3_silence_28 ?_
    refine lv_iload_n hx hb dX3_silence_31 rfl (lv_at hl 2 rfl) ?_
    refine zc_v (fun u => (wM cI q se wo fO wI ++ wS cI q os fl wa fo sb lp fm pn tr fs sk ct nt ++ wD cI q u.1 u.2 ti on he ++ wP cI q (nI n) il kn sp py bo)) [9, 10, 11, 12, 13, 14, 15, 16, 17, 18, 19] [0, 1, 2, 3, 4, 5, 6, 7, 8] [0, 1, 2, 3, 4, 5, 6, 7, 8, 9, 10, 11, 12, 13, 14, 15, 16, 17, 18, 19] (va_runV (As := [.int x1]) (rest := []) ⟨hx, hb, hml, hown, hts⟩ ((c_X0_setSilent l D cI cZ q so_ sd_ ti on he n il kn sp py bo x1 hn ) H.size) (cwV 1 hts gX3_silence_X0_setSilent rfl rfl rfl (by decide +kernel) ⟨Nat.le_of_ble_eq_true rfl, Nat.le_of_ble_eq_true rfl⟩) (pv_of hK hN hP hD [9, 10, 11, 12, 13, 14, 15, 16, 17, 18, 19] rfl rfl 0 0 rfl rfl) rfl rfl hl.1 rfl (lv_room (Nat.le_of_ble_eq_true rfl)) dX3_silence_32 ⟨Nat.zero_le _, Nat.zero_le _⟩) hP hD hS hA rfl rfl rfl (by decide) (fun _ => rfl) rfl (fun u H locs hu hP hD hS => ?_)
    subst hu
    have hP : va_P D vwCl (wM cI q se wo fO wI ++ wS cI q os fl wa fo sb lp fm pn tr fs sk ct nt ++ wD cI q (if inB x1 16 = true then upd so_ x1.toNatClampNeg (-1) else so_) (if inB x1 16 = true then upd sd_ x1.toNatClampNeg 0 else sd_) ti on he ++ wP cI q (nI n) il kn sp py bo) H := hP
    have hD : va_D A (wM cI q se wo fO wI ++ wS cI q os fl wa fo sb lp fm pn tr fs sk ct nt ++ wD cI q (if inB x1 16 = true then upd so_ x1.toNatClampNeg (-1) else so_) (if inB x1 16 = true then upd sd_ x1.toNatClampNeg 0 else sd_) ti on he ++ wP cI q (nI n) il kn sp py bo) := hD
    refine lv_iload_n hx hb dX3_silence_35 rfl (lv_at hl 0 rfl) ?_
    exact hret _ ((if inB x1 16 = true then upd so_ x1.toNatClampNeg (-1) else so_), (if inB x1 16 = true then upd sd_ x1.toNatClampNeg 0 else sd_)) _ _ _ _ hw rfl hP hD hS dX3_silence_36
  have hw := h_X3_silence n se wo fO wI os fl wa fo sb lp fm pn tr fs sk ct nt ti on he il kn sp py bo so sd a1 hn   
  unfold v_X3_silence_0 at hw
  refine lv_iload_n hx hb dX3_silence_0 rfl (lv_at hl 1 rfl) ?_
  refine zc_i0 (va_runS (As := [.int a1]) (rest := []) ⟨hx, hb, hml, hown, hts⟩ ((c_X3_isHalf l D cI cZ a1  ) H.size) (va_cwS 1 hts gX3_silence_X3_isHalf rfl rfl rfl (by decide +kernel) ⟨Nat.le_of_ble_eq_true rfl, Nat.le_of_ble_eq_true rfl⟩) (ps_of hK hN hP hD [] rfl rfl) rfl rfl hl.1 rfl (lv_room (Nat.le_of_ble_eq_true rfl)) dX3_silence_1 ⟨Nat.zero_le _, Nat.zero_le _⟩) hP hD hS hA (fun r u H locs hu hP hD hS => ?_)
  subst hu
  refine lv_if_ne (tgt := 10) hx hb dX3_silence_4 (by decide) (fun hc => ?_) (fun hc => ?_)
  · replace hw := hw.2 hc
    refine lv_aload_n hx hb dX3_silence_10 rfl (lv_at hl 0 rfl) ?_
    refine va_get (D := D) (ci := 3) (v := .ref (q 11)) (C := RX3) (T := TX3) (N := 7) hx hb hts hin3 hown hK hP 0 rfl rfl 2 (by decide) f28 (fun _ h9 => h9) rfl dX3_silence_11 ?_
    refine lv_iload_n hx hb dX3_silence_14 rfl (lv_at hl 1 rfl) ?_
    refine zc_i (fun u => (wM cI q se wo fO wI ++ wS cI q os fl wa fo sb lp fm pn tr fs sk ct nt ++ wD cI q so sd ti on he ++ wP cI q (nI n) il kn sp py bo)) [9, 10, 11, 12, 13, 14, 15, 16, 17, 18, 19] [0, 1, 2, 3, 4, 5, 6, 7, 8] [0, 1, 2, 3, 4, 5, 6, 7, 8, 9, 10, 11, 12, 13, 14, 15, 16, 17, 18, 19] (va_runV (As := [.int a1]) (rest := []) ⟨hx, hb, hml, hown, hts⟩ ((c_X0_isSilent l D cI cZ q so sd ti on he n il kn sp py bo a1 hn ) H.size) (cwV 1 hts gX3_silence_X0_isSilent rfl rfl rfl (by decide +kernel) ⟨Nat.le_of_ble_eq_true rfl, Nat.le_of_ble_eq_true rfl⟩) (pv_of hK hN hP hD [9, 10, 11, 12, 13, 14, 15, 16, 17, 18, 19] rfl rfl 0 0 rfl rfl) rfl rfl hl.1 rfl (lv_room (Nat.le_of_ble_eq_true rfl)) dX3_silence_15 ⟨Nat.zero_le _, Nat.zero_le _⟩) hP hD hS hA rfl rfl rfl (by decide) (fun _ => rfl) rfl (fun r u H locs hu hP hD hS => ?_)
    subst hu
    have hP : va_P D vwCl (wM cI q se wo fO wI ++ wS cI q os fl wa fo sb lp fm pn tr fs sk ct nt ++ wD cI q so sd ti on he ++ wP cI q (nI n) il kn sp py bo) H := hP
    have hD : va_D A (wM cI q se wo fO wI ++ wS cI q os fl wa fo sb lp fm pn tr fs sk ct nt ++ wD cI q so sd ti on he ++ wP cI q (nI n) il kn sp py bo) := hD
    refine lv_if_eq (tgt := 25) hx hb dX3_silence_18 (by decide) (fun hc => ?_) (fun hc => ?_)
    · replace hw := hw.1 hc
      refine lv_iconst (v := (1 : Int32)) hx hb dX3_silence_25 (by decide) ?_
      exact J26 _ _ _ _ hw _ _ _ (lv_sub hl [0, 1] rfl) hP hD hS
    · replace hw := hw.2 hc
      refine lv_iconst (v := (0 : Int32)) hx hb dX3_silence_21 (by decide) ?_
      refine lv_goto (tgt := 26) hx hb dX3_silence_22 (by decide) ?_
      exact J26 _ _ _ _ hw _ _ _ (lv_sub hl [0, 1] rfl) hP hD hS
  · replace hw := hw.1 hc
    refine lv_bipush (v := (-2 : Int32)) hx hb dX3_silence_7 (by decide) ?_
    exact hret _ (so, sd) _ _ _ _ hw rfl hP hD hS dX3_silence_9
set_option maxHeartbeats 4000000 in
set_option maxRecDepth 100000 in
theorem c_X3_limit (l : Launch) (D : va_G) (cI cZ : ClassId) (q : Nat → Nat) (se : Int32) (wo : Int32) (fO : Nat → Int32) (wI : Nat → Int32) (os : Int32) (fl : Int32) (wa : Int32) (fo : Int32) (sb : Int32) (lp : Int32) (fm : Int32) (pn : Int32) (tr : Nat → Int32) (fs : Nat → Int32) (sk : Nat → Int32) (ct : Nat → Int32) (nt : Nat → Int32) (so : Nat → Int32) (sd : Nat → Int32) (ti : Nat → Int32) (on : Nat → Int32) (he : Nat → Int32) (n : Nat) (il : Int32) (kn : Nat → Int32) (sp : Nat → Int32) (py : Nat → Int32) (bo : Nat → Int32) (a1 : Int32) (hn : n ≤ 6) : MI l yX3_limit wsX3_limit ({ frames := 10, cells := 0, slots := 0, locals := 400 }) D cI cZ [.ref (q 17), .int a1] (wM cI q se wo fO wI ++ wS cI q os fl wa fo sb lp fm pn tr fs sk ct nt ++ wD cI q so sd ti on he ++ wP cI q (nI n) il kn sp py bo) (fun u : Int32 => (wM cI q se u fO wI ++ wS cI q os fl wa fo sb lp fm pn tr fs sk ct nt ++ wD cI q so sd ti on he ++ wP cI q (nI n) il kn sp py bo)) (fun r u => r = (if (a1 < 5 ∨ 60 < a1) then (-3) else wo) ∧ u = (if (a1 < 5 ∨ 60 < a1) then wo else a1)) := by
  refine MI_of (cc := cX3_limit) (maxL := 3) (ty := .int) (by decide) rfl (Nat.le_of_ble_eq_true rfl) (fun p e s m args below meth c A Q hx hb hml hown hts hK hN hA hret H locs ls hl hP hD hS => ?_)
  have hown : s.vm.findClass RX3 = some m.cls := hown
  have hl : lv_has ls 3 [(0, .ref (q 17)), (1, .int a1)] := hl
  have hin3 : ∀ w ∈ u_ws RX3 TX3 7, w ∈ wsX3_limit := fun w h => List.mem_cons_of_mem _ (List.mem_append_right _ h)
  have f43 : (Cond.fieldLink RX3 43 "GlassBooths" "wornAbove" "I").before args s = true := hts _ (by decide +kernel)
  have hw := h_X3_limit n se fO wI os fl wa fo sb lp fm pn tr fs sk ct nt so sd ti on he il kn sp py bo wo a1 hn   
  unfold v_X3_limit_0 at hw
  refine lv_iload_n hx hb dX3_limit_0 rfl (lv_at hl 1 rfl) ?_
  refine lv_iconst (v := (5 : Int32)) hx hb dX3_limit_1 (by decide) ?_
  refine lv_icmp_lt (tgt := 11) hx hb dX3_limit_2 (by decide) (fun hc => ?_) (fun hc => ?_)
  · replace hw := hw.1 hc
    refine lv_bipush (v := (-3 : Int32)) hx hb dX3_limit_11 (by decide) ?_
    exact hret _ wo _ _ _ _ hw rfl hP hD hS dX3_limit_13
  · replace hw := hw.2 hc
    refine lv_iload_n hx hb dX3_limit_5 rfl (lv_at hl 1 rfl) ?_
    refine lv_bipush (v := (60 : Int32)) hx hb dX3_limit_6 (by decide) ?_
    refine lv_icmp_le (tgt := 14) hx hb dX3_limit_8 (by decide) (fun hc => ?_) (fun hc => ?_)
    · replace hw := hw.1 hc
      refine lv_aload_n hx hb dX3_limit_14 rfl (lv_at hl 0 rfl) ?_
      refine va_get (D := D) (ci := 3) (v := .int wo) (C := RX3) (T := TX3) (N := 7) hx hb hts hin3 hown hK hP 0 rfl rfl 6 (by decide) f43 (fun _ h9 => h9) rfl dX3_limit_15 ?_
      refine lv_istore_n (lv' := [(2, .int wo), (0, .ref (q 17)), (1, .int a1)]) hx hb dX3_limit_18 rfl hl (by decide) rfl (fun ls hl => ?_)
      refine lv_aload_n hx hb dX3_limit_19 rfl (lv_at hl 1 rfl) ?_
      refine lv_iload_n hx hb dX3_limit_20 rfl (lv_at hl 2 rfl) ?_
      refine va_put (D := D) (ci := 3) (v := .int a1) (ty := .int) (C := RX3) (T := TX3) (N := 7) hx hb hts hin3 tyX3 tyX3_ok nmX3 hown hK hP hD hS 0 rfl rfl 6 (by decide) f43 (fun _ h9 => h9) rfl (by decide +kernel) rfl rfl (Nat.le_of_ble_eq_true rfl) dX3_limit_21 (fun H locs hP hD hS => ?_)
      have hP : va_P D vwCl (wM cI q se a1 fO wI ++ wS cI q os fl wa fo sb lp fm pn tr fs sk ct nt ++ wD cI q so sd ti on he ++ wP cI q (nI n) il kn sp py bo) H := hP
      have hD : va_D A (wM cI q se a1 fO wI ++ wS cI q os fl wa fo sb lp fm pn tr fs sk ct nt ++ wD cI q so sd ti on he ++ wP cI q (nI n) il kn sp py bo) := hD
      refine lv_iload_n hx hb dX3_limit_24 rfl (lv_at hl 0 rfl) ?_
      exact hret _ a1 _ _ _ _ hw rfl hP hD hS dX3_limit_25
    · replace hw := hw.2 hc
      refine lv_bipush (v := (-3 : Int32)) hx hb dX3_limit_11 (by decide) ?_
      exact hret _ wo _ _ _ _ hw rfl hP hD hS dX3_limit_13
set_option maxHeartbeats 4000000 in
set_option maxRecDepth 100000 in
theorem c_X3_on (l : Launch) (D : va_G) (cI cZ : ClassId) (q : Nat → Nat) (se : Int32) (wo : Int32) (fO : Nat → Int32) (wI : Nat → Int32) (os : Int32) (fl : Int32) (wa : Int32) (fo : Int32) (sb : Int32) (lp : Int32) (fm : Int32) (pn : Int32) (tr : Nat → Int32) (fs : Nat → Int32) (sk : Nat → Int32) (ct : Nat → Int32) (nt : Nat → Int32) (so : Nat → Int32) (sd : Nat → Int32) (ti : Nat → Int32) (on : Nat → Int32) (he : Nat → Int32) (n : Nat) (il : Int32) (kn : Nat → Int32) (sp : Nat → Int32) (py : Nat → Int32) (bo : Nat → Int32) (a1 : Int32) (a2 : Int32) (hn : n ≤ 6) : MI l yX3_on wsX3_on ({ frames := 16, cells := 0, slots := 0, locals := 640 }) D cI cZ [.ref (q 17), .int a1, .int a2] (wM cI q se wo fO wI ++ wS cI q os fl wa fo sb lp fm pn tr fs sk ct nt ++ wD cI q so sd ti on he ++ wP cI q (nI n) il kn sp py bo) (fun u : (Nat → Int32) × (Nat → Int32) × (Nat → Int32) => (wM cI q se wo fO wI ++ wS cI q os fl wa fo sb lp fm pn tr fs sk ct nt ++ wD cI q so sd u.1 u.2.1 u.2.2 ++ wP cI q (nI n) il kn sp py bo)) (fun r u => r = (if (inB a1 5 && inB a2 16) = true then (plT n kn bo so sd (ti, on, he) (a2.toNatClampNeg + 1)).2.1 a1.toNatClampNeg else (-2)) ∧ u = (if (inB a1 5 && inB a2 16) = true then (plT n kn bo so sd (ti, on, he) (a2.toNatClampNeg + 1)) else (ti, on, he))) := by
  refine MI_of (cc := cX3_on) (maxL := 3) (ty := .int) (by decide) rfl (Nat.le_of_ble_eq_true rfl) (fun p e s m args below meth c A Q hx hb hml hown hts hK hN hA hret H locs ls hl hP hD hS => ?_)
  have hown : s.vm.findClass RX3 = some m.cls := hown
  have hl : lv_has ls 3 [(0, .ref (q 17)), (1, .int a1), (2, .int a2)] := hl
  have hin0 : ∀ w ∈ u_ws RX0 TX0 6, w ∈ wsX3_on := fun w h => List.mem_cons_of_mem _ (List.mem_append_left _ (List.mem_append_right _ h))
  have hin3 : ∀ w ∈ u_ws RX3 TX3 7, w ∈ wsX3_on := fun w h => List.mem_cons_of_mem _ (List.mem_append_left _ (List.mem_append_left _ (List.mem_append_right _ h)))
  have f28 : (Cond.fieldLink RX3 28 "GlassBooths" "day" "LGlassBooths$Day;").before args s = true := hts _ (by decide +kernel)
  have f133 : (Cond.fieldLinkNest RX3 133 "GlassBooths$Day" "onIn" "[I" "GlassBooths").before args s = true := va_Nw.use rfl (hN _ (List.mem_of_getElem? (i := 13) rfl))
  have hw := h_X3_on n se wo fO wI os fl wa fo sb lp fm pn tr fs sk ct nt so sd il kn sp py bo ti on he a1 a2 hn   
  unfold v_X3_on_0 at hw
  refine lv_iload_n hx hb dX3_on_0 rfl (lv_at hl 1 rfl) ?_
  refine zc_i0 (va_runS (As := [.int a1]) (rest := []) ⟨hx, hb, hml, hown, hts⟩ ((c_X3_isTongue l D cI cZ a1  ) H.size) (va_cwS 1 hts gX3_on_X3_isTongue rfl rfl rfl (by decide +kernel) ⟨Nat.le_of_ble_eq_true rfl, Nat.le_of_ble_eq_true rfl⟩) (ps_of hK hN hP hD [] rfl rfl) rfl rfl hl.1 rfl (lv_room (Nat.le_of_ble_eq_true rfl)) dX3_on_1 ⟨Nat.zero_le _, Nat.zero_le _⟩) hP hD hS hA (fun r u H locs hu hP hD hS => ?_)
  subst hu
  refine lv_if_eq (tgt := 14) hx hb dX3_on_4 (by decide) (fun hc => ?_) (fun hc => ?_)
  · replace hw := hw.1 hc
    refine lv_bipush (v := (-2 : Int32)) hx hb dX3_on_14 (by decide) ?_
    exact hret _ (ti, on, he) _ _ _ _ hw rfl hP hD hS dX3_on_16
  · replace hw := hw.2 hc
    refine lv_iload_n hx hb dX3_on_7 rfl (lv_at hl 2 rfl) ?_
    refine zc_i0 (va_runS (As := [.int a2]) (rest := []) ⟨hx, hb, hml, hown, hts⟩ ((c_X3_isHalf l D cI cZ a2  ) H.size) (va_cwS 1 hts gX3_on_X3_isHalf rfl rfl rfl (by decide +kernel) ⟨Nat.le_of_ble_eq_true rfl, Nat.le_of_ble_eq_true rfl⟩) (ps_of hK hN hP hD [] rfl rfl) rfl rfl hl.1 rfl (lv_room (Nat.le_of_ble_eq_true rfl)) dX3_on_8 ⟨Nat.zero_le _, Nat.zero_le _⟩) hP hD hS hA (fun r u H locs hu hP hD hS => ?_)
    subst hu
    refine lv_if_ne (tgt := 17) hx hb dX3_on_11 (by decide) (fun hc => ?_) (fun hc => ?_)
    · replace hw := hw.2 hc
      refine lv_aload_n hx hb dX3_on_17 rfl (lv_at hl 0 rfl) ?_
      refine va_get (D := D) (ci := 3) (v := .ref (q 11)) (C := RX3) (T := TX3) (N := 7) hx hb hts hin3 hown hK hP 0 rfl rfl 2 (by decide) f28 (fun _ h9 => h9) rfl dX3_on_18 ?_
      refine lv_iload_n hx hb dX3_on_21 rfl (lv_at hl 2 rfl) ?_
      obtain ⟨hp0, hw⟩ := hw
      refine zc_v (fun u => (wM cI q se wo fO wI ++ wS cI q os fl wa fo sb lp fm pn tr fs sk ct nt ++ wD cI q so sd u.1 u.2.1 u.2.2 ++ wP cI q (nI n) il kn sp py bo)) [9, 10, 11, 12, 13, 14, 15, 16, 17, 18, 19] [0, 1, 2, 3, 4, 5, 6, 7, 8] [0, 1, 2, 3, 4, 5, 6, 7, 8, 9, 10, 11, 12, 13, 14, 15, 16, 17, 18, 19] (va_runV (As := [.int a2]) (rest := []) ⟨hx, hb, hml, hown, hts⟩ ((c_X0_playThrough l D cI cZ q so sd ti on he n il kn sp py bo a2 hn hp0) H.size) (cwV 1 hts gX3_on_X0_playThrough rfl rfl rfl (by decide +kernel) ⟨Nat.le_of_ble_eq_true rfl, Nat.le_of_ble_eq_true rfl⟩) (pv_of hK hN hP hD [9, 10, 11, 12, 13, 14, 15, 16, 17, 18, 19] rfl rfl 0 0 rfl rfl) rfl rfl hl.1 rfl (lv_room (Nat.le_of_ble_eq_true rfl)) dX3_on_22 ⟨Nat.zero_le _, Nat.zero_le _⟩) hP hD hS hA rfl rfl rfl (by decide) (fun _ => rfl) rfl (fun u22 H locs hu hP hD hS => ?_)
      replace hw := hw u22 hu
      have hP : va_P D vwCl (wM cI q se wo fO wI ++ wS cI q os fl wa fo sb lp fm pn tr fs sk ct nt ++ wD cI q so sd u22.1 u22.2.1 u22.2.2 ++ wP cI q (nI n) il kn sp py bo) H := hP
      have hD : va_D A (wM cI q se wo fO wI ++ wS cI q os fl wa fo sb lp fm pn tr fs sk ct nt ++ wD cI q so sd u22.1 u22.2.1 u22.2.2 ++ wP cI q (nI n) il kn sp py bo) := hD
      refine lv_aload_n hx hb dX3_on_25 rfl (lv_at hl 0 rfl) ?_
      refine va_get (D := D) (ci := 3) (v := .ref (q 11)) (C := RX3) (T := TX3) (N := 7) hx hb hts hin3 hown hK hP 0 rfl rfl 2 (by decide) f28 (fun _ h9 => h9) rfl dX3_on_26 ?_
      refine va_getN (D := D) (ci := 0) (v := .ref (q 15)) (C := RX0) (T := TX0) (N := 6) hx hb hts hin0 hown hK hP 9 rfl rfl 4 (by decide) f133 (fun _ h9 => h9) rfl dX3_on_29 ?_
      refine lv_iload_n hx hb dX3_on_32 rfl (lv_at hl 1 rfl) ?_
      obtain ⟨hv, hw⟩ := hw
      refine va_iald hx hb hK hP 13 0 rfl rfl hv dX3_on_33 ?_
      exact hret _ (u22.1, u22.2.1, u22.2.2) _ _ _ _ hw rfl hP hD hS dX3_on_34
    · replace hw := hw.1 hc
      refine lv_bipush (v := (-2 : Int32)) hx hb dX3_on_14 (by decide) ?_
      exact hret _ (ti, on, he) _ _ _ _ hw rfl hP hD hS dX3_on_16
set_option maxHeartbeats 4000000 in
set_option maxRecDepth 100000 in
theorem c_X3_heard (l : Launch) (D : va_G) (cI cZ : ClassId) (q : Nat → Nat) (se : Int32) (wo : Int32) (fO : Nat → Int32) (wI : Nat → Int32) (os : Int32) (fl : Int32) (wa : Int32) (fo : Int32) (sb : Int32) (lp : Int32) (fm : Int32) (pn : Int32) (tr : Nat → Int32) (fs : Nat → Int32) (sk : Nat → Int32) (ct : Nat → Int32) (nt : Nat → Int32) (so : Nat → Int32) (sd : Nat → Int32) (ti : Nat → Int32) (on : Nat → Int32) (he : Nat → Int32) (n : Nat) (il : Int32) (kn : Nat → Int32) (sp : Nat → Int32) (py : Nat → Int32) (bo : Nat → Int32) (a1 : Int32) (a2 : Int32) (hn : n ≤ 6) : MI l yX3_heard wsX3_heard ({ frames := 16, cells := 0, slots := 0, locals := 640 }) D cI cZ [.ref (q 17), .int a1, .int a2] (wM cI q se wo fO wI ++ wS cI q os fl wa fo sb lp fm pn tr fs sk ct nt ++ wD cI q so sd ti on he ++ wP cI q (nI n) il kn sp py bo) (fun u : (Nat → Int32) × (Nat → Int32) × (Nat → Int32) => (wM cI q se wo fO wI ++ wS cI q os fl wa fo sb lp fm pn tr fs sk ct nt ++ wD cI q so sd u.1 u.2.1 u.2.2 ++ wP cI q (nI n) il kn sp py bo)) (fun r u => r = (if (inB a1 5 && inB a2 16) = true then (plT n kn bo so sd (ti, on, he) (a2.toNatClampNeg + 1)).2.2 a1.toNatClampNeg else (-2)) ∧ u = (if (inB a1 5 && inB a2 16) = true then (plT n kn bo so sd (ti, on, he) (a2.toNatClampNeg + 1)) else (ti, on, he))) := by
  refine MI_of (cc := cX3_heard) (maxL := 3) (ty := .int) (by decide) rfl (Nat.le_of_ble_eq_true rfl) (fun p e s m args below meth c A Q hx hb hml hown hts hK hN hA hret H locs ls hl hP hD hS => ?_)
  have hown : s.vm.findClass RX3 = some m.cls := hown
  have hl : lv_has ls 3 [(0, .ref (q 17)), (1, .int a1), (2, .int a2)] := hl
  have hin0 : ∀ w ∈ u_ws RX0 TX0 6, w ∈ wsX3_heard := fun w h => List.mem_cons_of_mem _ (List.mem_append_left _ (List.mem_append_right _ h))
  have hin3 : ∀ w ∈ u_ws RX3 TX3 7, w ∈ wsX3_heard := fun w h => List.mem_cons_of_mem _ (List.mem_append_left _ (List.mem_append_left _ (List.mem_append_right _ h)))
  have f28 : (Cond.fieldLink RX3 28 "GlassBooths" "day" "LGlassBooths$Day;").before args s = true := hts _ (by decide +kernel)
  have f136 : (Cond.fieldLinkNest RX3 136 "GlassBooths$Day" "heardBy" "[I" "GlassBooths").before args s = true := va_Nw.use rfl (hN _ (List.mem_of_getElem? (i := 14) rfl))
  have hw := h_X3_heard n se wo fO wI os fl wa fo sb lp fm pn tr fs sk ct nt so sd il kn sp py bo ti on he a1 a2 hn   
  unfold v_X3_heard_0 at hw
  refine lv_iload_n hx hb dX3_heard_0 rfl (lv_at hl 1 rfl) ?_
  refine zc_i0 (va_runS (As := [.int a1]) (rest := []) ⟨hx, hb, hml, hown, hts⟩ ((c_X3_isTongue l D cI cZ a1  ) H.size) (va_cwS 1 hts gX3_heard_X3_isTongue rfl rfl rfl (by decide +kernel) ⟨Nat.le_of_ble_eq_true rfl, Nat.le_of_ble_eq_true rfl⟩) (ps_of hK hN hP hD [] rfl rfl) rfl rfl hl.1 rfl (lv_room (Nat.le_of_ble_eq_true rfl)) dX3_heard_1 ⟨Nat.zero_le _, Nat.zero_le _⟩) hP hD hS hA (fun r u H locs hu hP hD hS => ?_)
  subst hu
  refine lv_if_eq (tgt := 14) hx hb dX3_heard_4 (by decide) (fun hc => ?_) (fun hc => ?_)
  · replace hw := hw.1 hc
    refine lv_bipush (v := (-2 : Int32)) hx hb dX3_heard_14 (by decide) ?_
    exact hret _ (ti, on, he) _ _ _ _ hw rfl hP hD hS dX3_heard_16
  · replace hw := hw.2 hc
    refine lv_iload_n hx hb dX3_heard_7 rfl (lv_at hl 2 rfl) ?_
    refine zc_i0 (va_runS (As := [.int a2]) (rest := []) ⟨hx, hb, hml, hown, hts⟩ ((c_X3_isHalf l D cI cZ a2  ) H.size) (va_cwS 1 hts gX3_heard_X3_isHalf rfl rfl rfl (by decide +kernel) ⟨Nat.le_of_ble_eq_true rfl, Nat.le_of_ble_eq_true rfl⟩) (ps_of hK hN hP hD [] rfl rfl) rfl rfl hl.1 rfl (lv_room (Nat.le_of_ble_eq_true rfl)) dX3_heard_8 ⟨Nat.zero_le _, Nat.zero_le _⟩) hP hD hS hA (fun r u H locs hu hP hD hS => ?_)
    subst hu
    refine lv_if_ne (tgt := 17) hx hb dX3_heard_11 (by decide) (fun hc => ?_) (fun hc => ?_)
    · replace hw := hw.2 hc
      refine lv_aload_n hx hb dX3_heard_17 rfl (lv_at hl 0 rfl) ?_
      refine va_get (D := D) (ci := 3) (v := .ref (q 11)) (C := RX3) (T := TX3) (N := 7) hx hb hts hin3 hown hK hP 0 rfl rfl 2 (by decide) f28 (fun _ h9 => h9) rfl dX3_heard_18 ?_
      refine lv_iload_n hx hb dX3_heard_21 rfl (lv_at hl 2 rfl) ?_
      obtain ⟨hp0, hw⟩ := hw
      refine zc_v (fun u => (wM cI q se wo fO wI ++ wS cI q os fl wa fo sb lp fm pn tr fs sk ct nt ++ wD cI q so sd u.1 u.2.1 u.2.2 ++ wP cI q (nI n) il kn sp py bo)) [9, 10, 11, 12, 13, 14, 15, 16, 17, 18, 19] [0, 1, 2, 3, 4, 5, 6, 7, 8] [0, 1, 2, 3, 4, 5, 6, 7, 8, 9, 10, 11, 12, 13, 14, 15, 16, 17, 18, 19] (va_runV (As := [.int a2]) (rest := []) ⟨hx, hb, hml, hown, hts⟩ ((c_X0_playThrough l D cI cZ q so sd ti on he n il kn sp py bo a2 hn hp0) H.size) (cwV 1 hts gX3_heard_X0_playThrough rfl rfl rfl (by decide +kernel) ⟨Nat.le_of_ble_eq_true rfl, Nat.le_of_ble_eq_true rfl⟩) (pv_of hK hN hP hD [9, 10, 11, 12, 13, 14, 15, 16, 17, 18, 19] rfl rfl 0 0 rfl rfl) rfl rfl hl.1 rfl (lv_room (Nat.le_of_ble_eq_true rfl)) dX3_heard_22 ⟨Nat.zero_le _, Nat.zero_le _⟩) hP hD hS hA rfl rfl rfl (by decide) (fun _ => rfl) rfl (fun u22 H locs hu hP hD hS => ?_)
      replace hw := hw u22 hu
      have hP : va_P D vwCl (wM cI q se wo fO wI ++ wS cI q os fl wa fo sb lp fm pn tr fs sk ct nt ++ wD cI q so sd u22.1 u22.2.1 u22.2.2 ++ wP cI q (nI n) il kn sp py bo) H := hP
      have hD : va_D A (wM cI q se wo fO wI ++ wS cI q os fl wa fo sb lp fm pn tr fs sk ct nt ++ wD cI q so sd u22.1 u22.2.1 u22.2.2 ++ wP cI q (nI n) il kn sp py bo) := hD
      refine lv_aload_n hx hb dX3_heard_25 rfl (lv_at hl 0 rfl) ?_
      refine va_get (D := D) (ci := 3) (v := .ref (q 11)) (C := RX3) (T := TX3) (N := 7) hx hb hts hin3 hown hK hP 0 rfl rfl 2 (by decide) f28 (fun _ h9 => h9) rfl dX3_heard_26 ?_
      refine va_getN (D := D) (ci := 0) (v := .ref (q 16)) (C := RX0) (T := TX0) (N := 6) hx hb hts hin0 hown hK hP 9 rfl rfl 5 (by decide) f136 (fun _ h9 => h9) rfl dX3_heard_29 ?_
      refine lv_iload_n hx hb dX3_heard_32 rfl (lv_at hl 1 rfl) ?_
      obtain ⟨hv, hw⟩ := hw
      refine va_iald hx hb hK hP 14 0 rfl rfl hv dX3_heard_33 ?_
      exact hret _ (u22.1, u22.2.1, u22.2.2) _ _ _ _ hw rfl hP hD hS dX3_heard_34
    · replace hw := hw.1 hc
      refine lv_bipush (v := (-2 : Int32)) hx hb dX3_heard_14 (by decide) ?_
      exact hret _ (ti, on, he) _ _ _ _ hw rfl hP hD hS dX3_heard_16
set_option maxHeartbeats 4000000 in
set_option maxRecDepth 100000 in
theorem c_X3_tired (l : Launch) (D : va_G) (cI cZ : ClassId) (q : Nat → Nat) (se : Int32) (wo : Int32) (fO : Nat → Int32) (wI : Nat → Int32) (os : Int32) (fl : Int32) (wa : Int32) (fo : Int32) (sb : Int32) (lp : Int32) (fm : Int32) (pn : Int32) (tr : Nat → Int32) (fs : Nat → Int32) (sk : Nat → Int32) (ct : Nat → Int32) (nt : Nat → Int32) (so : Nat → Int32) (sd : Nat → Int32) (ti : Nat → Int32) (on : Nat → Int32) (he : Nat → Int32) (n : Nat) (il : Int32) (kn : Nat → Int32) (sp : Nat → Int32) (py : Nat → Int32) (bo : Nat → Int32) (a1 : Int32) (a2 : Int32) (hn : n ≤ 6) : MI l yX3_tired wsX3_tired ({ frames := 16, cells := 0, slots := 0, locals := 640 }) D cI cZ [.ref (q 17), .int a1, .int a2] (wM cI q se wo fO wI ++ wS cI q os fl wa fo sb lp fm pn tr fs sk ct nt ++ wD cI q so sd ti on he ++ wP cI q (nI n) il kn sp py bo) (fun u : (Nat → Int32) × (Nat → Int32) × (Nat → Int32) => (wM cI q se wo fO wI ++ wS cI q os fl wa fo sb lp fm pn tr fs sk ct nt ++ wD cI q so sd u.1 u.2.1 u.2.2 ++ wP cI q (nI n) il kn sp py bo)) (fun r u => r = (if (inB a1 (nI n) && inB a2 16) = true then (plT n kn bo so sd (ti, on, he) (a2.toNatClampNeg + 1)).1 a1.toNatClampNeg else (-2)) ∧ u = (if (inB a1 (nI n) && inB a2 16) = true then (plT n kn bo so sd (ti, on, he) (a2.toNatClampNeg + 1)) else (ti, on, he))) := by
  refine MI_of (cc := cX3_tired) (maxL := 3) (ty := .int) (by decide) rfl (Nat.le_of_ble_eq_true rfl) (fun p e s m args below meth c A Q hx hb hml hown hts hK hN hA hret H locs ls hl hP hD hS => ?_)
  have hown : s.vm.findClass RX3 = some m.cls := hown
  have hl : lv_has ls 3 [(0, .ref (q 17)), (1, .int a1), (2, .int a2)] := hl
  have hin0 : ∀ w ∈ u_ws RX0 TX0 6, w ∈ wsX3_tired := fun w h => List.mem_cons_of_mem _ (List.mem_append_left _ (List.mem_append_right _ h))
  have hin3 : ∀ w ∈ u_ws RX3 TX3 7, w ∈ wsX3_tired := fun w h => List.mem_cons_of_mem _ (List.mem_append_left _ (List.mem_append_left _ (List.mem_append_right _ h)))
  have f10 : (Cond.fieldLink RX3 10 "GlassBooths" "people" "LGlassBooths$People;").before args s = true := hts _ (by decide +kernel)
  have f28 : (Cond.fieldLink RX3 28 "GlassBooths" "day" "LGlassBooths$Day;").before args s = true := hts _ (by decide +kernel)
  have f139 : (Cond.fieldLinkNest RX3 139 "GlassBooths$Day" "tiredness" "[I" "GlassBooths").before args s = true := va_Nw.use rfl (hN _ (List.mem_of_getElem? (i := 12) rfl))
  have hw := h_X3_tired n se wo fO wI os fl wa fo sb lp fm pn tr fs sk ct nt so sd il kn sp py bo ti on he a1 a2 hn   
  unfold v_X3_tired_0 at hw
  refine lv_aload_n hx hb dX3_tired_0 rfl (lv_at hl 0 rfl) ?_
  refine va_get (D := D) (ci := 3) (v := .ref (q 0)) (C := RX3) (T := TX3) (N := 7) hx hb hts hin3 hown hK hP 0 rfl rfl 0 (by decide) f10 (fun _ h9 => h9) rfl dX3_tired_1 ?_
  refine lv_iload_n hx hb dX3_tired_4 rfl (lv_at hl 1 rfl) ?_
  refine zc_i (fun u => (wM cI q se wo fO wI ++ wS cI q os fl wa fo sb lp fm pn tr fs sk ct nt ++ wD cI q so sd ti on he ++ wP cI q (nI n) il kn sp py bo)) [15, 16, 17, 18, 19] [0, 1, 2, 3, 4, 5, 6, 7, 8, 9, 10, 11, 12, 13, 14] [0, 1, 2, 3, 4, 5, 6, 7, 8, 9, 10, 11, 12, 13, 14, 15, 16, 17, 18, 19] (va_runV (As := [.int a1]) (rest := []) ⟨hx, hb, hml, hown, hts⟩ ((c_X1_has l D cI cZ q n il kn sp py bo a1 hn ) H.size) (cwV 1 hts gX3_tired_X1_has rfl rfl rfl (by decide +kernel) ⟨Nat.le_of_ble_eq_true rfl, Nat.le_of_ble_eq_true rfl⟩) (pv_of hK hN hP hD [15, 16, 17, 18, 19] rfl rfl 1 0 rfl rfl) rfl rfl hl.1 rfl (lv_room (Nat.le_of_ble_eq_true rfl)) dX3_tired_5 ⟨Nat.zero_le _, Nat.zero_le _⟩) hP hD hS hA rfl rfl rfl (by decide) (fun _ => rfl) rfl (fun r u H locs hu hP hD hS => ?_)
  subst hu
  have hP : va_P D vwCl (wM cI q se wo fO wI ++ wS cI q os fl wa fo sb lp fm pn tr fs sk ct nt ++ wD cI q so sd ti on he ++ wP cI q (nI n) il kn sp py bo) H := hP
  have hD : va_D A (wM cI q se wo fO wI ++ wS cI q os fl wa fo sb lp fm pn tr fs sk ct nt ++ wD cI q so sd ti on he ++ wP cI q (nI n) il kn sp py bo) := hD
  refine lv_if_eq (tgt := 18) hx hb dX3_tired_8 (by decide) (fun hc => ?_) (fun hc => ?_)
  · replace hw := hw.1 hc
    refine lv_bipush (v := (-2 : Int32)) hx hb dX3_tired_18 (by decide) ?_
    exact hret _ (ti, on, he) _ _ _ _ hw rfl hP hD hS dX3_tired_20
  · replace hw := hw.2 hc
    refine lv_iload_n hx hb dX3_tired_11 rfl (lv_at hl 2 rfl) ?_
    refine zc_i0 (va_runS (As := [.int a2]) (rest := []) ⟨hx, hb, hml, hown, hts⟩ ((c_X3_isHalf l D cI cZ a2  ) H.size) (va_cwS 1 hts gX3_tired_X3_isHalf rfl rfl rfl (by decide +kernel) ⟨Nat.le_of_ble_eq_true rfl, Nat.le_of_ble_eq_true rfl⟩) (ps_of hK hN hP hD [] rfl rfl) rfl rfl hl.1 rfl (lv_room (Nat.le_of_ble_eq_true rfl)) dX3_tired_12 ⟨Nat.zero_le _, Nat.zero_le _⟩) hP hD hS hA (fun r u H locs hu hP hD hS => ?_)
    subst hu
    refine lv_if_ne (tgt := 21) hx hb dX3_tired_15 (by decide) (fun hc => ?_) (fun hc => ?_)
    · replace hw := hw.2 hc
      refine lv_aload_n hx hb dX3_tired_21 rfl (lv_at hl 0 rfl) ?_
      refine va_get (D := D) (ci := 3) (v := .ref (q 11)) (C := RX3) (T := TX3) (N := 7) hx hb hts hin3 hown hK hP 0 rfl rfl 2 (by decide) f28 (fun _ h9 => h9) rfl dX3_tired_22 ?_
      refine lv_iload_n hx hb dX3_tired_25 rfl (lv_at hl 2 rfl) ?_
      obtain ⟨hp0, hw⟩ := hw
      refine zc_v (fun u => (wM cI q se wo fO wI ++ wS cI q os fl wa fo sb lp fm pn tr fs sk ct nt ++ wD cI q so sd u.1 u.2.1 u.2.2 ++ wP cI q (nI n) il kn sp py bo)) [9, 10, 11, 12, 13, 14, 15, 16, 17, 18, 19] [0, 1, 2, 3, 4, 5, 6, 7, 8] [0, 1, 2, 3, 4, 5, 6, 7, 8, 9, 10, 11, 12, 13, 14, 15, 16, 17, 18, 19] (va_runV (As := [.int a2]) (rest := []) ⟨hx, hb, hml, hown, hts⟩ ((c_X0_playThrough l D cI cZ q so sd ti on he n il kn sp py bo a2 hn hp0) H.size) (cwV 1 hts gX3_tired_X0_playThrough rfl rfl rfl (by decide +kernel) ⟨Nat.le_of_ble_eq_true rfl, Nat.le_of_ble_eq_true rfl⟩) (pv_of hK hN hP hD [9, 10, 11, 12, 13, 14, 15, 16, 17, 18, 19] rfl rfl 0 0 rfl rfl) rfl rfl hl.1 rfl (lv_room (Nat.le_of_ble_eq_true rfl)) dX3_tired_26 ⟨Nat.zero_le _, Nat.zero_le _⟩) hP hD hS hA rfl rfl rfl (by decide) (fun _ => rfl) rfl (fun u26 H locs hu hP hD hS => ?_)
      replace hw := hw u26 hu
      have hP : va_P D vwCl (wM cI q se wo fO wI ++ wS cI q os fl wa fo sb lp fm pn tr fs sk ct nt ++ wD cI q so sd u26.1 u26.2.1 u26.2.2 ++ wP cI q (nI n) il kn sp py bo) H := hP
      have hD : va_D A (wM cI q se wo fO wI ++ wS cI q os fl wa fo sb lp fm pn tr fs sk ct nt ++ wD cI q so sd u26.1 u26.2.1 u26.2.2 ++ wP cI q (nI n) il kn sp py bo) := hD
      refine lv_aload_n hx hb dX3_tired_29 rfl (lv_at hl 0 rfl) ?_
      refine va_get (D := D) (ci := 3) (v := .ref (q 11)) (C := RX3) (T := TX3) (N := 7) hx hb hts hin3 hown hK hP 0 rfl rfl 2 (by decide) f28 (fun _ h9 => h9) rfl dX3_tired_30 ?_
      refine va_getN (D := D) (ci := 0) (v := .ref (q 14)) (C := RX0) (T := TX0) (N := 6) hx hb hts hin0 hown hK hP 9 rfl rfl 3 (by decide) f139 (fun _ h9 => h9) rfl dX3_tired_33 ?_
      refine lv_iload_n hx hb dX3_tired_36 rfl (lv_at hl 1 rfl) ?_
      obtain ⟨hv, hw⟩ := hw
      refine va_iald hx hb hK hP 12 0 rfl rfl hv dX3_tired_37 ?_
      exact hret _ (u26.1, u26.2.1, u26.2.2) _ _ _ _ hw rfl hP hD hS dX3_tired_38
    · replace hw := hw.1 hc
      refine lv_bipush (v := (-2 : Int32)) hx hb dX3_tired_18 (by decide) ?_
      exact hret _ (ti, on, he) _ _ _ _ hw rfl hP hD hS dX3_tired_20
set_option maxHeartbeats 4000000 in
set_option maxRecDepth 100000 in
theorem c_X3_late (l : Launch) (D : va_G) (cI cZ : ClassId) (q : Nat → Nat) (se : Int32) (wo : Int32) (fO : Nat → Int32) (wI : Nat → Int32) (os : Int32) (fl : Int32) (wa : Int32) (fo : Int32) (sb : Int32) (lp : Int32) (fm : Int32) (pn : Int32) (tr : Nat → Int32) (fs : Nat → Int32) (sk : Nat → Int32) (ct : Nat → Int32) (nt : Nat → Int32) (so : Nat → Int32) (sd : Nat → Int32) (ti : Nat → Int32) (on : Nat → Int32) (he : Nat → Int32) (n : Nat) (il : Int32) (kn : Nat → Int32) (sp : Nat → Int32) (py : Nat → Int32) (bo : Nat → Int32) (a1 : Int32) (hn : n ≤ 6) : MI l yX3_late wsX3_late ({ frames := 16, cells := 0, slots := 0, locals := 640 }) D cI cZ [.ref (q 17), .int a1] (wM cI q se wo fO wI ++ wS cI q os fl wa fo sb lp fm pn tr fs sk ct nt ++ wD cI q so sd ti on he ++ wP cI q (nI n) il kn sp py bo) (fun u : (Nat → Int32) × (Nat → Int32) × (Nat → Int32) => (wM cI q se wo fO wI ++ wS cI q os fl wa fo sb lp fm pn tr fs sk ct nt ++ wD cI q so sd u.1 u.2.1 u.2.2 ++ wP cI q (nI n) il kn sp py bo)) (fun r u => r = (if inB a1 5 = true then laO n kn bo so sd (ti, on, he) a1 16 else (-2)) ∧ u = (if inB a1 5 = true then (plT n kn bo so sd (ti, on, he) 16) else (ti, on, he))) := by
  refine MI_of (cc := cX3_late) (maxL := 2) (ty := .int) (by decide) rfl (Nat.le_of_ble_eq_true rfl) (fun p e s m args below meth c A Q hx hb hml hown hts hK hN hA hret H locs ls hl hP hD hS => ?_)
  have hown : s.vm.findClass RX3 = some m.cls := hown
  have hl : lv_has ls 2 [(0, .ref (q 17)), (1, .int a1)] := hl
  have hin3 : ∀ w ∈ u_ws RX3 TX3 7, w ∈ wsX3_late := fun w h => List.mem_cons_of_mem _ (List.mem_append_left _ (List.mem_append_left _ (List.mem_append_right _ h)))
  have f28 : (Cond.fieldLink RX3 28 "GlassBooths" "day" "LGlassBooths$Day;").before args s = true := hts _ (by decide +kernel)
  have hw := h_X3_late n se wo fO wI os fl wa fo sb lp fm pn tr fs sk ct nt so sd il kn sp py bo ti on he a1 hn   
  unfold v_X3_late_0 at hw
  refine lv_iload_n hx hb dX3_late_0 rfl (lv_at hl 1 rfl) ?_
  refine zc_i0 (va_runS (As := [.int a1]) (rest := []) ⟨hx, hb, hml, hown, hts⟩ ((c_X3_isTongue l D cI cZ a1  ) H.size) (va_cwS 1 hts gX3_late_X3_isTongue rfl rfl rfl (by decide +kernel) ⟨Nat.le_of_ble_eq_true rfl, Nat.le_of_ble_eq_true rfl⟩) (ps_of hK hN hP hD [] rfl rfl) rfl rfl hl.1 rfl (lv_room (Nat.le_of_ble_eq_true rfl)) dX3_late_1 ⟨Nat.zero_le _, Nat.zero_le _⟩) hP hD hS hA (fun r u H locs hu hP hD hS => ?_)
  subst hu
  refine lv_if_ne (tgt := 10) hx hb dX3_late_4 (by decide) (fun hc => ?_) (fun hc => ?_)
  · replace hw := hw.2 hc
    refine lv_aload_n hx hb dX3_late_10 rfl (lv_at hl 0 rfl) ?_
    refine va_get (D := D) (ci := 3) (v := .ref (q 11)) (C := RX3) (T := TX3) (N := 7) hx hb hts hin3 hown hK hP 0 rfl rfl 2 (by decide) f28 (fun _ h9 => h9) rfl dX3_late_11 ?_
    refine lv_iload_n hx hb dX3_late_14 rfl (lv_at hl 1 rfl) ?_
    obtain ⟨hp0, hw⟩ := hw
    refine zc_i (fun u => (wM cI q se wo fO wI ++ wS cI q os fl wa fo sb lp fm pn tr fs sk ct nt ++ wD cI q so sd u.1 u.2.1 u.2.2 ++ wP cI q (nI n) il kn sp py bo)) [9, 10, 11, 12, 13, 14, 15, 16, 17, 18, 19] [0, 1, 2, 3, 4, 5, 6, 7, 8] [0, 1, 2, 3, 4, 5, 6, 7, 8, 9, 10, 11, 12, 13, 14, 15, 16, 17, 18, 19] (va_runV (As := [.int a1]) (rest := []) ⟨hx, hb, hml, hown, hts⟩ ((c_X0_lateOverall l D cI cZ q so sd ti on he n il kn sp py bo a1 hn hp0) H.size) (cwV 1 hts gX3_late_X0_lateOverall rfl rfl rfl (by decide +kernel) ⟨Nat.le_of_ble_eq_true rfl, Nat.le_of_ble_eq_true rfl⟩) (pv_of hK hN hP hD [9, 10, 11, 12, 13, 14, 15, 16, 17, 18, 19] rfl rfl 0 0 rfl rfl) rfl rfl hl.1 rfl (lv_room (Nat.le_of_ble_eq_true rfl)) dX3_late_15 ⟨Nat.zero_le _, Nat.zero_le _⟩) hP hD hS hA rfl rfl rfl (by decide) (fun _ => rfl) rfl (fun r u15 H locs hu hP hD hS => ?_)
    obtain ⟨rfl, hu⟩ := hu
    replace hw := hw u15 hu
    have hP : va_P D vwCl (wM cI q se wo fO wI ++ wS cI q os fl wa fo sb lp fm pn tr fs sk ct nt ++ wD cI q so sd u15.1 u15.2.1 u15.2.2 ++ wP cI q (nI n) il kn sp py bo) H := hP
    have hD : va_D A (wM cI q se wo fO wI ++ wS cI q os fl wa fo sb lp fm pn tr fs sk ct nt ++ wD cI q so sd u15.1 u15.2.1 u15.2.2 ++ wP cI q (nI n) il kn sp py bo) := hD
    exact hret _ (u15.1, u15.2.1, u15.2.2) _ _ _ _ hw rfl hP hD hS dX3_late_18
  · replace hw := hw.1 hc
    refine lv_bipush (v := (-2 : Int32)) hx hb dX3_late_7 (by decide) ?_
    exact hret _ (ti, on, he) _ _ _ _ hw rfl hP hD hS dX3_late_9
set_option maxHeartbeats 4000000 in
set_option maxRecDepth 100000 in
theorem c_X3_worn (l : Launch) (D : va_G) (cI cZ : ClassId) (q : Nat → Nat) (se : Int32) (wo : Int32) (fO : Nat → Int32) (wI : Nat → Int32) (os : Int32) (fl : Int32) (wa : Int32) (fo : Int32) (sb : Int32) (lp : Int32) (fm : Int32) (pn : Int32) (tr : Nat → Int32) (fs : Nat → Int32) (sk : Nat → Int32) (ct : Nat → Int32) (nt : Nat → Int32) (so : Nat → Int32) (sd : Nat → Int32) (ti : Nat → Int32) (on : Nat → Int32) (he : Nat → Int32) (n : Nat) (il : Int32) (kn : Nat → Int32) (sp : Nat → Int32) (py : Nat → Int32) (bo : Nat → Int32) (hn : n ≤ 6) : MI l yX3_worn wsX3_worn ({ frames := 16, cells := 0, slots := 0, locals := 640 }) D cI cZ [.ref (q 17)] (wM cI q se wo fO wI ++ wS cI q os fl wa fo sb lp fm pn tr fs sk ct nt ++ wD cI q so sd ti on he ++ wP cI q (nI n) il kn sp py bo) (fun u : (Nat → Int32) × (Nat → Int32) × (Nat → Int32) => (wM cI q se wo fO wI ++ wS cI q os fl wa fo sb lp fm pn tr fs sk ct nt ++ wD cI q so sd u.1 u.2.1 u.2.2 ++ wP cI q (nI n) il kn sp py bo)) (fun r u => r = woO n kn bo so sd (ti, on, he) wo 16 ∧ u = (plT n kn bo so sd (ti, on, he) 16)) := by
  refine MI_of (cc := cX3_worn) (maxL := 1) (ty := .int) (by decide) rfl (Nat.le_of_ble_eq_true rfl) (fun p e s m args below meth c A Q hx hb hml hown hts hK hN hA hret H locs ls hl hP hD hS => ?_)
  have hown : s.vm.findClass RX3 = some m.cls := hown
  have hl : lv_has ls 1 [(0, .ref (q 17))] := hl
  have hin3 : ∀ w ∈ u_ws RX3 TX3 7, w ∈ wsX3_worn := fun w h => List.mem_cons_of_mem _ (List.mem_append_left _ (List.mem_append_left _ (List.mem_append_right _ h)))
  have f28 : (Cond.fieldLink RX3 28 "GlassBooths" "day" "LGlassBooths$Day;").before args s = true := hts _ (by decide +kernel)
  have f43 : (Cond.fieldLink RX3 43 "GlassBooths" "wornAbove" "I").before args s = true := hts _ (by decide +kernel)
  have hw := h_X3_worn n se wo fO wI os fl wa fo sb lp fm pn tr fs sk ct nt so sd il kn sp py bo ti on he  hn   
  unfold v_X3_worn_0 at hw
  refine lv_aload_n hx hb dX3_worn_0 rfl (lv_at hl 0 rfl) ?_
  refine va_get (D := D) (ci := 3) (v := .ref (q 11)) (C := RX3) (T := TX3) (N := 7) hx hb hts hin3 hown hK hP 0 rfl rfl 2 (by decide) f28 (fun _ h9 => h9) rfl dX3_worn_1 ?_
  refine lv_aload_n hx hb dX3_worn_4 rfl (lv_at hl 0 rfl) ?_
  refine va_get (D := D) (ci := 3) (v := .int wo) (C := RX3) (T := TX3) (N := 7) hx hb hts hin3 hown hK hP 0 rfl rfl 6 (by decide) f43 (fun _ h9 => h9) rfl dX3_worn_5 ?_
  refine zc_i (fun u => (wM cI q se wo fO wI ++ wS cI q os fl wa fo sb lp fm pn tr fs sk ct nt ++ wD cI q so sd u.1 u.2.1 u.2.2 ++ wP cI q (nI n) il kn sp py bo)) [9, 10, 11, 12, 13, 14, 15, 16, 17, 18, 19] [0, 1, 2, 3, 4, 5, 6, 7, 8] [0, 1, 2, 3, 4, 5, 6, 7, 8, 9, 10, 11, 12, 13, 14, 15, 16, 17, 18, 19] (va_runV (As := [.int wo]) (rest := []) ⟨hx, hb, hml, hown, hts⟩ ((c_X0_wornBits l D cI cZ q so sd ti on he n il kn sp py bo wo hn ) H.size) (cwV 1 hts gX3_worn_X0_wornBits rfl rfl rfl (by decide +kernel) ⟨Nat.le_of_ble_eq_true rfl, Nat.le_of_ble_eq_true rfl⟩) (pv_of hK hN hP hD [9, 10, 11, 12, 13, 14, 15, 16, 17, 18, 19] rfl rfl 0 0 rfl rfl) rfl rfl hl.1 rfl (lv_room (Nat.le_of_ble_eq_true rfl)) dX3_worn_8 ⟨Nat.zero_le _, Nat.zero_le _⟩) hP hD hS hA rfl rfl rfl (by decide) (fun _ => rfl) rfl (fun r u8 H locs hu hP hD hS => ?_)
  obtain ⟨rfl, hu⟩ := hu
  replace hw := hw u8 hu
  have hP : va_P D vwCl (wM cI q se wo fO wI ++ wS cI q os fl wa fo sb lp fm pn tr fs sk ct nt ++ wD cI q so sd u8.1 u8.2.1 u8.2.2 ++ wP cI q (nI n) il kn sp py bo) H := hP
  have hD : va_D A (wM cI q se wo fO wI ++ wS cI q os fl wa fo sb lp fm pn tr fs sk ct nt ++ wD cI q so sd u8.1 u8.2.1 u8.2.2 ++ wP cI q (nI n) il kn sp py bo) := hD
  exact hret _ (u8.1, u8.2.1, u8.2.2) _ _ _ _ hw rfl hP hD hS dX3_worn_11
set_option maxHeartbeats 4000000 in
set_option maxRecDepth 100000 in
theorem c_X3_count (l : Launch) (D : va_G) (cI cZ : ClassId) (q : Nat → Nat) (se : Int32) (wo : Int32) (fO : Nat → Int32) (wI : Nat → Int32) (os : Int32) (fl : Int32) (wa : Int32) (fo : Int32) (sb : Int32) (lp : Int32) (fm : Int32) (pn : Int32) (tr : Nat → Int32) (fs : Nat → Int32) (sk : Nat → Int32) (ct : Nat → Int32) (nt : Nat → Int32) (so : Nat → Int32) (sd : Nat → Int32) (ti : Nat → Int32) (on : Nat → Int32) (he : Nat → Int32) (n : Nat) (il : Int32) (kn : Nat → Int32) (sp : Nat → Int32) (py : Nat → Int32) (bo : Nat → Int32) (a1 : Int32) (hn : n ≤ 6) : MI l yX3_count wsX3_count ({ frames := 10, cells := 0, slots := 0, locals := 400 }) D cI cZ [.ref (q 17), .int a1] (wM cI q se wo fO wI ++ wS cI q os fl wa fo sb lp fm pn tr fs sk ct nt ++ wD cI q so sd ti on he ++ wP cI q (nI n) il kn sp py bo) (fun _ : Unit => (wM cI q se wo fO wI ++ wS cI q os fl wa fo sb lp fm pn tr fs sk ct nt ++ wD cI q so sd ti on he ++ wP cI q (nI n) il kn sp py bo)) (fun r _ => r = coR n il bo so se a1) := by
  refine MI_of (cc := cX3_count) (maxL := 2) (ty := .int) (by decide) rfl (Nat.le_of_ble_eq_true rfl) (fun p e s m args below meth c A Q hx hb hml hown hts hK hN hA hret H locs ls hl hP hD hS => ?_)
  have hown : s.vm.findClass RX3 = some m.cls := hown
  have hl : lv_has ls 2 [(0, .ref (q 17)), (1, .int a1)] := hl
  have hin1 : ∀ w ∈ u_ws RX1 TX1 6, w ∈ wsX3_count := fun w h => List.mem_cons_of_mem _ (List.mem_append_left _ (List.mem_append_right _ h))
  have hin3 : ∀ w ∈ u_ws RX3 TX3 7, w ∈ wsX3_count := fun w h => List.mem_cons_of_mem _ (List.mem_append_left _ (List.mem_append_left _ (List.mem_append_right _ h)))
  have f10 : (Cond.fieldLink RX3 10 "GlassBooths" "people" "LGlassBooths$People;").before args s = true := hts _ (by decide +kernel)
  have f148 : (Cond.fieldLinkNest RX3 148 "GlassBooths$People" "size" "I" "GlassBooths").before args s = true := va_Nw.use rfl (hN _ (List.mem_of_getElem? (i := 3) rfl))
  have f151 : (Cond.fieldLinkNest RX3 151 "GlassBooths$People" "illBits" "I" "GlassBooths").before args s = true := va_Nw.use rfl (hN _ (List.mem_of_getElem? (i := 4) rfl))
  have f28 : (Cond.fieldLink RX3 28 "GlassBooths" "day" "LGlassBooths$Day;").before args s = true := hts _ (by decide +kernel)
  have f39 : (Cond.fieldLink RX3 39 "GlassBooths" "seatsEach" "I").before args s = true := hts _ (by decide +kernel)
  have hw := h_X3_count n se wo fO wI os fl wa fo sb lp fm pn tr fs sk ct nt so sd ti on he il kn sp py bo  a1 hn   
  unfold v_X3_count_0 at hw
  refine lv_iload_n hx hb dX3_count_0 rfl (lv_at hl 1 rfl) ?_
  by_cases hc0 : a1 = 0
  · refine lv_tableIn (tgt := 36) (x := a1) hx hb dX3_count_1 (by rw [hc0]; decide) (by rw [hc0]; decide) (by rw [hc0]; rfl) (by decide) ?_
    replace hw := hw.1 hc0
    refine lv_aload_n hx hb dX3_count_36 rfl (lv_at hl 0 rfl) ?_
    refine va_get (D := D) (ci := 3) (v := .ref (q 0)) (C := RX3) (T := TX3) (N := 7) hx hb hts hin3 hown hK hP 0 rfl rfl 0 (by decide) f10 (fun _ h9 => h9) rfl dX3_count_37 ?_
    refine va_getN (D := D) (ci := 1) (v := .int (nI n)) (C := RX1) (T := TX1) (N := 6) hx hb hts hin1 hown hK hP 15 rfl rfl 4 (by decide) f148 (fun _ h9 => h9) rfl dX3_count_40 ?_
    exact hret _ () _ _ _ _ hw rfl hP hD hS dX3_count_43
  · by_cases hc1 : a1 = 1
    · refine lv_tableIn (tgt := 44) (x := a1) hx hb dX3_count_1 (by rw [hc1]; decide) (by rw [hc1]; decide) (by rw [hc1]; rfl) (by decide) ?_
      replace hw := hw.2.1 hc1
      refine lv_aload_n hx hb dX3_count_44 rfl (lv_at hl 0 rfl) ?_
      refine va_get (D := D) (ci := 3) (v := .ref (q 0)) (C := RX3) (T := TX3) (N := 7) hx hb hts hin3 hown hK hP 0 rfl rfl 0 (by decide) f10 (fun _ h9 => h9) rfl dX3_count_45 ?_
      refine va_getN (D := D) (ci := 1) (v := .int il) (C := RX1) (T := TX1) (N := 6) hx hb hts hin1 hown hK hP 15 rfl rfl 5 (by decide) f151 (fun _ h9 => h9) rfl dX3_count_48 ?_
      refine zc_i0 (va_runS (As := [.int il]) (rest := []) ⟨hx, hb, hml, hown, hts⟩ ((c_J6_bitCount_0f7a4 l D cI cZ il  ) H.size) (va_cwS 1 hts gX3_count_J6_bitCount_0f7a4 rfl rfl rfl (by decide +kernel) ⟨Nat.le_of_ble_eq_true rfl, Nat.le_of_ble_eq_true rfl⟩) (ps_of hK hN hP hD [] rfl rfl) rfl rfl hl.1 rfl (lv_room (Nat.le_of_ble_eq_true rfl)) dX3_count_51 ⟨Nat.zero_le _, Nat.zero_le _⟩) hP hD hS hA (fun r u H locs hu hP hD hS => ?_)
      subst hu
      exact hret _ () _ _ _ _ hw rfl hP hD hS dX3_count_54
    · by_cases hc2 : a1 = 2
      · refine lv_tableIn (tgt := 55) (x := a1) hx hb dX3_count_1 (by rw [hc2]; decide) (by rw [hc2]; decide) (by rw [hc2]; rfl) (by decide) ?_
        replace hw := hw.2.2.1 hc2
        refine lv_aload_n hx hb dX3_count_55 rfl (lv_at hl 0 rfl) ?_
        refine va_get (D := D) (ci := 3) (v := .ref (q 0)) (C := RX3) (T := TX3) (N := 7) hx hb hts hin3 hown hK hP 0 rfl rfl 0 (by decide) f10 (fun _ h9 => h9) rfl dX3_count_56 ?_
        refine zc_i (fun u => (wM cI q se wo fO wI ++ wS cI q os fl wa fo sb lp fm pn tr fs sk ct nt ++ wD cI q so sd ti on he ++ wP cI q (nI n) il kn sp py bo)) [15, 16, 17, 18, 19] [0, 1, 2, 3, 4, 5, 6, 7, 8, 9, 10, 11, 12, 13, 14] [0, 1, 2, 3, 4, 5, 6, 7, 8, 9, 10, 11, 12, 13, 14, 15, 16, 17, 18, 19] (va_runV (As := []) (rest := []) ⟨hx, hb, hml, hown, hts⟩ ((c_X1_seated l D cI cZ q n il kn sp py bo hn ) H.size) (cwV 0 hts gX3_count_X1_seated rfl rfl rfl (by decide +kernel) ⟨Nat.le_of_ble_eq_true rfl, Nat.le_of_ble_eq_true rfl⟩) (pv_of hK hN hP hD [15, 16, 17, 18, 19] rfl rfl 1 0 rfl rfl) rfl rfl hl.1 rfl (lv_room (Nat.le_of_ble_eq_true rfl)) dX3_count_59 ⟨Nat.zero_le _, Nat.zero_le _⟩) hP hD hS hA rfl rfl rfl (by decide) (fun _ => rfl) rfl (fun r u H locs hu hP hD hS => ?_)
        subst hu
        have hP : va_P D vwCl (wM cI q se wo fO wI ++ wS cI q os fl wa fo sb lp fm pn tr fs sk ct nt ++ wD cI q so sd ti on he ++ wP cI q (nI n) il kn sp py bo) H := hP
        have hD : va_D A (wM cI q se wo fO wI ++ wS cI q os fl wa fo sb lp fm pn tr fs sk ct nt ++ wD cI q so sd ti on he ++ wP cI q (nI n) il kn sp py bo) := hD
        exact hret _ () _ _ _ _ hw rfl hP hD hS dX3_count_62
      · by_cases hc3 : a1 = 3
        · refine lv_tableIn (tgt := 63) (x := a1) hx hb dX3_count_1 (by rw [hc3]; decide) (by rw [hc3]; decide) (by rw [hc3]; rfl) (by decide) ?_
          replace hw := hw.2.2.2.1 hc3
          refine lv_aload_n hx hb dX3_count_63 rfl (lv_at hl 0 rfl) ?_
          refine va_get (D := D) (ci := 3) (v := .ref (q 11)) (C := RX3) (T := TX3) (N := 7) hx hb hts hin3 hown hK hP 0 rfl rfl 2 (by decide) f28 (fun _ h9 => h9) rfl dX3_count_64 ?_
          refine zc_i (fun u => (wM cI q se wo fO wI ++ wS cI q os fl wa fo sb lp fm pn tr fs sk ct nt ++ wD cI q so sd ti on he ++ wP cI q (nI n) il kn sp py bo)) [9, 10, 11, 12, 13, 14, 15, 16, 17, 18, 19] [0, 1, 2, 3, 4, 5, 6, 7, 8] [0, 1, 2, 3, 4, 5, 6, 7, 8, 9, 10, 11, 12, 13, 14, 15, 16, 17, 18, 19] (va_runV (As := []) (rest := []) ⟨hx, hb, hml, hown, hts⟩ ((c_X0_spokenHalves l D cI cZ q so sd ti on he n il kn sp py bo hn ) H.size) (cwV 0 hts gX3_count_X0_spokenHalves rfl rfl rfl (by decide +kernel) ⟨Nat.le_of_ble_eq_true rfl, Nat.le_of_ble_eq_true rfl⟩) (pv_of hK hN hP hD [9, 10, 11, 12, 13, 14, 15, 16, 17, 18, 19] rfl rfl 0 0 rfl rfl) rfl rfl hl.1 rfl (lv_room (Nat.le_of_ble_eq_true rfl)) dX3_count_67 ⟨Nat.zero_le _, Nat.zero_le _⟩) hP hD hS hA rfl rfl rfl (by decide) (fun _ => rfl) rfl (fun r u H locs hu hP hD hS => ?_)
          subst hu
          have hP : va_P D vwCl (wM cI q se wo fO wI ++ wS cI q os fl wa fo sb lp fm pn tr fs sk ct nt ++ wD cI q so sd ti on he ++ wP cI q (nI n) il kn sp py bo) H := hP
          have hD : va_D A (wM cI q se wo fO wI ++ wS cI q os fl wa fo sb lp fm pn tr fs sk ct nt ++ wD cI q so sd ti on he ++ wP cI q (nI n) il kn sp py bo) := hD
          exact hret _ () _ _ _ _ hw rfl hP hD hS dX3_count_70
        · by_cases hc4 : a1 = 4
          · refine lv_tableIn (tgt := 71) (x := a1) hx hb dX3_count_1 (by rw [hc4]; decide) (by rw [hc4]; decide) (by rw [hc4]; rfl) (by decide) ?_
            replace hw := hw.2.2.2.2.1 hc4
            refine lv_aload_n hx hb dX3_count_71 rfl (lv_at hl 0 rfl) ?_
            refine va_get (D := D) (ci := 3) (v := .int se) (C := RX3) (T := TX3) (N := 7) hx hb hts hin3 hown hK hP 0 rfl rfl 5 (by decide) f39 (fun _ h9 => h9) rfl dX3_count_72 ?_
            exact hret _ () _ _ _ _ hw rfl hP hD hS dX3_count_75
          · refine lv_tableOut (tgt := 76) (x := a1) hx hb dX3_count_1 (sw_out hc0 hc1 hc2 hc3 hc4) (by decide) ?_
            replace hw := hw.2.2.2.2.2 ⟨hc0, hc1, hc2, hc3, hc4⟩
            refine lv_bipush (v := (-3 : Int32)) hx hb dX3_count_76 (by decide) ?_
            exact hret _ () _ _ _ _ hw rfl hP hD hS dX3_count_78
