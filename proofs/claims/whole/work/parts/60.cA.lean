set_option maxHeartbeats 4000000 in
set_option maxRecDepth 100000 in
theorem c_X3_holds (l : Launch) (D : va_G) (cI cZ : ClassId) (a0 : Int32) (a1 : Int32) : MI l yX3_holds wsX3_holds ({ frames := 2, cells := 0, slots := 0, locals := 64 }) D cI cZ [.int a0, .int a1] ([] : va_W) (fun _ : Unit => ([] : va_W)) (fun r _ => r = bI (hs a0 a1)) := by
  refine MI_of (cc := cX3_holds) (maxL := 2) (ty := .boolean) (by decide) rfl (Nat.le_of_ble_eq_true rfl) (fun p e s m args below meth c A Q hx hb hml hown hts hK hN hA hret H locs ls hl hP hD hS => ?_)
  have hown : s.vm.findClass RX3 = some m.cls := hown
  have hl : lv_has ls 2 [(0, .int a0), (1, .int a1)] := hl
  have hw := h_X3_holds   a0 a1    
  unfold v_X3_holds_0 at hw
  refine lv_iload_n hx hb dX3_holds_0 rfl (lv_at hl 0 rfl) ?_
  refine lv_iload_n hx hb dX3_holds_1 rfl (lv_at hl 1 rfl) ?_
  refine lv_ishr hx hb dX3_holds_2 ?_
  refine lv_iconst (v := (1 : Int32)) hx hb dX3_holds_3 (by decide) ?_
  refine lv_iand hx hb dX3_holds_4 ?_
  refine lv_iconst (v := (1 : Int32)) hx hb dX3_holds_5 (by decide) ?_
  refine lv_icmp_ne (tgt := 13) hx hb dX3_holds_6 (by decide) (fun hc => ?_) (fun hc => ?_)
  · replace hw := hw.2 hc
    refine lv_iconst (v := (0 : Int32)) hx hb dX3_holds_13 (by decide) ?_
    exact hret _ () _ _ _ _ hw (by first | exact bI_nar _ | rfl | decide) hP hD hS dX3_holds_14
  · replace hw := hw.1 hc
    refine lv_iconst (v := (1 : Int32)) hx hb dX3_holds_9 (by decide) ?_
    refine lv_goto (tgt := 14) hx hb dX3_holds_10 (by decide) ?_
    exact hret _ () _ _ _ _ hw (by first | exact bI_nar _ | rfl | decide) hP hD hS dX3_holds_14
set_option maxHeartbeats 4000000 in
set_option maxRecDepth 100000 in
theorem c_X3_isSession (l : Launch) (D : va_G) (cI cZ : ClassId) (a0 : Int32) : MI l yX3_isSession wsX3_isSession ({ frames := 2, cells := 0, slots := 0, locals := 64 }) D cI cZ [.int a0] ([] : va_W) (fun _ : Unit => ([] : va_W)) (fun r _ => r = bI (inB a0 2)) := by
  refine MI_of (cc := cX3_isSession) (maxL := 1) (ty := .boolean) (by decide) rfl (Nat.le_of_ble_eq_true rfl) (fun p e s m args below meth c A Q hx hb hml hown hts hK hN hA hret H locs ls hl hP hD hS => ?_)
  have hown : s.vm.findClass RX3 = some m.cls := hown
  have hl : lv_has ls 1 [(0, .int a0)] := hl
  have hw := h_X3_isSession   a0    
  unfold v_X3_isSession_0 at hw
  refine lv_iload_n hx hb dX3_isSession_0 rfl (lv_at hl 0 rfl) ?_
  refine lv_if_lt (tgt := 13) hx hb dX3_isSession_1 (by decide) (fun hc => ?_) (fun hc => ?_)
  · replace hw := hw.1 hc
    refine lv_iconst (v := (0 : Int32)) hx hb dX3_isSession_13 (by decide) ?_
    exact hret _ () _ _ _ _ hw (by first | exact bI_nar _ | rfl | decide) hP hD hS dX3_isSession_14
  · replace hw := hw.2 hc
    refine lv_iload_n hx hb dX3_isSession_4 rfl (lv_at hl 0 rfl) ?_
    refine lv_iconst (v := (2 : Int32)) hx hb dX3_isSession_5 (by decide) ?_
    refine lv_icmp_ge (tgt := 13) hx hb dX3_isSession_6 (by decide) (fun hc => ?_) (fun hc => ?_)
    · replace hw := hw.1 hc
      refine lv_iconst (v := (0 : Int32)) hx hb dX3_isSession_13 (by decide) ?_
      exact hret _ () _ _ _ _ hw (by first | exact bI_nar _ | rfl | decide) hP hD hS dX3_isSession_14
    · replace hw := hw.2 hc
      refine lv_iconst (v := (1 : Int32)) hx hb dX3_isSession_9 (by decide) ?_
      refine lv_goto (tgt := 14) hx hb dX3_isSession_10 (by decide) ?_
      exact hret _ () _ _ _ _ hw (by first | exact bI_nar _ | rfl | decide) hP hD hS dX3_isSession_14
set_option maxHeartbeats 4000000 in
set_option maxRecDepth 100000 in
theorem c_X3_isTongue (l : Launch) (D : va_G) (cI cZ : ClassId) (a0 : Int32) : MI l yX3_isTongue wsX3_isTongue ({ frames := 2, cells := 0, slots := 0, locals := 64 }) D cI cZ [.int a0] ([] : va_W) (fun _ : Unit => ([] : va_W)) (fun r _ => r = bI (inB a0 5)) := by
  refine MI_of (cc := cX3_isTongue) (maxL := 1) (ty := .boolean) (by decide) rfl (Nat.le_of_ble_eq_true rfl) (fun p e s m args below meth c A Q hx hb hml hown hts hK hN hA hret H locs ls hl hP hD hS => ?_)
  have hown : s.vm.findClass RX3 = some m.cls := hown
  have hl : lv_has ls 1 [(0, .int a0)] := hl
  have hw := h_X3_isTongue   a0    
  unfold v_X3_isTongue_0 at hw
  refine lv_iload_n hx hb dX3_isTongue_0 rfl (lv_at hl 0 rfl) ?_
  refine lv_if_lt (tgt := 13) hx hb dX3_isTongue_1 (by decide) (fun hc => ?_) (fun hc => ?_)
  · replace hw := hw.1 hc
    refine lv_iconst (v := (0 : Int32)) hx hb dX3_isTongue_13 (by decide) ?_
    exact hret _ () _ _ _ _ hw (by first | exact bI_nar _ | rfl | decide) hP hD hS dX3_isTongue_14
  · replace hw := hw.2 hc
    refine lv_iload_n hx hb dX3_isTongue_4 rfl (lv_at hl 0 rfl) ?_
    refine lv_iconst (v := (5 : Int32)) hx hb dX3_isTongue_5 (by decide) ?_
    refine lv_icmp_ge (tgt := 13) hx hb dX3_isTongue_6 (by decide) (fun hc => ?_) (fun hc => ?_)
    · replace hw := hw.1 hc
      refine lv_iconst (v := (0 : Int32)) hx hb dX3_isTongue_13 (by decide) ?_
      exact hret _ () _ _ _ _ hw (by first | exact bI_nar _ | rfl | decide) hP hD hS dX3_isTongue_14
    · replace hw := hw.2 hc
      refine lv_iconst (v := (1 : Int32)) hx hb dX3_isTongue_9 (by decide) ?_
      refine lv_goto (tgt := 14) hx hb dX3_isTongue_10 (by decide) ?_
      exact hret _ () _ _ _ _ hw (by first | exact bI_nar _ | rfl | decide) hP hD hS dX3_isTongue_14
set_option maxHeartbeats 4000000 in
set_option maxRecDepth 100000 in
theorem c_X3_isHalf (l : Launch) (D : va_G) (cI cZ : ClassId) (a0 : Int32) : MI l yX3_isHalf wsX3_isHalf ({ frames := 2, cells := 0, slots := 0, locals := 64 }) D cI cZ [.int a0] ([] : va_W) (fun _ : Unit => ([] : va_W)) (fun r _ => r = bI (inB a0 16)) := by
  refine MI_of (cc := cX3_isHalf) (maxL := 1) (ty := .boolean) (by decide) rfl (Nat.le_of_ble_eq_true rfl) (fun p e s m args below meth c A Q hx hb hml hown hts hK hN hA hret H locs ls hl hP hD hS => ?_)
  have hown : s.vm.findClass RX3 = some m.cls := hown
  have hl : lv_has ls 1 [(0, .int a0)] := hl
  have hw := h_X3_isHalf   a0    
  unfold v_X3_isHalf_0 at hw
  refine lv_iload_n hx hb dX3_isHalf_0 rfl (lv_at hl 0 rfl) ?_
  refine lv_if_lt (tgt := 14) hx hb dX3_isHalf_1 (by decide) (fun hc => ?_) (fun hc => ?_)
  · replace hw := hw.1 hc
    refine lv_iconst (v := (0 : Int32)) hx hb dX3_isHalf_14 (by decide) ?_
    exact hret _ () _ _ _ _ hw (by first | exact bI_nar _ | rfl | decide) hP hD hS dX3_isHalf_15
  · replace hw := hw.2 hc
    refine lv_iload_n hx hb dX3_isHalf_4 rfl (lv_at hl 0 rfl) ?_
    refine lv_bipush (v := (16 : Int32)) hx hb dX3_isHalf_5 (by decide) ?_
    refine lv_icmp_ge (tgt := 14) hx hb dX3_isHalf_7 (by decide) (fun hc => ?_) (fun hc => ?_)
    · replace hw := hw.1 hc
      refine lv_iconst (v := (0 : Int32)) hx hb dX3_isHalf_14 (by decide) ?_
      exact hret _ () _ _ _ _ hw (by first | exact bI_nar _ | rfl | decide) hP hD hS dX3_isHalf_15
    · replace hw := hw.2 hc
      refine lv_iconst (v := (1 : Int32)) hx hb dX3_isHalf_10 (by decide) ?_
      refine lv_goto (tgt := 15) hx hb dX3_isHalf_11 (by decide) ?_
      exact hret _ () _ _ _ _ hw (by first | exact bI_nar _ | rfl | decide) hP hD hS dX3_isHalf_15
set_option maxHeartbeats 4000000 in
set_option maxRecDepth 100000 in
theorem c_X3_areTongues (l : Launch) (D : va_G) (cI cZ : ClassId) (a0 : Int32) : MI l yX3_areTongues wsX3_areTongues ({ frames := 2, cells := 0, slots := 0, locals := 64 }) D cI cZ [.int a0] ([] : va_W) (fun _ : Unit => ([] : va_W)) (fun r _ => r = bI (decide (a0 &&& (-32) = 0))) := by
  refine MI_of (cc := cX3_areTongues) (maxL := 1) (ty := .boolean) (by decide) rfl (Nat.le_of_ble_eq_true rfl) (fun p e s m args below meth c A Q hx hb hml hown hts hK hN hA hret H locs ls hl hP hD hS => ?_)
  have hown : s.vm.findClass RX3 = some m.cls := hown
  have hl : lv_has ls 1 [(0, .int a0)] := hl
  have hw := h_X3_areTongues   a0    
  unfold v_X3_areTongues_0 at hw
  refine lv_iload_n hx hb dX3_areTongues_0 rfl (lv_at hl 0 rfl) ?_
  refine lv_bipush (v := (-32 : Int32)) hx hb dX3_areTongues_1 (by decide) ?_
  refine lv_iand hx hb dX3_areTongues_3 ?_
  refine lv_if_ne (tgt := 11) hx hb dX3_areTongues_4 (by decide) (fun hc => ?_) (fun hc => ?_)
  · replace hw := hw.2 hc
    refine lv_iconst (v := (0 : Int32)) hx hb dX3_areTongues_11 (by decide) ?_
    exact hret _ () _ _ _ _ hw (by first | exact bI_nar _ | rfl | decide) hP hD hS dX3_areTongues_12
  · replace hw := hw.1 hc
    refine lv_iconst (v := (1 : Int32)) hx hb dX3_areTongues_7 (by decide) ?_
    refine lv_goto (tgt := 12) hx hb dX3_areTongues_8 (by decide) ?_
    exact hret _ () _ _ _ _ hw (by first | exact bI_nar _ | rfl | decide) hP hD hS dX3_areTongues_12
set_option maxHeartbeats 4000000 in
set_option maxRecDepth 100000 in
theorem c_J7_fill_53178 (l : Launch) (D : va_G) (cI cZ : ClassId) (a : Nat) (N : Nat) (f : Nat → Int32) (a1 : Int32) (h0 : N < 1000) : MV l yJ7_fill_53178 wsJ7_fill_53178 ({ frames := 2, cells := 0, slots := 0, locals := 64 }) D cI cZ [.ref a, .int a1] ([(a, .inl (cI, N, .inl f))]) (fun u : (Nat → Int32) => ([(a, .inl (cI, N, .inl u))])) (fun u => u = fillA f N a1) := by
  refine MV_of (cc := cJ7_fill_53178) (maxL := 4) (by decide) rfl (Nat.le_of_ble_eq_true rfl) (fun p e s m args below meth c A Q hx hb hml hown hts hK hN hA hret H locs ls hl hP hD hS => ?_)
  have hown : s.vm.findClass RJ7 = some m.cls := hown
  have hl : lv_has ls 4 [(0, .ref a), (1, .int a1)] := hl
  obtain ⟨K5, k5i, k5e⟩ := ex_K4 (fun (x1 : Int32) (x2 : Int32) (x3 : Int32) (f_ : Nat → Int32) => ∀ (H : Heap) (locs : List Loc) (ls : Array Slot), lv_has ls 4 [(0, .ref a), (1, .int x1), (2, .int x2), (3, .int x3)] → va_P D vwCl ([(a, .inl (cI, N, .inl f_))]) H → va_D A ([(a, .inl (cI, N, .inl f_))]) → va_S A s.heap H locs → W p l e (headSpec wsJ7_fill_53178 ({ frames := 2, cells := 0, slots := 0, locals := 64 })).room s m args below meth c H locs 0 0 Q (F0 m 5 ls []))
  have R5 : ∀ x1 x2 x3 f_, v_J7_fill_53178_5 N (fun u => u = fillA f N a1) K5 x1 x2 x3 f_ → K5 x1 x2 x3 f_ := by
    intro x1 x2 x3 f_ hw
    refine k5i _ _ _ _ ?_
    intro H locs ls hl hP hD hS
    unfold v_J7_fill_53178_5 at hw
    refine lv_iload_n hx hb dJ7_fill_53178_5 rfl (lv_at hl 2 rfl) ?_
    refine lv_iload_n hx hb dJ7_fill_53178_6 rfl (lv_at hl 3 rfl) ?_
    refine lv_icmp_ge (tgt := 20) hx hb dJ7_fill_53178_7 (by decide) (fun hc => ?_) (fun hc => ?_)
    · replace hw := hw.1 hc
      exact hret f_ _ _ _ _ hw hP hD hS dJ7_fill_53178_20
    · replace hw := hw.2 hc
      refine lv_aload_n hx hb dJ7_fill_53178_10 rfl (lv_at hl 0 rfl) ?_
      refine lv_iload_n hx hb dJ7_fill_53178_11 rfl (lv_at hl 2 rfl) ?_
      refine lv_iload_n hx hb dJ7_fill_53178_12 rfl (lv_at hl 1 rfl) ?_
      obtain ⟨hv, hw⟩ := hw
      refine va_iast hx hb hK hP hD hS 0 0 rfl rfl hv dJ7_fill_53178_13 (fun H locs hP hD hS => ?_)
      have hP : va_P D vwCl ([(a, .inl (cI, N, .inl (upd f_ x2.toNatClampNeg x1)))]) H := hP
      have hD : va_D A ([(a, .inl (cI, N, .inl (upd f_ x2.toNatClampNeg x1)))]) := hD
      refine lv_iinc (v := x2 + 1) (lv' := [(2, .int (x2 + 1)), (0, .ref a), (1, .int x1), (3, .int x3)]) hx hb dJ7_fill_53178_14 hl (k := 2) rfl rfl (by decide) rfl (fun ls hl => ?_)
      refine lv_goto (tgt := 5) hx hb dJ7_fill_53178_17 (by decide) ?_
      exact k5e _ _ _ _ hw _ _ _ (lv_sub hl [1, 2, 0, 3] rfl) hP hD hS
  have hw := h_J7_fill_53178 N f a1  h0 K5 R5
  unfold v_J7_fill_53178_0 at hw
  refine lv_iconst (v := (0 : Int32)) hx hb dJ7_fill_53178_0 (by decide) ?_
  refine lv_istore_n (lv' := [(2, .int (0 : Int32)), (0, .ref a), (1, .int a1)]) hx hb dJ7_fill_53178_1 rfl hl (by decide) rfl (fun ls hl => ?_)
  refine lv_aload_n hx hb dJ7_fill_53178_2 rfl (lv_at hl 1 rfl) ?_
  refine va_alen hx hb hK hP 0 0 (v := Int32.ofNat N) rfl rfl rfl dJ7_fill_53178_3 ?_
  refine lv_istore_n (lv' := [(3, .int (Int32.ofNat N)), (2, .int (0 : Int32)), (0, .ref a), (1, .int a1)]) hx hb dJ7_fill_53178_4 rfl hl (by decide) rfl (fun ls hl => ?_)
  exact k5e _ _ _ _ hw _ _ _ (lv_sub hl [2, 3, 1, 0] rfl) hP hD hS
set_option maxHeartbeats 4000000 in
set_option maxRecDepth 100000 in
theorem c_X1_has (l : Launch) (D : va_G) (cI cZ : ClassId) (q : Nat → Nat) (n : Nat) (il : Int32) (kn : Nat → Int32) (sp : Nat → Int32) (py : Nat → Int32) (bo : Nat → Int32) (a1 : Int32) (hn : n ≤ 6) : MI l yX1_has wsX1_has ({ frames := 2, cells := 0, slots := 0, locals := 64 }) D cI cZ [.ref (q 0), .int a1] (wP cI q (nI n) il kn sp py bo) (fun _ : Unit => (wP cI q (nI n) il kn sp py bo)) (fun r _ => r = bI (inB a1 (nI n))) := by
  refine MI_of (cc := cX1_has) (maxL := 2) (ty := .boolean) (by decide) rfl (Nat.le_of_ble_eq_true rfl) (fun p e s m args below meth c A Q hx hb hml hown hts hK hN hA hret H locs ls hl hP hD hS => ?_)
  have hown : s.vm.findClass RX1 = some m.cls := hown
  have hl : lv_has ls 2 [(0, .ref (q 0)), (1, .int a1)] := hl
  have hin1 : ∀ w ∈ u_ws RX1 TX1 6, w ∈ wsX1_has := fun w h => List.mem_cons_of_mem _ (List.mem_append_right _ h)
  have f24 : (Cond.fieldLink RX1 24 "GlassBooths$People" "size" "I").before args s = true := hts _ (by decide +kernel)
  have hw := h_X1_has n il kn sp py bo  a1 hn   
  unfold v_X1_has_0 at hw
  refine lv_iload_n hx hb dX1_has_0 rfl (lv_at hl 1 rfl) ?_
  refine lv_if_lt (tgt := 16) hx hb dX1_has_1 (by decide) (fun hc => ?_) (fun hc => ?_)
  · replace hw := hw.1 hc
    refine lv_iconst (v := (0 : Int32)) hx hb dX1_has_16 (by decide) ?_
    exact hret _ () _ _ _ _ hw (by first | exact bI_nar _ | rfl | decide) hP hD hS dX1_has_17
  · replace hw := hw.2 hc
    refine lv_iload_n hx hb dX1_has_4 rfl (lv_at hl 1 rfl) ?_
    refine lv_aload_n hx hb dX1_has_5 rfl (lv_at hl 0 rfl) ?_
    refine va_get (D := D) (ci := 1) (v := .int (nI n)) (C := RX1) (T := TX1) (N := 6) hx hb hts hin1 hown hK hP 0 rfl rfl 4 (by decide) f24 (fun _ h9 => h9) rfl dX1_has_6 ?_
    refine lv_icmp_ge (tgt := 16) hx hb dX1_has_9 (by decide) (fun hc => ?_) (fun hc => ?_)
    · replace hw := hw.1 hc
      refine lv_iconst (v := (0 : Int32)) hx hb dX1_has_16 (by decide) ?_
      exact hret _ () _ _ _ _ hw (by first | exact bI_nar _ | rfl | decide) hP hD hS dX1_has_17
    · replace hw := hw.2 hc
      refine lv_iconst (v := (1 : Int32)) hx hb dX1_has_12 (by decide) ?_
      refine lv_goto (tgt := 17) hx hb dX1_has_13 (by decide) ?_
      exact hret _ () _ _ _ _ hw (by first | exact bI_nar _ | rfl | decide) hP hD hS dX1_has_17
set_option maxHeartbeats 4000000 in
set_option maxRecDepth 100000 in
theorem c_X1_isIll (l : Launch) (D : va_G) (cI cZ : ClassId) (q : Nat → Nat) (n : Nat) (il : Int32) (kn : Nat → Int32) (sp : Nat → Int32) (py : Nat → Int32) (bo : Nat → Int32) (a1 : Int32) (hn : n ≤ 6) : MI l yX1_isIll wsX1_isIll ({ frames := 4, cells := 0, slots := 0, locals := 160 }) D cI cZ [.ref (q 0), .int a1] (wP cI q (nI n) il kn sp py bo) (fun _ : Unit => (wP cI q (nI n) il kn sp py bo)) (fun r _ => r = bI (hs il a1)) := by
  refine MI_of (cc := cX1_isIll) (maxL := 2) (ty := .boolean) (by decide) rfl (Nat.le_of_ble_eq_true rfl) (fun p e s m args below meth c A Q hx hb hml hown hts hK hN hA hret H locs ls hl hP hD hS => ?_)
  have hown : s.vm.findClass RX1 = some m.cls := hown
  have hl : lv_has ls 2 [(0, .ref (q 0)), (1, .int a1)] := hl
  have hin1 : ∀ w ∈ u_ws RX1 TX1 6, w ∈ wsX1_isIll := fun w h => List.mem_cons_of_mem _ (List.mem_append_right _ h)
  have f28 : (Cond.fieldLink RX1 28 "GlassBooths$People" "illBits" "I").before args s = true := hts _ (by decide +kernel)
  have hw := h_X1_isIll n il kn sp py bo  a1 hn   
  unfold v_X1_isIll_0 at hw
  refine lv_aload_n hx hb dX1_isIll_0 rfl (lv_at hl 0 rfl) ?_
  refine va_get (D := D) (ci := 1) (v := .int il) (C := RX1) (T := TX1) (N := 6) hx hb hts hin1 hown hK hP 0 rfl rfl 5 (by decide) f28 (fun _ h9 => h9) rfl dX1_isIll_1 ?_
  refine lv_iload_n hx hb dX1_isIll_4 rfl (lv_at hl 1 rfl) ?_
  refine zc_i0 (va_runSN (As := [.int il, .int a1]) (rest := []) ⟨hx, hb, hml, hown, hts⟩ ((c_X3_holds l D cI cZ il a1  ) H.size) ⟨va_cnB 2 hts gX1_isIll_X3_holds_n31 rfl rfl rfl (hN _ (List.mem_of_getElem? (i := 15) rfl)) (hts _ (by decide +kernel)) (by decide +kernel) ⟨Nat.le_of_ble_eq_true rfl, Nat.le_of_ble_eq_true rfl⟩, hts _ (by decide +kernel), trivial⟩ (ps_of hK hN hP hD [] rfl rfl) rfl rfl hl.1 rfl (lv_room (by decide)) dX1_isIll_5 ⟨Nat.zero_le _, Nat.zero_le _⟩) hP hD hS hA (fun r u H locs hu hP hD hS => ?_)
  subst hu
  exact hret _ () _ _ _ _ hw (by first | exact bI_nar _ | rfl | decide) hP hD hS dX1_isIll_8
set_option maxHeartbeats 4000000 in
set_option maxRecDepth 100000 in
theorem c_X1_payOf (l : Launch) (D : va_G) (cI cZ : ClassId) (q : Nat → Nat) (n : Nat) (il : Int32) (kn : Nat → Int32) (sp : Nat → Int32) (py : Nat → Int32) (bo : Nat → Int32) (a1 : Int32) (hn : n ≤ 6) : MI l yX1_payOf wsX1_payOf ({ frames := 4, cells := 0, slots := 0, locals := 160 }) D cI cZ [.ref (q 0), .int a1] (wP cI q (nI n) il kn sp py bo) (fun _ : Unit => (wP cI q (nI n) il kn sp py bo)) (fun r _ => r = atP n py 0 a1) := by
  refine MI_of (cc := cX1_payOf) (maxL := 2) (ty := .int) (by decide) rfl (Nat.le_of_ble_eq_true rfl) (fun p e s m args below meth c A Q hx hb hml hown hts hK hN hA hret H locs ls hl hP hD hS => ?_)
  have hown : s.vm.findClass RX1 = some m.cls := hown
  have hl : lv_has ls 2 [(0, .ref (q 0)), (1, .int a1)] := hl
  have hin1 : ∀ w ∈ u_ws RX1 TX1 6, w ∈ wsX1_payOf := fun w h => List.mem_cons_of_mem _ (List.mem_append_right _ h)
  have f18 : (Cond.fieldLink RX1 18 "GlassBooths$People" "pays" "[I").before args s = true := hts _ (by decide +kernel)
  have hw := h_X1_payOf n il kn sp py bo  a1 hn   
  unfold v_X1_payOf_0 at hw
  refine lv_aload_n hx hb dX1_payOf_0 rfl (lv_at hl 0 rfl) ?_
  refine lv_iload_n hx hb dX1_payOf_1 rfl (lv_at hl 1 rfl) ?_
  refine zc_i (fun u => (wP cI q (nI n) il kn sp py bo)) [0, 1, 2, 3, 4] [] [0, 1, 2, 3, 4] (va_runV (As := [.int a1]) (rest := []) ⟨hx, hb, hml, hown, hts⟩ ((c_X1_has l D cI cZ q n il kn sp py bo a1 hn ) H.size) (cwV 1 hts gX1_payOf_X1_has rfl rfl rfl (by decide +kernel) ⟨Nat.le_of_ble_eq_true rfl, Nat.le_of_ble_eq_true rfl⟩) (pv_of hK hN hP hD [0, 1, 2, 3, 4] rfl rfl 1 0 rfl rfl) rfl rfl hl.1 rfl (lv_room (by decide)) dX1_payOf_2 ⟨Nat.zero_le _, Nat.zero_le _⟩) hP hD hS hA rfl rfl rfl (by decide) (fun _ => rfl) rfl (fun r u H locs hu hP hD hS => ?_)
  subst hu
  have hP : va_P D vwCl (wP cI q (nI n) il kn sp py bo) H := hP
  have hD : va_D A (wP cI q (nI n) il kn sp py bo) := hD
  refine lv_if_eq (tgt := 17) hx hb dX1_payOf_5 (by decide) (fun hc => ?_) (fun hc => ?_)
  · replace hw := hw.1 hc
    refine lv_iconst (v := (0 : Int32)) hx hb dX1_payOf_17 (by decide) ?_
    exact hret _ () _ _ _ _ hw rfl hP hD hS dX1_payOf_18
  · replace hw := hw.2 hc
    refine lv_aload_n hx hb dX1_payOf_8 rfl (lv_at hl 0 rfl) ?_
    refine va_get (D := D) (ci := 1) (v := .ref (q 3)) (C := RX1) (T := TX1) (N := 6) hx hb hts hin1 hown hK hP 0 rfl rfl 2 (by decide) f18 (fun _ h9 => h9) rfl dX1_payOf_9 ?_
    refine lv_iload_n hx hb dX1_payOf_12 rfl (lv_at hl 1 rfl) ?_
    obtain ⟨hv, hw⟩ := hw
    refine va_iald hx hb hK hP 3 0 rfl rfl hv dX1_payOf_13 ?_
    refine lv_goto (tgt := 18) hx hb dX1_payOf_14 (by decide) ?_
    exact hret _ () _ _ _ _ hw rfl hP hD hS dX1_payOf_18
set_option maxHeartbeats 4000000 in
set_option maxRecDepth 100000 in
theorem c_X1_knownBy (l : Launch) (D : va_G) (cI cZ : ClassId) (q : Nat → Nat) (n : Nat) (il : Int32) (kn : Nat → Int32) (sp : Nat → Int32) (py : Nat → Int32) (bo : Nat → Int32) (a1 : Int32) (hn : n ≤ 6) : MI l yX1_knownBy wsX1_knownBy ({ frames := 4, cells := 0, slots := 0, locals := 160 }) D cI cZ [.ref (q 0), .int a1] (wP cI q (nI n) il kn sp py bo) (fun _ : Unit => (wP cI q (nI n) il kn sp py bo)) (fun r _ => r = atP n kn 0 a1) := by
  refine MI_of (cc := cX1_knownBy) (maxL := 2) (ty := .int) (by decide) rfl (Nat.le_of_ble_eq_true rfl) (fun p e s m args below meth c A Q hx hb hml hown hts hK hN hA hret H locs ls hl hP hD hS => ?_)
  have hown : s.vm.findClass RX1 = some m.cls := hown
  have hl : lv_has ls 2 [(0, .ref (q 0)), (1, .int a1)] := hl
  have hin1 : ∀ w ∈ u_ws RX1 TX1 6, w ∈ wsX1_knownBy := fun w h => List.mem_cons_of_mem _ (List.mem_append_right _ h)
  have f9 : (Cond.fieldLink RX1 9 "GlassBooths$People" "knownTongues" "[I").before args s = true := hts _ (by decide +kernel)
  have hw := h_X1_knownBy n il kn sp py bo  a1 hn   
  unfold v_X1_knownBy_0 at hw
  refine lv_aload_n hx hb dX1_knownBy_0 rfl (lv_at hl 0 rfl) ?_
  refine lv_iload_n hx hb dX1_knownBy_1 rfl (lv_at hl 1 rfl) ?_
  refine zc_i (fun u => (wP cI q (nI n) il kn sp py bo)) [0, 1, 2, 3, 4] [] [0, 1, 2, 3, 4] (va_runV (As := [.int a1]) (rest := []) ⟨hx, hb, hml, hown, hts⟩ ((c_X1_has l D cI cZ q n il kn sp py bo a1 hn ) H.size) (cwV 1 hts gX1_knownBy_X1_has rfl rfl rfl (by decide +kernel) ⟨Nat.le_of_ble_eq_true rfl, Nat.le_of_ble_eq_true rfl⟩) (pv_of hK hN hP hD [0, 1, 2, 3, 4] rfl rfl 1 0 rfl rfl) rfl rfl hl.1 rfl (lv_room (by decide)) dX1_knownBy_2 ⟨Nat.zero_le _, Nat.zero_le _⟩) hP hD hS hA rfl rfl rfl (by decide) (fun _ => rfl) rfl (fun r u H locs hu hP hD hS => ?_)
  subst hu
  have hP : va_P D vwCl (wP cI q (nI n) il kn sp py bo) H := hP
  have hD : va_D A (wP cI q (nI n) il kn sp py bo) := hD
  refine lv_if_eq (tgt := 17) hx hb dX1_knownBy_5 (by decide) (fun hc => ?_) (fun hc => ?_)
  · replace hw := hw.1 hc
    refine lv_iconst (v := (0 : Int32)) hx hb dX1_knownBy_17 (by decide) ?_
    exact hret _ () _ _ _ _ hw rfl hP hD hS dX1_knownBy_18
  · replace hw := hw.2 hc
    refine lv_aload_n hx hb dX1_knownBy_8 rfl (lv_at hl 0 rfl) ?_
    refine va_get (D := D) (ci := 1) (v := .ref (q 1)) (C := RX1) (T := TX1) (N := 6) hx hb hts hin1 hown hK hP 0 rfl rfl 0 (by decide) f9 (fun _ h9 => h9) rfl dX1_knownBy_9 ?_
    refine lv_iload_n hx hb dX1_knownBy_12 rfl (lv_at hl 1 rfl) ?_
    obtain ⟨hv, hw⟩ := hw
    refine va_iald hx hb hK hP 1 0 rfl rfl hv dX1_knownBy_13 ?_
    refine lv_goto (tgt := 18) hx hb dX1_knownBy_14 (by decide) ?_
    exact hret _ () _ _ _ _ hw rfl hP hD hS dX1_knownBy_18
set_option maxHeartbeats 4000000 in
set_option maxRecDepth 100000 in
theorem c_X1_boothOf (l : Launch) (D : va_G) (cI cZ : ClassId) (q : Nat → Nat) (n : Nat) (il : Int32) (kn : Nat → Int32) (sp : Nat → Int32) (py : Nat → Int32) (bo : Nat → Int32) (a1 : Int32) (hn : n ≤ 6) : MI l yX1_boothOf wsX1_boothOf ({ frames := 4, cells := 0, slots := 0, locals := 160 }) D cI cZ [.ref (q 0), .int a1] (wP cI q (nI n) il kn sp py bo) (fun _ : Unit => (wP cI q (nI n) il kn sp py bo)) (fun r _ => r = atP n bo 5 a1) := by
  refine MI_of (cc := cX1_boothOf) (maxL := 2) (ty := .int) (by decide) rfl (Nat.le_of_ble_eq_true rfl) (fun p e s m args below meth c A Q hx hb hml hown hts hK hN hA hret H locs ls hl hP hD hS => ?_)
  have hown : s.vm.findClass RX1 = some m.cls := hown
  have hl : lv_has ls 2 [(0, .ref (q 0)), (1, .int a1)] := hl
  have hin1 : ∀ w ∈ u_ws RX1 TX1 6, w ∈ wsX1_boothOf := fun w h => List.mem_cons_of_mem _ (List.mem_append_right _ h)
  have f21 : (Cond.fieldLink RX1 21 "GlassBooths$People" "booths" "[I").before args s = true := hts _ (by decide +kernel)
  have hw := h_X1_boothOf n il kn sp py bo  a1 hn   
  unfold v_X1_boothOf_0 at hw
  refine lv_aload_n hx hb dX1_boothOf_0 rfl (lv_at hl 0 rfl) ?_
  refine lv_iload_n hx hb dX1_boothOf_1 rfl (lv_at hl 1 rfl) ?_
  refine zc_i (fun u => (wP cI q (nI n) il kn sp py bo)) [0, 1, 2, 3, 4] [] [0, 1, 2, 3, 4] (va_runV (As := [.int a1]) (rest := []) ⟨hx, hb, hml, hown, hts⟩ ((c_X1_has l D cI cZ q n il kn sp py bo a1 hn ) H.size) (cwV 1 hts gX1_boothOf_X1_has rfl rfl rfl (by decide +kernel) ⟨Nat.le_of_ble_eq_true rfl, Nat.le_of_ble_eq_true rfl⟩) (pv_of hK hN hP hD [0, 1, 2, 3, 4] rfl rfl 1 0 rfl rfl) rfl rfl hl.1 rfl (lv_room (by decide)) dX1_boothOf_2 ⟨Nat.zero_le _, Nat.zero_le _⟩) hP hD hS hA rfl rfl rfl (by decide) (fun _ => rfl) rfl (fun r u H locs hu hP hD hS => ?_)
  subst hu
  have hP : va_P D vwCl (wP cI q (nI n) il kn sp py bo) H := hP
  have hD : va_D A (wP cI q (nI n) il kn sp py bo) := hD
  refine lv_if_eq (tgt := 17) hx hb dX1_boothOf_5 (by decide) (fun hc => ?_) (fun hc => ?_)
  · replace hw := hw.1 hc
    refine lv_iconst (v := (5 : Int32)) hx hb dX1_boothOf_17 (by decide) ?_
    exact hret _ () _ _ _ _ hw rfl hP hD hS dX1_boothOf_18
  · replace hw := hw.2 hc
    refine lv_aload_n hx hb dX1_boothOf_8 rfl (lv_at hl 0 rfl) ?_
    refine va_get (D := D) (ci := 1) (v := .ref (q 4)) (C := RX1) (T := TX1) (N := 6) hx hb hts hin1 hown hK hP 0 rfl rfl 3 (by decide) f21 (fun _ h9 => h9) rfl dX1_boothOf_9 ?_
    refine lv_iload_n hx hb dX1_boothOf_12 rfl (lv_at hl 1 rfl) ?_
    obtain ⟨hv, hw⟩ := hw
    refine va_iald hx hb hK hP 4 0 rfl rfl hv dX1_boothOf_13 ?_
    refine lv_goto (tgt := 18) hx hb dX1_boothOf_14 (by decide) ?_
    exact hret _ () _ _ _ _ hw rfl hP hD hS dX1_boothOf_18
set_option maxHeartbeats 4000000 in
set_option maxRecDepth 100000 in
theorem c_X1_canTurnInto (l : Launch) (D : va_G) (cI cZ : ClassId) (q : Nat → Nat) (n : Nat) (il : Int32) (kn : Nat → Int32) (sp : Nat → Int32) (py : Nat → Int32) (bo : Nat → Int32) (a1 : Int32) (a2 : Int32) (hn : n ≤ 6) : MI l yX1_canTurnInto wsX1_canTurnInto ({ frames := 6, cells := 0, slots := 0, locals := 240 }) D cI cZ [.ref (q 0), .int a1, .int a2] (wP cI q (nI n) il kn sp py bo) (fun _ : Unit => (wP cI q (nI n) il kn sp py bo)) (fun r _ => r = bI (canT n il sp a1 a2)) := by
  refine MI_of (cc := cX1_canTurnInto) (maxL := 3) (ty := .boolean) (by decide) rfl (Nat.le_of_ble_eq_true rfl) (fun p e s m args below meth c A Q hx hb hml hown hts hK hN hA hret H locs ls hl hP hD hS => ?_)
  have hown : s.vm.findClass RX1 = some m.cls := hown
  have hl : lv_has ls 3 [(0, .ref (q 0)), (1, .int a1), (2, .int a2)] := hl
  have hin1 : ∀ w ∈ u_ws RX1 TX1 6, w ∈ wsX1_canTurnInto := fun w h => List.mem_cons_of_mem _ (List.mem_append_right _ h)
  have f15 : (Cond.fieldLink RX1 15 "GlassBooths$People" "spokenTongues" "[I").before args s = true := hts _ (by decide +kernel)
  have hw := h_X1_canTurnInto n il kn sp py bo  a1 a2 hn   
  unfold v_X1_canTurnInto_0 at hw
  refine lv_aload_n hx hb dX1_canTurnInto_0 rfl (lv_at hl 0 rfl) ?_
  refine lv_iload_n hx hb dX1_canTurnInto_1 rfl (lv_at hl 1 rfl) ?_
  refine zc_i (fun u => (wP cI q (nI n) il kn sp py bo)) [0, 1, 2, 3, 4] [] [0, 1, 2, 3, 4] (va_runV (As := [.int a1]) (rest := []) ⟨hx, hb, hml, hown, hts⟩ ((c_X1_has l D cI cZ q n il kn sp py bo a1 hn ) H.size) (cwV 1 hts gX1_canTurnInto_X1_has rfl rfl rfl (by decide +kernel) ⟨Nat.le_of_ble_eq_true rfl, Nat.le_of_ble_eq_true rfl⟩) (pv_of hK hN hP hD [0, 1, 2, 3, 4] rfl rfl 1 0 rfl rfl) rfl rfl hl.1 rfl (lv_room (by decide)) dX1_canTurnInto_2 ⟨Nat.zero_le _, Nat.zero_le _⟩) hP hD hS hA rfl rfl rfl (by decide) (fun _ => rfl) rfl (fun r u H locs hu hP hD hS => ?_)
  subst hu
  have hP : va_P D vwCl (wP cI q (nI n) il kn sp py bo) H := hP
  have hD : va_D A (wP cI q (nI n) il kn sp py bo) := hD
  refine lv_if_eq (tgt := 33) hx hb dX1_canTurnInto_5 (by decide) (fun hc => ?_) (fun hc => ?_)
  · replace hw := hw.1 hc
    refine lv_iconst (v := (0 : Int32)) hx hb dX1_canTurnInto_33 (by decide) ?_
    exact hret _ () _ _ _ _ hw (by first | exact bI_nar _ | rfl | decide) hP hD hS dX1_canTurnInto_34
  · replace hw := hw.2 hc
    refine lv_aload_n hx hb dX1_canTurnInto_8 rfl (lv_at hl 0 rfl) ?_
    refine lv_iload_n hx hb dX1_canTurnInto_9 rfl (lv_at hl 1 rfl) ?_
    refine zc_i (fun u => (wP cI q (nI n) il kn sp py bo)) [0, 1, 2, 3, 4] [] [0, 1, 2, 3, 4] (va_runV (As := [.int a1]) (rest := []) ⟨hx, hb, hml, hown, hts⟩ ((c_X1_isIll l D cI cZ q n il kn sp py bo a1 hn ) H.size) (cwV 1 hts gX1_canTurnInto_X1_isIll rfl rfl rfl (by decide +kernel) ⟨Nat.le_of_ble_eq_true rfl, Nat.le_of_ble_eq_true rfl⟩) (pv_of hK hN hP hD [0, 1, 2, 3, 4] rfl rfl 1 0 rfl rfl) rfl rfl hl.1 rfl (lv_room (by decide)) dX1_canTurnInto_10 ⟨Nat.zero_le _, Nat.zero_le _⟩) hP hD hS hA rfl rfl rfl (by decide) (fun _ => rfl) rfl (fun r u H locs hu hP hD hS => ?_)
    subst hu
    have hP : va_P D vwCl (wP cI q (nI n) il kn sp py bo) H := hP
    have hD : va_D A (wP cI q (nI n) il kn sp py bo) := hD
    refine lv_if_ne (tgt := 33) hx hb dX1_canTurnInto_13 (by decide) (fun hc => ?_) (fun hc => ?_)
    · replace hw := hw.2 hc
      refine lv_iconst (v := (0 : Int32)) hx hb dX1_canTurnInto_33 (by decide) ?_
      exact hret _ () _ _ _ _ hw (by first | exact bI_nar _ | rfl | decide) hP hD hS dX1_canTurnInto_34
    · replace hw := hw.1 hc
      refine lv_aload_n hx hb dX1_canTurnInto_16 rfl (lv_at hl 0 rfl) ?_
      refine va_get (D := D) (ci := 1) (v := .ref (q 2)) (C := RX1) (T := TX1) (N := 6) hx hb hts hin1 hown hK hP 0 rfl rfl 1 (by decide) f15 (fun _ h9 => h9) rfl dX1_canTurnInto_17 ?_
      refine lv_iload_n hx hb dX1_canTurnInto_20 rfl (lv_at hl 1 rfl) ?_
      obtain ⟨hv, hw⟩ := hw
      refine va_iald hx hb hK hP 2 0 rfl rfl hv dX1_canTurnInto_21 ?_
      refine lv_iload_n hx hb dX1_canTurnInto_22 rfl (lv_at hl 2 rfl) ?_
      refine zc_i0 (va_runSN (As := [.int (sp a1.toNatClampNeg), .int a2]) (rest := []) ⟨hx, hb, hml, hown, hts⟩ ((c_X3_holds l D cI cZ (sp a1.toNatClampNeg) a2  ) H.size) ⟨va_cnB 2 hts gX1_canTurnInto_X3_holds_n31 rfl rfl rfl (hN _ (List.mem_of_getElem? (i := 15) rfl)) (hts _ (by decide +kernel)) (by decide +kernel) ⟨Nat.le_of_ble_eq_true rfl, Nat.le_of_ble_eq_true rfl⟩, hts _ (by decide +kernel), trivial⟩ (ps_of hK hN hP hD [] rfl rfl) rfl rfl hl.1 rfl (lv_room (by decide)) dX1_canTurnInto_23 ⟨Nat.zero_le _, Nat.zero_le _⟩) hP hD hS hA (fun r u H locs hu hP hD hS => ?_)
      subst hu
      refine lv_if_eq (tgt := 33) hx hb dX1_canTurnInto_26 (by decide) (fun hc => ?_) (fun hc => ?_)
      · replace hw := hw.1 hc
        refine lv_iconst (v := (0 : Int32)) hx hb dX1_canTurnInto_33 (by decide) ?_
        exact hret _ () _ _ _ _ hw (by first | exact bI_nar _ | rfl | decide) hP hD hS dX1_canTurnInto_34
      · replace hw := hw.2 hc
        refine lv_iconst (v := (1 : Int32)) hx hb dX1_canTurnInto_29 (by decide) ?_
        refine lv_goto (tgt := 34) hx hb dX1_canTurnInto_30 (by decide) ?_
        exact hret _ () _ _ _ _ hw (by first | exact bI_nar _ | rfl | decide) hP hD hS dX1_canTurnInto_34
set_option maxHeartbeats 4000000 in
set_option maxRecDepth 100000 in
theorem c_X1_ableToTurnInto (l : Launch) (D : va_G) (cI cZ : ClassId) (q : Nat → Nat) (n : Nat) (il : Int32) (kn : Nat → Int32) (sp : Nat → Int32) (py : Nat → Int32) (bo : Nat → Int32) (a1 : Int32) (hn : n ≤ 6) : MI l yX1_ableToTurnInto wsX1_ableToTurnInto ({ frames := 8, cells := 0, slots := 0, locals := 320 }) D cI cZ [.ref (q 0), .int a1] (wP cI q (nI n) il kn sp py bo) (fun _ : Unit => (wP cI q (nI n) il kn sp py bo)) (fun r _ => r = sI (fun k => bI (canT n il sp (nI k) a1)) n) := by
  refine MI_of (cc := cX1_ableToTurnInto) (maxL := 4) (ty := .int) (by decide) rfl (Nat.le_of_ble_eq_true rfl) (fun p e s m args below meth c A Q hx hb hml hown hts hK hN hA hret H locs ls hl hP hD hS => ?_)
  have hown : s.vm.findClass RX1 = some m.cls := hown
  have hl : lv_has ls 4 [(0, .ref (q 0)), (1, .int a1)] := hl
  have hin1 : ∀ w ∈ u_ws RX1 TX1 6, w ∈ wsX1_ableToTurnInto := fun w h => List.mem_cons_of_mem _ (List.mem_append_right _ h)
  have f24 : (Cond.fieldLink RX1 24 "GlassBooths$People" "size" "I").before args s = true := hts _ (by decide +kernel)
  obtain ⟨K4, k4i, k4e⟩ := ex_K3 (fun (x1 : Int32) (x2 : Int32) (x3 : Int32) => ∀ (H : Heap) (locs : List Loc) (ls : Array Slot), lv_has ls 4 [(0, .ref (q 0)), (1, .int x1), (2, .int x2), (3, .int x3)] → va_P D vwCl (wP cI q (nI n) il kn sp py bo) H → va_D A (wP cI q (nI n) il kn sp py bo) → va_S A s.heap H locs → W p l e (headSpec wsX1_ableToTurnInto ({ frames := 8, cells := 0, slots := 0, locals := 320 })).room s m args below meth c H locs 0 0 Q (F0 m 4 ls []))
  have J24 : ∀ x1 x2 x3, v_X1_ableToTurnInto_24 n il kn sp py bo (fun r _ => r = sI (fun k => bI (canT n il sp (nI k) a1)) n) K4 x1 x2 x3 → ∀ (H : Heap) (locs : List Loc) (ls : Array Slot), lv_has ls 4 [(0, .ref (q 0)), (1, .int x1), (2, .int x2), (3, .int x3)] → va_P D vwCl (wP cI q (nI n) il kn sp py bo) H → va_D A (wP cI q (nI n) il kn sp py bo) → va_S A s.heap H locs → W p l e (headSpec wsX1_ableToTurnInto ({ frames := 8, cells := 0, slots := 0, locals := 320 })).room s m args below meth c H locs 0 0 Q (F0 m 24 ls []) := by
    intro x1 x2 x3 hw
    intro H locs ls hl hP hD hS
    unfold v_X1_ableToTurnInto_24 at hw
    refine lv_iinc (v := x3 + 1) (lv' := [(3, .int (x3 + 1)), (0, .ref (q 0)), (1, .int x1), (2, .int x2)]) hx hb dX1_ableToTurnInto_24 hl (k := 3) rfl rfl (by decide) rfl (fun ls hl => ?_)
    refine lv_goto (tgt := 4) hx hb dX1_ableToTurnInto_27 (by decide) ?_
    exact k4e _ _ _ hw _ _ _ (lv_sub hl [1, 2, 3, 0] rfl) hP hD hS
  have R4 : ∀ x1 x2 x3, v_X1_ableToTurnInto_4 n il kn sp py bo (fun r _ => r = sI (fun k => bI (canT n il sp (nI k) a1)) n) K4 x1 x2 x3 → K4 x1 x2 x3 := by
    intro x1 x2 x3 hw
    refine k4i _ _ _ ?_
    intro H locs ls hl hP hD hS
    unfold v_X1_ableToTurnInto_4 at hw
    refine lv_iload_n hx hb dX1_ableToTurnInto_4 rfl (lv_at hl 3 rfl) ?_
    refine lv_aload_n hx hb dX1_ableToTurnInto_5 rfl (lv_at hl 0 rfl) ?_
    refine va_get (D := D) (ci := 1) (v := .int (nI n)) (C := RX1) (T := TX1) (N := 6) hx hb hts hin1 hown hK hP 0 rfl rfl 4 (by decide) f24 (fun _ h9 => h9) rfl dX1_ableToTurnInto_6 ?_
    refine lv_icmp_ge (tgt := 30) hx hb dX1_ableToTurnInto_9 (by decide) (fun hc => ?_) (fun hc => ?_)
    · replace hw := hw.1 hc
      refine lv_iload_n hx hb dX1_ableToTurnInto_30 rfl (lv_at hl 2 rfl) ?_
      exact hret _ () _ _ _ _ hw rfl hP hD hS dX1_ableToTurnInto_31
    · replace hw := hw.2 hc
      refine lv_aload_n hx hb dX1_ableToTurnInto_12 rfl (lv_at hl 0 rfl) ?_
      refine lv_iload_n hx hb dX1_ableToTurnInto_13 rfl (lv_at hl 3 rfl) ?_
      refine lv_iload_n hx hb dX1_ableToTurnInto_14 rfl (lv_at hl 1 rfl) ?_
      refine zc_i (fun u => (wP cI q (nI n) il kn sp py bo)) [0, 1, 2, 3, 4] [] [0, 1, 2, 3, 4] (va_runV (As := [.int x3, .int x1]) (rest := []) ⟨hx, hb, hml, hown, hts⟩ ((c_X1_canTurnInto l D cI cZ q n il kn sp py bo x3 x1 hn ) H.size) (cwV 2 hts gX1_ableToTurnInto_X1_canTurnInto rfl rfl rfl (by decide +kernel) ⟨Nat.le_of_ble_eq_true rfl, Nat.le_of_ble_eq_true rfl⟩) (pv_of hK hN hP hD [0, 1, 2, 3, 4] rfl rfl 1 0 rfl rfl) rfl rfl hl.1 rfl (lv_room (by decide)) dX1_ableToTurnInto_15 ⟨Nat.zero_le _, Nat.zero_le _⟩) hP hD hS hA rfl rfl rfl (by decide) (fun _ => rfl) rfl (fun r u H locs hu hP hD hS => ?_)
      subst hu
      have hP : va_P D vwCl (wP cI q (nI n) il kn sp py bo) H := hP
      have hD : va_D A (wP cI q (nI n) il kn sp py bo) := hD
      refine lv_if_eq (tgt := 24) hx hb dX1_ableToTurnInto_18 (by decide) (fun hc => ?_) (fun hc => ?_)
      · replace hw := hw.1 hc
        exact J24 _ _ _ hw _ _ _ (lv_sub hl [0, 1, 2, 3] rfl) hP hD hS
      · replace hw := hw.2 hc
        refine lv_iinc (v := x2 + 1) (lv' := [(2, .int (x2 + 1)), (0, .ref (q 0)), (1, .int x1), (3, .int x3)]) hx hb dX1_ableToTurnInto_21 hl (k := 2) rfl rfl (by decide) rfl (fun ls hl => ?_)
        exact J24 _ _ _ hw _ _ _ (lv_sub hl [1, 2, 0, 3] rfl) hP hD hS
  have hw := h_X1_ableToTurnInto n il kn sp py bo  a1 hn  K4 R4
  unfold v_X1_ableToTurnInto_0 at hw
  refine lv_iconst (v := (0 : Int32)) hx hb dX1_ableToTurnInto_0 (by decide) ?_
  refine lv_istore_n (lv' := [(2, .int (0 : Int32)), (0, .ref (q 0)), (1, .int a1)]) hx hb dX1_ableToTurnInto_1 rfl hl (by decide) rfl (fun ls hl => ?_)
  refine lv_iconst (v := (0 : Int32)) hx hb dX1_ableToTurnInto_2 (by decide) ?_
  refine lv_istore_n (lv' := [(3, .int (0 : Int32)), (2, .int (0 : Int32)), (0, .ref (q 0)), (1, .int a1)]) hx hb dX1_ableToTurnInto_3 rfl hl (by decide) rfl (fun ls hl => ?_)
  exact k4e _ _ _ hw _ _ _ (lv_sub hl [2, 3, 1, 0] rfl) hP hD hS
set_option maxHeartbeats 4000000 in
set_option maxRecDepth 100000 in
theorem c_X1_seated (l : Launch) (D : va_G) (cI cZ : ClassId) (q : Nat → Nat) (n : Nat) (il : Int32) (kn : Nat → Int32) (sp : Nat → Int32) (py : Nat → Int32) (bo : Nat → Int32) (hn : n ≤ 6) : MI l yX1_seated wsX1_seated ({ frames := 6, cells := 0, slots := 0, locals := 240 }) D cI cZ [.ref (q 0)] (wP cI q (nI n) il kn sp py bo) (fun _ : Unit => (wP cI q (nI n) il kn sp py bo)) (fun r _ => r = sI (fun k => bI (!decide (bo k = 5))) n) := by
  refine MI_of (cc := cX1_seated) (maxL := 3) (ty := .int) (by decide) rfl (Nat.le_of_ble_eq_true rfl) (fun p e s m args below meth c A Q hx hb hml hown hts hK hN hA hret H locs ls hl hP hD hS => ?_)
  have hown : s.vm.findClass RX1 = some m.cls := hown
  have hl : lv_has ls 3 [(0, .ref (q 0))] := hl
  have hin1 : ∀ w ∈ u_ws RX1 TX1 6, w ∈ wsX1_seated := fun w h => List.mem_cons_of_mem _ (List.mem_append_right _ h)
  have f24 : (Cond.fieldLink RX1 24 "GlassBooths$People" "size" "I").before args s = true := hts _ (by decide +kernel)
  obtain ⟨K4, k4i, k4e⟩ := ex_K2 (fun (x1 : Int32) (x2 : Int32) => ∀ (H : Heap) (locs : List Loc) (ls : Array Slot), lv_has ls 3 [(0, .ref (q 0)), (1, .int x1), (2, .int x2)] → va_P D vwCl (wP cI q (nI n) il kn sp py bo) H → va_D A (wP cI q (nI n) il kn sp py bo) → va_S A s.heap H locs → W p l e (headSpec wsX1_seated ({ frames := 6, cells := 0, slots := 0, locals := 240 })).room s m args below meth c H locs 0 0 Q (F0 m 4 ls []))
  have J24 : ∀ x1 x2, v_X1_seated_24 n il kn sp py bo (fun r _ => r = sI (fun k => bI (!decide (bo k = 5))) n) K4 x1 x2 → ∀ (H : Heap) (locs : List Loc) (ls : Array Slot), lv_has ls 3 [(0, .ref (q 0)), (1, .int x1), (2, .int x2)] → va_P D vwCl (wP cI q (nI n) il kn sp py bo) H → va_D A (wP cI q (nI n) il kn sp py bo) → va_S A s.heap H locs → W p l e (headSpec wsX1_seated ({ frames := 6, cells := 0, slots := 0, locals := 240 })).room s m args below meth c H locs 0 0 Q (F0 m 24 ls []) := by
    intro x1 x2 hw
    intro H locs ls hl hP hD hS
    unfold v_X1_seated_24 at hw
    refine lv_iinc (v := x2 + 1) (lv' := [(2, .int (x2 + 1)), (0, .ref (q 0)), (1, .int x1)]) hx hb dX1_seated_24 hl (k := 2) rfl rfl (by decide) rfl (fun ls hl => ?_)
    refine lv_goto (tgt := 4) hx hb dX1_seated_27 (by decide) ?_
    exact k4e _ _ hw _ _ _ (lv_sub hl [1, 2, 0] rfl) hP hD hS
  have R4 : ∀ x1 x2, v_X1_seated_4 n il kn sp py bo (fun r _ => r = sI (fun k => bI (!decide (bo k = 5))) n) K4 x1 x2 → K4 x1 x2 := by
    intro x1 x2 hw
    refine k4i _ _ ?_
    intro H locs ls hl hP hD hS
    unfold v_X1_seated_4 at hw
    refine lv_iload_n hx hb dX1_seated_4 rfl (lv_at hl 2 rfl) ?_
    refine lv_aload_n hx hb dX1_seated_5 rfl (lv_at hl 0 rfl) ?_
    refine va_get (D := D) (ci := 1) (v := .int (nI n)) (C := RX1) (T := TX1) (N := 6) hx hb hts hin1 hown hK hP 0 rfl rfl 4 (by decide) f24 (fun _ h9 => h9) rfl dX1_seated_6 ?_
    refine lv_icmp_ge (tgt := 30) hx hb dX1_seated_9 (by decide) (fun hc => ?_) (fun hc => ?_)
    · replace hw := hw.1 hc
      refine lv_iload_n hx hb dX1_seated_30 rfl (lv_at hl 1 rfl) ?_
      exact hret _ () _ _ _ _ hw rfl hP hD hS dX1_seated_31
    · replace hw := hw.2 hc
      refine lv_aload_n hx hb dX1_seated_12 rfl (lv_at hl 0 rfl) ?_
      refine lv_iload_n hx hb dX1_seated_13 rfl (lv_at hl 2 rfl) ?_
      refine zc_i (fun u => (wP cI q (nI n) il kn sp py bo)) [0, 1, 2, 3, 4] [] [0, 1, 2, 3, 4] (va_runV (As := [.int x2]) (rest := []) ⟨hx, hb, hml, hown, hts⟩ ((c_X1_boothOf l D cI cZ q n il kn sp py bo x2 hn ) H.size) (cwV 1 hts gX1_seated_X1_boothOf rfl rfl rfl (by decide +kernel) ⟨Nat.le_of_ble_eq_true rfl, Nat.le_of_ble_eq_true rfl⟩) (pv_of hK hN hP hD [0, 1, 2, 3, 4] rfl rfl 1 0 rfl rfl) rfl rfl hl.1 rfl (lv_room (by decide)) dX1_seated_14 ⟨Nat.zero_le _, Nat.zero_le _⟩) hP hD hS hA rfl rfl rfl (by decide) (fun _ => rfl) rfl (fun r u H locs hu hP hD hS => ?_)
      subst hu
      have hP : va_P D vwCl (wP cI q (nI n) il kn sp py bo) H := hP
      have hD : va_D A (wP cI q (nI n) il kn sp py bo) := hD
      refine lv_iconst (v := (5 : Int32)) hx hb dX1_seated_17 (by decide) ?_
      refine lv_icmp_eq (tgt := 24) hx hb dX1_seated_18 (by decide) (fun hc => ?_) (fun hc => ?_)
      · replace hw := hw.1 hc
        exact J24 _ _ hw _ _ _ (lv_sub hl [0, 1, 2] rfl) hP hD hS
      · replace hw := hw.2 hc
        refine lv_iinc (v := x1 + 1) (lv' := [(1, .int (x1 + 1)), (0, .ref (q 0)), (2, .int x2)]) hx hb dX1_seated_21 hl (k := 1) rfl rfl (by decide) rfl (fun ls hl => ?_)
        exact J24 _ _ hw _ _ _ (lv_sub hl [1, 0, 2] rfl) hP hD hS
  have hw := h_X1_seated n il kn sp py bo   hn  K4 R4
  unfold v_X1_seated_0 at hw
  refine lv_iconst (v := (0 : Int32)) hx hb dX1_seated_0 (by decide) ?_
  refine lv_istore_n (lv' := [(1, .int (0 : Int32)), (0, .ref (q 0))]) hx hb dX1_seated_1 rfl hl (by decide) rfl (fun ls hl => ?_)
  refine lv_iconst (v := (0 : Int32)) hx hb dX1_seated_2 (by decide) ?_
  refine lv_istore_n (lv' := [(2, .int (0 : Int32)), (1, .int (0 : Int32)), (0, .ref (q 0))]) hx hb dX1_seated_3 rfl hl (by decide) rfl (fun ls hl => ?_)
  exact k4e _ _ hw _ _ _ (lv_sub hl [2, 1, 0] rfl) hP hD hS
set_option maxHeartbeats 4000000 in
set_option maxRecDepth 100000 in
theorem c_X1_unseatAll (l : Launch) (D : va_G) (cI cZ : ClassId) (q : Nat → Nat) (n : Nat) (il : Int32) (kn : Nat → Int32) (sp : Nat → Int32) (py : Nat → Int32) (bo : Nat → Int32) (hn : n ≤ 6) : MV l yX1_unseatAll wsX1_unseatAll ({ frames := 4, cells := 0, slots := 0, locals := 160 }) D cI cZ [.ref (q 0)] (wP cI q (nI n) il kn sp py bo) (fun u : (Nat → Int32) => (wP cI q (nI n) il kn sp py u)) (fun u => u = fillA bo 6 5) := by
  refine MV_of (cc := cX1_unseatAll) (maxL := 1) (by decide) rfl (Nat.le_of_ble_eq_true rfl) (fun p e s m args below meth c A Q hx hb hml hown hts hK hN hA hret H locs ls hl hP hD hS => ?_)
  have hown : s.vm.findClass RX1 = some m.cls := hown
  have hl : lv_has ls 1 [(0, .ref (q 0))] := hl
  have hin1 : ∀ w ∈ u_ws RX1 TX1 6, w ∈ wsX1_unseatAll := fun w h => List.mem_cons_of_mem _ (List.mem_append_right _ h)
  have f21 : (Cond.fieldLink RX1 21 "GlassBooths$People" "booths" "[I").before args s = true := hts _ (by decide +kernel)
  have hw := h_X1_unseatAll n il kn sp py bo  hn   
  unfold v_X1_unseatAll_0 at hw
  refine lv_aload_n hx hb dX1_unseatAll_0 rfl (lv_at hl 0 rfl) ?_
  refine va_get (D := D) (ci := 1) (v := .ref (q 4)) (C := RX1) (T := TX1) (N := 6) hx hb hts hin1 hown hK hP 0 rfl rfl 3 (by decide) f21 (fun _ h9 => h9) rfl dX1_unseatAll_1 ?_
  refine lv_iconst (v := (5 : Int32)) hx hb dX1_unseatAll_4 (by decide) ?_
  obtain ⟨hp0, hw⟩ := hw
  refine zc_v (fun u => (wP cI q (nI n) il kn sp py u)) [4] [0, 1, 2, 3] [0, 1, 2, 3, 4] (va_runS (As := [.ref (q 4), .int (5 : Int32)]) (rest := []) ⟨hx, hb, hml, hown, hts⟩ ((c_J7_fill_53178 l D cI cZ (q 4) 6 bo (5 : Int32)  hp0) H.size) (va_cwS 2 hts gX1_unseatAll_J7_fill_53178 rfl rfl rfl (by decide +kernel) ⟨Nat.le_of_ble_eq_true rfl, Nat.le_of_ble_eq_true rfl⟩) (ps_of hK hN hP hD [4] rfl rfl) rfl rfl hl.1 rfl (lv_room (by decide)) dX1_unseatAll_5 ⟨Nat.zero_le _, Nat.zero_le _⟩) hP hD hS hA rfl rfl rfl (by decide) (fun _ => rfl) rfl (fun u H locs hu hP hD hS => ?_)
  subst hu
  have hP : va_P D vwCl (wP cI q (nI n) il kn sp py (fillA bo 6 (5 : Int32))) H := hP
  have hD : va_D A (wP cI q (nI n) il kn sp py (fillA bo 6 (5 : Int32))) := hD
  exact hret (fillA bo 6 (5 : Int32)) _ _ _ _ hw hP hD hS dX1_unseatAll_8
set_option maxHeartbeats 4000000 in
set_option maxRecDepth 100000 in
theorem c_X1_seatAs (l : Launch) (D : va_G) (cI cZ : ClassId) (q : Nat → Nat) (n : Nat) (il : Int32) (kn : Nat → Int32) (sp : Nat → Int32) (py : Nat → Int32) (bo : Nat → Int32) (tm : Nat → Int32) (t : Nat) (hn : n ≤ 6) : MV l yX1_seatAs wsX1_seatAs ({ frames := 4, cells := 0, slots := 0, locals := 160 }) D cI cZ [.ref (q 0), .ref t] (wP cI q (nI n) il kn sp py bo ++ [(t, .inl (cI, 6, .inl tm))]) (fun u : (Nat → Int32) => (wP cI q (nI n) il kn sp py u ++ [(t, .inl (cI, 6, .inl tm))])) (fun u => u = va_cpy tm bo 0 0 6) := by
  refine MV_of (cc := cX1_seatAs) (maxL := 2) (by decide) rfl (Nat.le_of_ble_eq_true rfl) (fun p e s m args below meth c A Q hx hb hml hown hts hK hN hA hret H locs ls hl hP hD hS => ?_)
  have hown : s.vm.findClass RX1 = some m.cls := hown
  have hl : lv_has ls 2 [(0, .ref (q 0)), (1, .ref t)] := hl
  have hin1 : ∀ w ∈ u_ws RX1 TX1 6, w ∈ wsX1_seatAs := fun w h => List.mem_cons_of_mem _ (List.mem_append_right _ h)
  have f21 : (Cond.fieldLink RX1 21 "GlassBooths$People" "booths" "[I").before args s = true := hts _ (by decide +kernel)
  have hw := h_X1_seatAs n il kn sp py tm bo  hn   
  unfold v_X1_seatAs_0 at hw
  refine lv_aload_n hx hb dX1_seatAs_0 rfl (lv_at hl 1 rfl) ?_
  refine lv_ifnull hx hb dX1_seatAs_1 ?_
  refine lv_aload_n hx hb dX1_seatAs_4 rfl (lv_at hl 1 rfl) ?_
  refine va_alen hx hb hK hP 5 0 (v := (6 : Int32)) rfl rfl rfl dX1_seatAs_5 ?_
  refine lv_bipush (v := (6 : Int32)) hx hb dX1_seatAs_6 (by decide) ?_
  refine lv_icmp_ne (tgt := 23) hx hb dX1_seatAs_8 (by decide) (fun hc => ?_) (fun hc => ?_)
  · replace hw := hw.2 hc
    exact hret bo _ _ _ _ hw hP hD hS dX1_seatAs_23
  · replace hw := hw.1 hc
    refine lv_aload_n hx hb dX1_seatAs_11 rfl (lv_at hl 1 rfl) ?_
    refine lv_iconst (v := (0 : Int32)) hx hb dX1_seatAs_12 (by decide) ?_
    refine lv_aload_n hx hb dX1_seatAs_13 rfl (lv_at hl 0 rfl) ?_
    refine va_get (D := D) (ci := 1) (v := .ref (q 4)) (C := RX1) (T := TX1) (N := 6) hx hb hts hin1 hown hK hP 0 rfl rfl 3 (by decide) f21 (fun _ h9 => h9) rfl dX1_seatAs_14 ?_
    refine lv_iconst (v := (0 : Int32)) hx hb dX1_seatAs_17 (by decide) ?_
    refine lv_bipush (v := (6 : Int32)) hx hb dX1_seatAs_18 (by decide) ?_
    refine va_copyi hx hb (hml.trans hl.1.symm) hown (hts (.methodLink RX1 55 arraycopyName) (by decide +kernel)) (hts (.native arraycopyName) (by decide +kernel)) (hts (.static arraycopyName) (by decide +kernel)) (hts (.initialized "java/lang/System") (by decide +kernel)) hK hP hD hS 5 4 0 0 rfl rfl rfl rfl rfl (by decide) (by decide) (by decide) (by decide) (by decide) (fun _ _ => rfl) (Nat.le_of_ble_eq_true rfl) (by decide +kernel) dX1_seatAs_20 (fun H locs hP hD hS => ?_)
    have hP : va_P D vwCl (wP cI q (nI n) il kn sp py (va_cpy tm bo 0 0 6) ++ [(t, .inl (cI, 6, .inl tm))]) H := hP
    have hD : va_D A (wP cI q (nI n) il kn sp py (va_cpy tm bo 0 0 6) ++ [(t, .inl (cI, 6, .inl tm))]) := hD
    exact hret (va_cpy tm bo 0 0 6) _ _ _ _ hw hP hD hS dX1_seatAs_23
set_option maxHeartbeats 4000000 in
set_option maxRecDepth 100000 in
theorem c_X1_add (l : Launch) (D : va_G) (cI cZ : ClassId) (q : Nat → Nat) (n : Nat) (il : Int32) (kn : Nat → Int32) (sp : Nat → Int32) (py : Nat → Int32) (bo : Nat → Int32) (a1 : Int32) (a2 : Int32) (a3 : Int32) (hn : n ≤ 6) : MI l yX1_add wsX1_add ({ frames := 2, cells := 0, slots := 0, locals := 64 }) D cI cZ [.ref (q 0), .int a1, .int a2, .int a3] (wP cI q (nI n) il kn sp py bo) (fun u : Int32 × (Nat → Int32) × (Nat → Int32) × (Nat → Int32) × (Nat → Int32) => (wP cI q u.1 il u.2.1 u.2.2.1 u.2.2.2.1 u.2.2.2.2)) (fun r u => r = (if n < 6 then nI n else (-5)) ∧ u = (nI (if n < 6 then n + 1 else n), (if n < 6 then upd kn n a1 else kn), (if n < 6 then upd sp n a2 else sp), (if n < 6 then upd py n a3 else py), (if n < 6 then upd bo n 5 else bo))) := by
  refine MI_of (cc := cX1_add) (maxL := 4) (ty := .int) (by decide) rfl (Nat.le_of_ble_eq_true rfl) (fun p e s m args below meth c A Q hx hb hml hown hts hK hN hA hret H locs ls hl hP hD hS => ?_)
  have hown : s.vm.findClass RX1 = some m.cls := hown
  have hl : lv_has ls 4 [(0, .ref (q 0)), (1, .int a1), (2, .int a2), (3, .int a3)] := hl
  have hin1 : ∀ w ∈ u_ws RX1 TX1 6, w ∈ wsX1_add := fun w h => List.mem_cons_of_mem _ (List.mem_append_right _ h)
  have f24 : (Cond.fieldLink RX1 24 "GlassBooths$People" "size" "I").before args s = true := hts _ (by decide +kernel)
  have f9 : (Cond.fieldLink RX1 9 "GlassBooths$People" "knownTongues" "[I").before args s = true := hts _ (by decide +kernel)
  have f15 : (Cond.fieldLink RX1 15 "GlassBooths$People" "spokenTongues" "[I").before args s = true := hts _ (by decide +kernel)
  have f18 : (Cond.fieldLink RX1 18 "GlassBooths$People" "pays" "[I").before args s = true := hts _ (by decide +kernel)
  have f21 : (Cond.fieldLink RX1 21 "GlassBooths$People" "booths" "[I").before args s = true := hts _ (by decide +kernel)
  have hw := h_X1_add n il kn sp py bo a1 a2 a3 hn   
  unfold v_X1_add_0 at hw
  refine lv_aload_n hx hb dX1_add_0 rfl (lv_at hl 0 rfl) ?_
  refine va_get (D := D) (ci := 1) (v := .int (nI n)) (C := RX1) (T := TX1) (N := 6) hx hb hts hin1 hown hK hP 0 rfl rfl 4 (by decide) f24 (fun _ h9 => h9) rfl dX1_add_1 ?_
  refine lv_bipush (v := (6 : Int32)) hx hb dX1_add_4 (by decide) ?_
  refine lv_icmp_lt (tgt := 12) hx hb dX1_add_6 (by decide) (fun hc => ?_) (fun hc => ?_)
  · replace hw := hw.1 hc
    refine lv_aload_n hx hb dX1_add_12 rfl (lv_at hl 0 rfl) ?_
    refine va_get (D := D) (ci := 1) (v := .ref (q 1)) (C := RX1) (T := TX1) (N := 6) hx hb hts hin1 hown hK hP 0 rfl rfl 0 (by decide) f9 (fun _ h9 => h9) rfl dX1_add_13 ?_
    refine lv_aload_n hx hb dX1_add_16 rfl (lv_at hl 0 rfl) ?_
    refine va_get (D := D) (ci := 1) (v := .int (nI n)) (C := RX1) (T := TX1) (N := 6) hx hb hts hin1 hown hK hP 0 rfl rfl 4 (by decide) f24 (fun _ h9 => h9) rfl dX1_add_17 ?_
    refine lv_iload_n hx hb dX1_add_20 rfl (lv_at hl 1 rfl) ?_
    obtain ⟨hv, hw⟩ := hw
    refine va_iast hx hb hK hP hD hS 1 0 rfl rfl hv dX1_add_21 (fun H locs hP hD hS => ?_)
    have hP : va_P D vwCl (wP cI q (nI n) il (upd kn (nI n).toNatClampNeg a1) sp py bo) H := hP
    have hD : va_D A (wP cI q (nI n) il (upd kn (nI n).toNatClampNeg a1) sp py bo) := hD
    refine lv_aload_n hx hb dX1_add_22 rfl (lv_at hl 0 rfl) ?_
    refine va_get (D := D) (ci := 1) (v := .ref (q 2)) (C := RX1) (T := TX1) (N := 6) hx hb hts hin1 hown hK hP 0 rfl rfl 1 (by decide) f15 (fun _ h9 => h9) rfl dX1_add_23 ?_
    refine lv_aload_n hx hb dX1_add_26 rfl (lv_at hl 0 rfl) ?_
    refine va_get (D := D) (ci := 1) (v := .int (nI n)) (C := RX1) (T := TX1) (N := 6) hx hb hts hin1 hown hK hP 0 rfl rfl 4 (by decide) f24 (fun _ h9 => h9) rfl dX1_add_27 ?_
    refine lv_iload_n hx hb dX1_add_30 rfl (lv_at hl 2 rfl) ?_
    obtain ⟨hv, hw⟩ := hw
    refine va_iast hx hb hK hP hD hS 2 0 rfl rfl hv dX1_add_31 (fun H locs hP hD hS => ?_)
    have hP : va_P D vwCl (wP cI q (nI n) il (upd kn (nI n).toNatClampNeg a1) (upd sp (nI n).toNatClampNeg a2) py bo) H := hP
    have hD : va_D A (wP cI q (nI n) il (upd kn (nI n).toNatClampNeg a1) (upd sp (nI n).toNatClampNeg a2) py bo) := hD
    refine lv_aload_n hx hb dX1_add_32 rfl (lv_at hl 0 rfl) ?_
    refine va_get (D := D) (ci := 1) (v := .ref (q 3)) (C := RX1) (T := TX1) (N := 6) hx hb hts hin1 hown hK hP 0 rfl rfl 2 (by decide) f18 (fun _ h9 => h9) rfl dX1_add_33 ?_
    refine lv_aload_n hx hb dX1_add_36 rfl (lv_at hl 0 rfl) ?_
    refine va_get (D := D) (ci := 1) (v := .int (nI n)) (C := RX1) (T := TX1) (N := 6) hx hb hts hin1 hown hK hP 0 rfl rfl 4 (by decide) f24 (fun _ h9 => h9) rfl dX1_add_37 ?_
    refine lv_iload_n hx hb dX1_add_40 rfl (lv_at hl 3 rfl) ?_
    obtain ⟨hv, hw⟩ := hw
    refine va_iast hx hb hK hP hD hS 3 0 rfl rfl hv dX1_add_41 (fun H locs hP hD hS => ?_)
    have hP : va_P D vwCl (wP cI q (nI n) il (upd kn (nI n).toNatClampNeg a1) (upd sp (nI n).toNatClampNeg a2) (upd py (nI n).toNatClampNeg a3) bo) H := hP
    have hD : va_D A (wP cI q (nI n) il (upd kn (nI n).toNatClampNeg a1) (upd sp (nI n).toNatClampNeg a2) (upd py (nI n).toNatClampNeg a3) bo) := hD
    refine lv_aload_n hx hb dX1_add_42 rfl (lv_at hl 0 rfl) ?_
    refine va_get (D := D) (ci := 1) (v := .ref (q 4)) (C := RX1) (T := TX1) (N := 6) hx hb hts hin1 hown hK hP 0 rfl rfl 3 (by decide) f21 (fun _ h9 => h9) rfl dX1_add_43 ?_
    refine lv_aload_n hx hb dX1_add_46 rfl (lv_at hl 0 rfl) ?_
    refine va_get (D := D) (ci := 1) (v := .int (nI n)) (C := RX1) (T := TX1) (N := 6) hx hb hts hin1 hown hK hP 0 rfl rfl 4 (by decide) f24 (fun _ h9 => h9) rfl dX1_add_47 ?_
    refine lv_iconst (v := (5 : Int32)) hx hb dX1_add_50 (by decide) ?_
    obtain ⟨hv, hw⟩ := hw
    refine va_iast hx hb hK hP hD hS 4 0 rfl rfl hv dX1_add_51 (fun H locs hP hD hS => ?_)
    have hP : va_P D vwCl (wP cI q (nI n) il (upd kn (nI n).toNatClampNeg a1) (upd sp (nI n).toNatClampNeg a2) (upd py (nI n).toNatClampNeg a3) (upd bo (nI n).toNatClampNeg (5 : Int32))) H := hP
    have hD : va_D A (wP cI q (nI n) il (upd kn (nI n).toNatClampNeg a1) (upd sp (nI n).toNatClampNeg a2) (upd py (nI n).toNatClampNeg a3) (upd bo (nI n).toNatClampNeg (5 : Int32))) := hD
    refine lv_aload_n hx hb dX1_add_52 rfl (lv_at hl 0 rfl) ?_
    refine lv_dup hx hb dX1_add_53 rfl ?_
    refine va_get (D := D) (ci := 1) (v := .int (nI n)) (C := RX1) (T := TX1) (N := 6) hx hb hts hin1 hown hK hP 0 rfl rfl 4 (by decide) f24 (fun _ h9 => h9) rfl dX1_add_54 ?_
    refine lv_iconst (v := (1 : Int32)) hx hb dX1_add_57 (by decide) ?_
    refine lv_iadd hx hb dX1_add_58 ?_
    refine va_put (D := D) (ci := 1) (v := .int ((nI n) + (1 : Int32))) (ty := .int) (C := RX1) (T := TX1) (N := 6) hx hb hts hin1 tyX1 tyX1_ok nmX1 hown hK hP hD hS 0 rfl rfl 4 (by decide) f24 (fun _ h9 => h9) rfl (by decide +kernel) rfl rfl (Nat.le_of_ble_eq_true rfl) dX1_add_59 (fun H locs hP hD hS => ?_)
    have hP : va_P D vwCl (wP cI q ((nI n) + (1 : Int32)) il (upd kn (nI n).toNatClampNeg a1) (upd sp (nI n).toNatClampNeg a2) (upd py (nI n).toNatClampNeg a3) (upd bo (nI n).toNatClampNeg (5 : Int32))) H := hP
    have hD : va_D A (wP cI q ((nI n) + (1 : Int32)) il (upd kn (nI n).toNatClampNeg a1) (upd sp (nI n).toNatClampNeg a2) (upd py (nI n).toNatClampNeg a3) (upd bo (nI n).toNatClampNeg (5 : Int32))) := hD
    refine lv_aload_n hx hb dX1_add_62 rfl (lv_at hl 0 rfl) ?_
    refine va_get (D := D) (ci := 1) (v := .int ((nI n) + (1 : Int32))) (C := RX1) (T := TX1) (N := 6) hx hb hts hin1 hown hK hP 0 rfl rfl 4 (by decide) f24 (fun _ h9 => h9) rfl dX1_add_63 ?_
    refine lv_iconst (v := (1 : Int32)) hx hb dX1_add_66 (by decide) ?_
    refine lv_isub hx hb dX1_add_67 ?_
    exact hret _ ((nI n) + (1 : Int32), upd kn (nI n).toNatClampNeg a1, upd sp (nI n).toNatClampNeg a2, upd py (nI n).toNatClampNeg a3, upd bo (nI n).toNatClampNeg (5 : Int32)) _ _ _ _ hw rfl hP hD hS dX1_add_68
  · replace hw := hw.2 hc
    refine lv_bipush (v := (-5 : Int32)) hx hb dX1_add_9 (by decide) ?_
    exact hret _ (nI n, kn, sp, py, bo) _ _ _ _ hw rfl hP hD hS dX1_add_11
set_option maxHeartbeats 4000000 in
set_option maxRecDepth 100000 in
theorem c_X1_setIll (l : Launch) (D : va_G) (cI cZ : ClassId) (q : Nat → Nat) (n : Nat) (il : Int32) (kn : Nat → Int32) (sp : Nat → Int32) (py : Nat → Int32) (bo : Nat → Int32) (a1 : Int32) (a2 : Int32) (hn : n ≤ 6) : MV l yX1_setIll wsX1_setIll ({ frames := 2, cells := 0, slots := 0, locals := 64 }) D cI cZ [.ref (q 0), .int a1, .int a2] (wP cI q (nI n) il kn sp py bo) (fun u : Int32 => (wP cI q (nI n) u kn sp py bo)) (fun u => u = (if a2 = 0 then il &&& (((1 : Int32) <<< (a1 &&& 31)) ^^^ (-1)) else il ||| ((1 : Int32) <<< (a1 &&& 31)))) := by
  refine MV_of (cc := cX1_setIll) (maxL := 4) (by decide) rfl (Nat.le_of_ble_eq_true rfl) (fun p e s m args below meth c A Q hx hb hml hown hts hK hN hA hret H locs ls hl hP hD hS => ?_)
  have hown : s.vm.findClass RX1 = some m.cls := hown
  have hl : lv_has ls 4 [(0, .ref (q 0)), (1, .int a1), (2, .int a2)] := hl
  have hin1 : ∀ w ∈ u_ws RX1 TX1 6, w ∈ wsX1_setIll := fun w h => List.mem_cons_of_mem _ (List.mem_append_right _ h)
  have f28 : (Cond.fieldLink RX1 28 "GlassBooths$People" "illBits" "I").before args s = true := hts _ (by decide +kernel)
  have hw := h_X1_setIll n kn sp py bo il a1 a2 hn   
  unfold v_X1_setIll_0 at hw
  refine lv_iconst (v := (1 : Int32)) hx hb dX1_setIll_0 (by decide) ?_
  refine lv_iload_n hx hb dX1_setIll_1 rfl (lv_at hl 1 rfl) ?_
  refine lv_ishl hx hb dX1_setIll_2 ?_
  refine lv_istore_n (lv' := [(3, .int ((1 : Int32) <<< (a1 &&& 31))), (0, .ref (q 0)), (1, .int a1), (2, .int a2)]) hx hb dX1_setIll_3 rfl hl (by decide) rfl (fun ls hl => ?_)
  refine lv_aload_n hx hb dX1_setIll_4 rfl (lv_at hl 1 rfl) ?_
  refine lv_iload_n hx hb dX1_setIll_5 rfl (lv_at hl 3 rfl) ?_
  refine lv_if_eq (tgt := 18) hx hb dX1_setIll_6 (by decide) (fun hc => ?_) (fun hc => ?_)
  · replace hw := hw.1 hc
    refine lv_aload_n hx hb dX1_setIll_18 rfl (lv_at hl 1 rfl) ?_
    refine va_get (D := D) (ci := 1) (v := .int il) (C := RX1) (T := TX1) (N := 6) hx hb hts hin1 hown hK hP 0 rfl rfl 5 (by decide) f28 (fun _ h9 => h9) rfl dX1_setIll_19 ?_
    refine lv_iload_n hx hb dX1_setIll_22 rfl (lv_at hl 0 rfl) ?_
    refine lv_iconst (v := (-1 : Int32)) hx hb dX1_setIll_23 (by decide) ?_
    refine lv_ixor hx hb dX1_setIll_24 ?_
    refine lv_iand hx hb dX1_setIll_25 ?_
    refine va_put (D := D) (ci := 1) (v := .int (il &&& (((1 : Int32) <<< (a1 &&& 31)) ^^^ (-1 : Int32)))) (ty := .int) (C := RX1) (T := TX1) (N := 6) hx hb hts hin1 tyX1 tyX1_ok nmX1 hown hK hP hD hS 0 rfl rfl 5 (by decide) f28 (fun _ h9 => h9) rfl (by decide +kernel) rfl rfl (Nat.le_of_ble_eq_true rfl) dX1_setIll_26 (fun H locs hP hD hS => ?_)
    have hP : va_P D vwCl (wP cI q (nI n) (il &&& (((1 : Int32) <<< (a1 &&& 31)) ^^^ (-1 : Int32))) kn sp py bo) H := hP
    have hD : va_D A (wP cI q (nI n) (il &&& (((1 : Int32) <<< (a1 &&& 31)) ^^^ (-1 : Int32))) kn sp py bo) := hD
    exact hret (il &&& (((1 : Int32) <<< (a1 &&& 31)) ^^^ (-1 : Int32))) _ _ _ _ hw hP hD hS dX1_setIll_29
  · replace hw := hw.2 hc
    refine lv_aload_n hx hb dX1_setIll_9 rfl (lv_at hl 1 rfl) ?_
    refine va_get (D := D) (ci := 1) (v := .int il) (C := RX1) (T := TX1) (N := 6) hx hb hts hin1 hown hK hP 0 rfl rfl 5 (by decide) f28 (fun _ h9 => h9) rfl dX1_setIll_10 ?_
    refine lv_iload_n hx hb dX1_setIll_13 rfl (lv_at hl 0 rfl) ?_
    refine lv_ior hx hb dX1_setIll_14 ?_
    refine lv_goto (tgt := 26) hx hb dX1_setIll_15 (by decide) ?_
    refine va_put (D := D) (ci := 1) (v := .int (il ||| ((1 : Int32) <<< (a1 &&& 31)))) (ty := .int) (C := RX1) (T := TX1) (N := 6) hx hb hts hin1 tyX1 tyX1_ok nmX1 hown hK hP hD hS 0 rfl rfl 5 (by decide) f28 (fun _ h9 => h9) rfl (by decide +kernel) rfl rfl (Nat.le_of_ble_eq_true rfl) dX1_setIll_26 (fun H locs hP hD hS => ?_)
    have hP : va_P D vwCl (wP cI q (nI n) (il ||| ((1 : Int32) <<< (a1 &&& 31))) kn sp py bo) H := hP
    have hD : va_D A (wP cI q (nI n) (il ||| ((1 : Int32) <<< (a1 &&& 31))) kn sp py bo) := hD
    exact hret (il ||| ((1 : Int32) <<< (a1 &&& 31))) _ _ _ _ hw hP hD hS dX1_setIll_29
