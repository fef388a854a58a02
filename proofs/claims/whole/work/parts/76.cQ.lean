set_option maxHeartbeats 4000000 in
set_option maxRecDepth 100000 in
theorem c_X4_findOn (l : Launch) (D : va_G) (cI cZ : ClassId) (q : Nat → Nat) (n : Nat) (se : Int32) (li : Int32) (wm : Int32) (ch : Int32) (ne : Int32) (np : Int32) (al : Int32) (wo : Int32) (kn : Nat → Int32) (sp : Nat → Int32) (py : Nat → Int32) (il : Nat → Int32) (fl : Nat → Int32) (wa : Nat → Int32) (bo : Nat → Int32) (so : Nat → Int32) (sd : Nat → Int32) (ro : Nat → Int32) (cp : Nat → Int32) (nr : Nat → Int32) (ti : Nat → Int32) (on : Nat → Int32) (he : Nat → Int32) (la : Nat → Int32) (a1 : Int32) (hn : n ≤ 6) (h0 : inB a1 16 = true) : MV l yX4_findOn wsX4_findOn ({ frames := 6, cells := 0, slots := 0, locals := 240 }) D cI cZ [.ref (q 0), .int a1] (wR cI cZ q (nI n) se li wm ch ne np al wo kn sp py il fl wa bo so sd ro cp nr ti on he la) (fun u : (Nat → Int32) × (Nat → Int32) => (wR cI cZ q (nI n) se li wm ch ne np al wo kn sp py il fl wa bo so sd ro cp nr ti u.1 u.2 la)) (fun u => u = (chO n bo ti on n, heF n kn (chO n bo ti on n) (so a1.toNatClampNeg) he 5)) := by
  refine MV_of (cc := cX4_findOn) (maxL := 5) (by decide) rfl (Nat.le_of_ble_eq_true rfl) (fun p e s m args below meth c A Q hx hb hml hown hts hK hN hA hret H locs ls hl hP hD hS => ?_)
  have hown : s.vm.findClass RX4 = some m.cls := hown
  have hl : lv_has ls 5 [(0, .ref (q 0)), (1, .int a1)] := hl
  have hin4 : ∀ w ∈ u_ws RX4 TX4 25, w ∈ wsX4_findOn := fun w h => List.mem_cons_of_mem _ (List.mem_append_right _ h)
  have f36 : (Cond.fieldLink RX4 36 "GlassBoothsModel" "spoken" "[I").before args s = true := hts _ (by decide +kernel)
  have f57 : (Cond.fieldLink RX4 57 "GlassBoothsModel" "on" "[I").before args s = true := hts _ (by decide +kernel)
  have f66 : (Cond.fieldLink RX4 66 "GlassBoothsModel" "people" "I").before args s = true := hts _ (by decide +kernel)
  have f33 : (Cond.fieldLink RX4 33 "GlassBoothsModel" "booth" "[I").before args s = true := hts _ (by decide +kernel)
  have f54 : (Cond.fieldLink RX4 54 "GlassBoothsModel" "tired" "[I").before args s = true := hts _ (by decide +kernel)
  have f60 : (Cond.fieldLink RX4 60 "GlassBoothsModel" "heard" "[I").before args s = true := hts _ (by decide +kernel)
  have f7 : (Cond.fieldLink RX4 7 "GlassBoothsModel" "knows" "[I").before args s = true := hts _ (by decide +kernel)
  obtain ⟨K2, k2i, k2e⟩ := ex_K4 (fun (x1 : Int32) (x2 : Int32) (on_ : Nat → Int32) (he_ : Nat → Int32) => ∀ (H : Heap) (locs : List Loc) (ls : Array Slot), lv_has ls 5 [(0, .ref (q 0)), (1, .int x1), (2, .int x2)] → va_P D vwCl (wR cI cZ q (nI n) se li wm ch ne np al wo kn sp py il fl wa bo so sd ro cp nr ti on_ he_ la) H → va_D A (wR cI cZ q (nI n) se li wm ch ne np al wo kn sp py il fl wa bo so sd ro cp nr ti on_ he_ la) → va_S A s.heap H locs → W p l e (headSpec wsX4_findOn ({ frames := 6, cells := 0, slots := 0, locals := 240 })).room s m args below meth c H locs 0 0 Q (F0 m 2 ls []))
  obtain ⟨K16, k16i, k16e⟩ := ex_K5 (fun (x1 : Int32) (x2 : Int32) (x3 : Int32) (on_ : Nat → Int32) (he_ : Nat → Int32) => ∀ (H : Heap) (locs : List Loc) (ls : Array Slot), lv_has ls 5 [(0, .ref (q 0)), (1, .int x1), (2, .int x2), (3, .int x3)] → va_P D vwCl (wR cI cZ q (nI n) se li wm ch ne np al wo kn sp py il fl wa bo so sd ro cp nr ti on_ he_ la) H → va_D A (wR cI cZ q (nI n) se li wm ch ne np al wo kn sp py il fl wa bo so sd ro cp nr ti on_ he_ la) → va_S A s.heap H locs → W p l e (headSpec wsX4_findOn ({ frames := 6, cells := 0, slots := 0, locals := 240 })).room s m args below meth c H locs 0 0 Q (F0 m 16 ls []))
  obtain ⟨K101, k101i, k101e⟩ := ex_K4 (fun (x2 : Int32) (x3 : Int32) (on_ : Nat → Int32) (he_ : Nat → Int32) => ∀ (H : Heap) (locs : List Loc) (ls : Array Slot), lv_has ls 5 [(0, .ref (q 0)), (2, .int x2), (3, .int x3)] → va_P D vwCl (wR cI cZ q (nI n) se li wm ch ne np al wo kn sp py il fl wa bo so sd ro cp nr ti on_ he_ la) H → va_D A (wR cI cZ q (nI n) se li wm ch ne np al wo kn sp py il fl wa bo so sd ro cp nr ti on_ he_ la) → va_S A s.heap H locs → W p l e (headSpec wsX4_findOn ({ frames := 6, cells := 0, slots := 0, locals := 240 })).room s m args below meth c H locs 0 0 Q (F0 m 101 ls []))
  obtain ⟨K136, k136i, k136e⟩ := ex_K5 (fun (x2 : Int32) (x3 : Int32) (x4 : Int32) (on_ : Nat → Int32) (he_ : Nat → Int32) => ∀ (H : Heap) (locs : List Loc) (ls : Array Slot), lv_has ls 5 [(0, .ref (q 0)), (2, .int x2), (3, .int x3), (4, .int x4)] → va_P D vwCl (wR cI cZ q (nI n) se li wm ch ne np al wo kn sp py il fl wa bo so sd ro cp nr ti on_ he_ la) H → va_D A (wR cI cZ q (nI n) se li wm ch ne np al wo kn sp py il fl wa bo so sd ro cp nr ti on_ he_ la) → va_S A s.heap H locs → W p l e (headSpec wsX4_findOn ({ frames := 6, cells := 0, slots := 0, locals := 240 })).room s m args below meth c H locs 0 0 Q (F0 m 136 ls []))
  have R2 : ∀ x1 x2 on_ he_, v_X4_findOn_2 n se li wm ch ne np al wo kn sp py il fl wa bo so sd ro cp nr ti la (fun u => u = (chO n bo ti on n, heF n kn (chO n bo ti on n) (so a1.toNatClampNeg) he 5)) K2 K16 K101 K136 x1 x2 on_ he_ → K2 x1 x2 on_ he_ := by
    intro x1 x2 on_ he_ hw
    refine k2i _ _ _ _ ?_
    intro H locs ls hl hP hD hS
    unfold v_X4_findOn_2 at hw
    refine lv_iload_n hx hb dX4_findOn_2 rfl (lv_at hl 2 rfl) ?_
    refine lv_iconst (v := (5 : Int32)) hx hb dX4_findOn_3 (by decide) ?_
    refine lv_icmp_ge (tgt := 92) hx hb dX4_findOn_4 (by decide) (fun hc => ?_) (fun hc => ?_)
    · replace hw := hw.1 hc
      refine lv_aload_n hx hb dX4_findOn_92 rfl (lv_at hl 0 rfl) ?_
      refine va_get (D := D) (ci := 4) (v := .ref (q 8)) (C := RX4) (T := TX4) (N := 25) hx hb hts hin4 hown hK hP 0 rfl rfl 9 (by decide) f36 (fun _ h9 => h9) rfl dX4_findOn_93 ?_
      refine lv_iload_n hx hb dX4_findOn_96 rfl (lv_at hl 1 rfl) ?_
      obtain ⟨hv, hw⟩ := hw
      refine va_iald hx hb hK hP 8 0 rfl rfl hv dX4_findOn_97 ?_
      refine lv_istore_n (lv' := [(2, .int (so x1.toNatClampNeg)), (0, .ref (q 0)), (1, .int x1)]) hx hb dX4_findOn_98 rfl hl (by decide) rfl (fun ls hl => ?_)
      refine lv_iconst (v := (0 : Int32)) hx hb dX4_findOn_99 (by decide) ?_
      refine lv_istore_n (lv' := [(3, .int (0 : Int32)), (2, .int (so x1.toNatClampNeg)), (0, .ref (q 0)), (1, .int x1)]) hx hb dX4_findOn_100 rfl hl (by decide) rfl (fun ls hl => ?_)
      exact k101e _ _ _ _ hw _ _ _ (lv_sub hl [2, 1, 0] rfl) hP hD hS
    · replace hw := hw.2 hc
      refine lv_aload_n hx hb dX4_findOn_7 rfl (lv_at hl 0 rfl) ?_
      refine va_get (D := D) (ci := 4) (v := .ref (q 14)) (C := RX4) (T := TX4) (N := 25) hx hb hts hin4 hown hK hP 0 rfl rfl 21 (by decide) f57 (fun _ h9 => h9) rfl dX4_findOn_8 ?_
      refine lv_iload_n hx hb dX4_findOn_11 rfl (lv_at hl 2 rfl) ?_
      refine lv_iconst (v := (-1 : Int32)) hx hb dX4_findOn_12 (by decide) ?_
      obtain ⟨hv, hw⟩ := hw
      refine va_iast hx hb hK hP hD hS 14 0 rfl rfl hv dX4_findOn_13 (fun H locs hP hD hS => ?_)
      have hP : va_P D vwCl (wR cI cZ q (nI n) se li wm ch ne np al wo kn sp py il fl wa bo so sd ro cp nr ti (upd on_ x2.toNatClampNeg (-1 : Int32)) he_ la) H := hP
      have hD : va_D A (wR cI cZ q (nI n) se li wm ch ne np al wo kn sp py il fl wa bo so sd ro cp nr ti (upd on_ x2.toNatClampNeg (-1 : Int32)) he_ la) := hD
      refine lv_iconst (v := (0 : Int32)) hx hb dX4_findOn_14 (by decide) ?_
      refine lv_istore_n (lv' := [(3, .int (0 : Int32)), (0, .ref (q 0)), (1, .int x1), (2, .int x2)]) hx hb dX4_findOn_15 rfl hl (by decide) rfl (fun ls hl => ?_)
      exact k16e _ _ _ _ _ hw _ _ _ (lv_sub hl [1, 2, 3, 0] rfl) hP hD hS
  have J79 : ∀ x1 x2 x3 s0 s1 on_ he_, v_X4_findOn_79 n se li wm ch ne np al wo kn sp py il fl wa bo so sd ro cp nr ti la (fun u => u = (chO n bo ti on n, heF n kn (chO n bo ti on n) (so a1.toNatClampNeg) he 5)) K2 K16 K101 K136 x1 x2 x3 s0 s1 on_ he_ → ∀ (H : Heap) (locs : List Loc) (ls : Array Slot), lv_has ls 5 [(0, .ref (q 0)), (1, .int x1), (2, .int x2), (3, .int x3)] → va_P D vwCl (wR cI cZ q (nI n) se li wm ch ne np al wo kn sp py il fl wa bo so sd ro cp nr ti on_ he_ la) H → va_D A (wR cI cZ q (nI n) se li wm ch ne np al wo kn sp py il fl wa bo so sd ro cp nr ti on_ he_ la) → va_S A s.heap H locs → W p l e (headSpec wsX4_findOn ({ frames := 6, cells := 0, slots := 0, locals := 240 })).room s m args below meth c H locs 0 0 Q (F0 m 79 ls [.int s0, .int s1, .ref (q 14)]) := by
    intro x1 x2 x3 s0 s1 on_ he_ hw
    intro H locs ls hl hP hD hS
    unfold v_X4_findOn_79 at hw
    obtain ⟨hv, hw⟩ := hw
    refine va_iast hx hb hK hP hD hS 14 0 rfl rfl hv dX4_findOn_79 (fun H locs hP hD hS => ?_)
    have hP : va_P D vwCl (wR cI cZ q (nI n) se li wm ch ne np al wo kn sp py il fl wa bo so sd ro cp nr ti (upd on_ s1.toNatClampNeg s0) he_ la) H := hP
    have hD : va_D A (wR cI cZ q (nI n) se li wm ch ne np al wo kn sp py il fl wa bo so sd ro cp nr ti (upd on_ s1.toNatClampNeg s0) he_ la) := hD
    refine lv_iinc (v := x3 + 1) (lv' := [(3, .int (x3 + 1)), (0, .ref (q 0)), (1, .int x1), (2, .int x2)]) hx hb dX4_findOn_80 hl (k := 3) rfl rfl (by decide) rfl (fun ls hl => ?_)
    refine lv_goto (tgt := 16) hx hb dX4_findOn_83 (by decide) ?_
    exact k16e _ _ _ _ _ hw _ _ _ (lv_sub hl [1, 2, 3, 0] rfl) hP hD hS
  have J69 : ∀ x1 x2 x3 s0 on_ he_, v_X4_findOn_69 n se li wm ch ne np al wo kn sp py il fl wa bo so sd ro cp nr ti la (fun u => u = (chO n bo ti on n, heF n kn (chO n bo ti on n) (so a1.toNatClampNeg) he 5)) K2 K16 K101 K136 x1 x2 x3 s0 on_ he_ → ∀ (H : Heap) (locs : List Loc) (ls : Array Slot), lv_has ls 5 [(0, .ref (q 0)), (1, .int x1), (2, .int x2), (3, .int x3)] → va_P D vwCl (wR cI cZ q (nI n) se li wm ch ne np al wo kn sp py il fl wa bo so sd ro cp nr ti on_ he_ la) H → va_D A (wR cI cZ q (nI n) se li wm ch ne np al wo kn sp py il fl wa bo so sd ro cp nr ti on_ he_ la) → va_S A s.heap H locs → W p l e (headSpec wsX4_findOn ({ frames := 6, cells := 0, slots := 0, locals := 240 })).room s m args below meth c H locs 0 0 Q (F0 m 69 ls [.int s0, .ref (q 14)]) := by
    intro x1 x2 x3 s0 on_ he_ hw
    intro H locs ls hl hP hD hS
    unfold v_X4_findOn_69 at hw
    refine lv_iload_n hx hb dX4_findOn_69 rfl (lv_at hl 3 rfl) ?_
    refine lv_goto (tgt := 79) hx hb dX4_findOn_70 (by decide) ?_
    exact J79 _ _ _ _ _ _ _ hw _ _ _ (lv_sub hl [0, 1, 2, 3] rfl) hP hD hS
  have J73 : ∀ x1 x2 x3 s0 on_ he_, v_X4_findOn_73 n se li wm ch ne np al wo kn sp py il fl wa bo so sd ro cp nr ti la (fun u => u = (chO n bo ti on n, heF n kn (chO n bo ti on n) (so a1.toNatClampNeg) he 5)) K2 K16 K101 K136 x1 x2 x3 s0 on_ he_ → ∀ (H : Heap) (locs : List Loc) (ls : Array Slot), lv_has ls 5 [(0, .ref (q 0)), (1, .int x1), (2, .int x2), (3, .int x3)] → va_P D vwCl (wR cI cZ q (nI n) se li wm ch ne np al wo kn sp py il fl wa bo so sd ro cp nr ti on_ he_ la) H → va_D A (wR cI cZ q (nI n) se li wm ch ne np al wo kn sp py il fl wa bo so sd ro cp nr ti on_ he_ la) → va_S A s.heap H locs → W p l e (headSpec wsX4_findOn ({ frames := 6, cells := 0, slots := 0, locals := 240 })).room s m args below meth c H locs 0 0 Q (F0 m 73 ls [.int s0, .ref (q 14)]) := by
    intro x1 x2 x3 s0 on_ he_ hw
    intro H locs ls hl hP hD hS
    unfold v_X4_findOn_73 at hw
    refine lv_aload_n hx hb dX4_findOn_73 rfl (lv_at hl 0 rfl) ?_
    refine va_get (D := D) (ci := 4) (v := .ref (q 14)) (C := RX4) (T := TX4) (N := 25) hx hb hts hin4 hown hK hP 0 rfl rfl 21 (by decide) f57 (fun _ h9 => h9) rfl dX4_findOn_74 ?_
    refine lv_iload_n hx hb dX4_findOn_77 rfl (lv_at hl 2 rfl) ?_
    obtain ⟨hv, hw⟩ := hw
    refine va_iald hx hb hK hP 14 0 rfl rfl hv dX4_findOn_78 ?_
    exact J79 _ _ _ _ _ _ _ hw _ _ _ (lv_sub hl [0, 1, 2, 3] rfl) hP hD hS
  have R16 : ∀ x1 x2 x3 on_ he_, v_X4_findOn_16 n se li wm ch ne np al wo kn sp py il fl wa bo so sd ro cp nr ti la (fun u => u = (chO n bo ti on n, heF n kn (chO n bo ti on n) (so a1.toNatClampNeg) he 5)) K2 K16 K101 K136 x1 x2 x3 on_ he_ → K16 x1 x2 x3 on_ he_ := by
    intro x1 x2 x3 on_ he_ hw
    refine k16i _ _ _ _ _ ?_
    intro H locs ls hl hP hD hS
    unfold v_X4_findOn_16 at hw
    refine lv_iload_n hx hb dX4_findOn_16 rfl (lv_at hl 3 rfl) ?_
    refine lv_aload_n hx hb dX4_findOn_17 rfl (lv_at hl 0 rfl) ?_
    refine va_get (D := D) (ci := 4) (v := .int (nI n)) (C := RX4) (T := TX4) (N := 25) hx hb hts hin4 hown hK hP 0 rfl rfl 0 (by decide) f66 (fun _ h9 => h9) rfl dX4_findOn_18 ?_
    refine lv_icmp_ge (tgt := 86) hx hb dX4_findOn_21 (by decide) (fun hc => ?_) (fun hc => ?_)
    · replace hw := hw.1 hc
      refine lv_iinc (v := x2 + 1) (lv' := [(2, .int (x2 + 1)), (0, .ref (q 0)), (1, .int x1), (3, .int x3)]) hx hb dX4_findOn_86 hl (k := 2) rfl rfl (by decide) rfl (fun ls hl => ?_)
      refine lv_goto (tgt := 2) hx hb dX4_findOn_89 (by decide) ?_
      exact k2e _ _ _ _ hw _ _ _ (lv_sub hl [1, 2, 0] rfl) hP hD hS
    · replace hw := hw.2 hc
      refine lv_aload_n hx hb dX4_findOn_24 rfl (lv_at hl 0 rfl) ?_
      refine va_get (D := D) (ci := 4) (v := .ref (q 14)) (C := RX4) (T := TX4) (N := 25) hx hb hts hin4 hown hK hP 0 rfl rfl 21 (by decide) f57 (fun _ h9 => h9) rfl dX4_findOn_25 ?_
      refine lv_iload_n hx hb dX4_findOn_28 rfl (lv_at hl 2 rfl) ?_
      refine lv_aload_n hx hb dX4_findOn_29 rfl (lv_at hl 0 rfl) ?_
      refine va_get (D := D) (ci := 4) (v := .ref (q 7)) (C := RX4) (T := TX4) (N := 25) hx hb hts hin4 hown hK hP 0 rfl rfl 8 (by decide) f33 (fun _ h9 => h9) rfl dX4_findOn_30 ?_
      refine lv_iload_n hx hb dX4_findOn_33 rfl (lv_at hl 3 rfl) ?_
      obtain ⟨hv, hw⟩ := hw
      refine va_iald hx hb hK hP 7 0 rfl rfl hv dX4_findOn_34 ?_
      refine lv_iload_n hx hb dX4_findOn_35 rfl (lv_at hl 2 rfl) ?_
      refine lv_icmp_ne (tgt := 73) hx hb dX4_findOn_36 (by decide) (fun hc => ?_) (fun hc => ?_)
      · replace hw := hw.2 hc
        exact J73 _ _ _ _ _ _ hw _ _ _ (lv_sub hl [0, 1, 2, 3] rfl) hP hD hS
      · replace hw := hw.1 hc
        refine lv_aload_n hx hb dX4_findOn_39 rfl (lv_at hl 0 rfl) ?_
        refine va_get (D := D) (ci := 4) (v := .ref (q 14)) (C := RX4) (T := TX4) (N := 25) hx hb hts hin4 hown hK hP 0 rfl rfl 21 (by decide) f57 (fun _ h9 => h9) rfl dX4_findOn_40 ?_
        refine lv_iload_n hx hb dX4_findOn_43 rfl (lv_at hl 2 rfl) ?_
        obtain ⟨hv, hw⟩ := hw
        refine va_iald hx hb hK hP 14 0 rfl rfl hv dX4_findOn_44 ?_
        refine lv_iconst (v := (-1 : Int32)) hx hb dX4_findOn_45 (by decide) ?_
        refine lv_icmp_eq (tgt := 69) hx hb dX4_findOn_46 (by decide) (fun hc => ?_) (fun hc => ?_)
        · replace hw := hw.1 hc
          exact J69 _ _ _ _ _ _ hw _ _ _ (lv_sub hl [0, 1, 2, 3] rfl) hP hD hS
        · replace hw := hw.2 hc
          refine lv_aload_n hx hb dX4_findOn_49 rfl (lv_at hl 0 rfl) ?_
          refine va_get (D := D) (ci := 4) (v := .ref (q 13)) (C := RX4) (T := TX4) (N := 25) hx hb hts hin4 hown hK hP 0 rfl rfl 20 (by decide) f54 (fun _ h9 => h9) rfl dX4_findOn_50 ?_
          refine lv_iload_n hx hb dX4_findOn_53 rfl (lv_at hl 3 rfl) ?_
          obtain ⟨hv, hw⟩ := hw
          refine va_iald hx hb hK hP 13 0 rfl rfl hv dX4_findOn_54 ?_
          refine lv_aload_n hx hb dX4_findOn_55 rfl (lv_at hl 0 rfl) ?_
          refine va_get (D := D) (ci := 4) (v := .ref (q 13)) (C := RX4) (T := TX4) (N := 25) hx hb hts hin4 hown hK hP 0 rfl rfl 20 (by decide) f54 (fun _ h9 => h9) rfl dX4_findOn_56 ?_
          refine lv_aload_n hx hb dX4_findOn_59 rfl (lv_at hl 0 rfl) ?_
          refine va_get (D := D) (ci := 4) (v := .ref (q 14)) (C := RX4) (T := TX4) (N := 25) hx hb hts hin4 hown hK hP 0 rfl rfl 21 (by decide) f57 (fun _ h9 => h9) rfl dX4_findOn_60 ?_
          refine lv_iload_n hx hb dX4_findOn_63 rfl (lv_at hl 2 rfl) ?_
          obtain ⟨hv, hw⟩ := hw
          refine va_iald hx hb hK hP 14 0 rfl rfl hv dX4_findOn_64 ?_
          obtain ⟨hv, hw⟩ := hw
          refine va_iald hx hb hK hP 13 0 rfl rfl hv dX4_findOn_65 ?_
          refine lv_icmp_ge (tgt := 73) hx hb dX4_findOn_66 (by decide) (fun hc => ?_) (fun hc => ?_)
          · replace hw := hw.1 hc
            exact J73 _ _ _ _ _ _ hw _ _ _ (lv_sub hl [0, 1, 2, 3] rfl) hP hD hS
          · replace hw := hw.2 hc
            exact J69 _ _ _ _ _ _ hw _ _ _ (lv_sub hl [0, 1, 2, 3] rfl) hP hD hS
  have J244 : ∀ x2 x3 on_ he_, v_X4_findOn_244 n se li wm ch ne np al wo kn sp py il fl wa bo so sd ro cp nr ti la (fun u => u = (chO n bo ti on n, heF n kn (chO n bo ti on n) (so a1.toNatClampNeg) he 5)) K2 K16 K101 K136 x2 x3 on_ he_ → ∀ (H : Heap) (locs : List Loc) (ls : Array Slot), lv_has ls 5 [(0, .ref (q 0)), (2, .int x2), (3, .int x3)] → va_P D vwCl (wR cI cZ q (nI n) se li wm ch ne np al wo kn sp py il fl wa bo so sd ro cp nr ti on_ he_ la) H → va_D A (wR cI cZ q (nI n) se li wm ch ne np al wo kn sp py il fl wa bo so sd ro cp nr ti on_ he_ la) → va_S A s.heap H locs → W p l e (headSpec wsX4_findOn ({ frames := 6, cells := 0, slots := 0, locals := 240 })).room s m args below meth c H locs 0 0 Q (F0 m 244 ls []) := by
    intro x2 x3 on_ he_ hw
    intro H locs ls hl hP hD hS
    unfold v_X4_findOn_244 at hw
    refine lv_iinc (v := x3 + 1) (lv' := [(3, .int (x3 + 1)), (0, .ref (q 0)), (2, .int x2)]) hx hb dX4_findOn_244 hl (k := 2) rfl rfl (by decide) rfl (fun ls hl => ?_)
    refine lv_goto (tgt := 101) hx hb dX4_findOn_247 (by decide) ?_
    exact k101e _ _ _ _ hw _ _ _ (lv_sub hl [1, 2, 0] rfl) hP hD hS
  have R101 : ∀ x2 x3 on_ he_, v_X4_findOn_101 n se li wm ch ne np al wo kn sp py il fl wa bo so sd ro cp nr ti la (fun u => u = (chO n bo ti on n, heF n kn (chO n bo ti on n) (so a1.toNatClampNeg) he 5)) K2 K16 K101 K136 x2 x3 on_ he_ → K101 x2 x3 on_ he_ := by
    intro x2 x3 on_ he_ hw
    refine k101i _ _ _ _ ?_
    intro H locs ls hl hP hD hS
    unfold v_X4_findOn_101 at hw
    refine lv_iload_n hx hb dX4_findOn_101 rfl (lv_at hl 2 rfl) ?_
    refine lv_iconst (v := (5 : Int32)) hx hb dX4_findOn_102 (by decide) ?_
    refine lv_icmp_ge (tgt := 250) hx hb dX4_findOn_103 (by decide) (fun hc => ?_) (fun hc => ?_)
    · replace hw := hw.1 hc
      exact hret (on_, he_) _ _ _ _ hw hP hD hS dX4_findOn_250
    · replace hw := hw.2 hc
      refine lv_aload_n hx hb dX4_findOn_106 rfl (lv_at hl 0 rfl) ?_
      refine va_get (D := D) (ci := 4) (v := .ref (q 15)) (C := RX4) (T := TX4) (N := 25) hx hb hts hin4 hown hK hP 0 rfl rfl 22 (by decide) f60 (fun _ h9 => h9) rfl dX4_findOn_107 ?_
      refine lv_iload_n hx hb dX4_findOn_110 rfl (lv_at hl 2 rfl) ?_
      refine lv_iconst (v := (-1 : Int32)) hx hb dX4_findOn_111 (by decide) ?_
      obtain ⟨hv, hw⟩ := hw
      refine va_iast hx hb hK hP hD hS 15 0 rfl rfl hv dX4_findOn_112 (fun H locs hP hD hS => ?_)
      have hP : va_P D vwCl (wR cI cZ q (nI n) se li wm ch ne np al wo kn sp py il fl wa bo so sd ro cp nr ti on_ (upd he_ x3.toNatClampNeg (-1 : Int32)) la) H := hP
      have hD : va_D A (wR cI cZ q (nI n) se li wm ch ne np al wo kn sp py il fl wa bo so sd ro cp nr ti on_ (upd he_ x3.toNatClampNeg (-1 : Int32)) la) := hD
      refine lv_iload_n hx hb dX4_findOn_113 rfl (lv_at hl 1 rfl) ?_
      refine lv_iconst (v := (-1 : Int32)) hx hb dX4_findOn_114 (by decide) ?_
      refine lv_icmp_eq (tgt := 244) hx hb dX4_findOn_115 (by decide) (fun hc => ?_) (fun hc => ?_)
      · replace hw := hw.1 hc
        exact J244 _ _ _ _ hw _ _ _ (lv_sub hl [0, 1, 2] rfl) hP hD hS
      · replace hw := hw.2 hc
        refine lv_iload_n hx hb dX4_findOn_118 rfl (lv_at hl 2 rfl) ?_
        refine lv_iload_n hx hb dX4_findOn_119 rfl (lv_at hl 1 rfl) ?_
        refine lv_icmp_eq (tgt := 244) hx hb dX4_findOn_120 (by decide) (fun hc => ?_) (fun hc => ?_)
        · replace hw := hw.1 hc
          exact J244 _ _ _ _ hw _ _ _ (lv_sub hl [0, 1, 2] rfl) hP hD hS
        · replace hw := hw.2 hc
          refine lv_aload_n hx hb dX4_findOn_123 rfl (lv_at hl 0 rfl) ?_
          refine va_get (D := D) (ci := 4) (v := .ref (q 14)) (C := RX4) (T := TX4) (N := 25) hx hb hts hin4 hown hK hP 0 rfl rfl 21 (by decide) f57 (fun _ h9 => h9) rfl dX4_findOn_124 ?_
          refine lv_iload_n hx hb dX4_findOn_127 rfl (lv_at hl 2 rfl) ?_
          obtain ⟨hv, hw⟩ := hw
          refine va_iald hx hb hK hP 14 0 rfl rfl hv dX4_findOn_128 ?_
          refine lv_iconst (v := (-1 : Int32)) hx hb dX4_findOn_129 (by decide) ?_
          refine lv_icmp_eq (tgt := 244) hx hb dX4_findOn_130 (by decide) (fun hc => ?_) (fun hc => ?_)
          · replace hw := hw.1 hc
            exact J244 _ _ _ _ hw _ _ _ (lv_sub hl [0, 1, 2] rfl) hP hD hS
          · replace hw := hw.2 hc
            refine lv_iconst (v := (4 : Int32)) hx hb dX4_findOn_133 (by decide) ?_
            refine lv_istore (lv' := [(4, .int (4 : Int32)), (0, .ref (q 0)), (2, .int x2), (3, .int x3)]) hx hb dX4_findOn_134 hl (by decide) rfl (fun ls hl => ?_)
            exact k136e _ _ _ _ _ hw _ _ _ (lv_sub hl [1, 2, 3, 0] rfl) hP hD hS
  have J203 : ∀ x2 x3 x4 s0 s1 on_ he_, v_X4_findOn_203 n se li wm ch ne np al wo kn sp py il fl wa bo so sd ro cp nr ti la (fun u => u = (chO n bo ti on n, heF n kn (chO n bo ti on n) (so a1.toNatClampNeg) he 5)) K2 K16 K101 K136 x2 x3 x4 s0 s1 on_ he_ → ∀ (H : Heap) (locs : List Loc) (ls : Array Slot), lv_has ls 5 [(0, .ref (q 0)), (2, .int x2), (3, .int x3), (4, .int x4)] → va_P D vwCl (wR cI cZ q (nI n) se li wm ch ne np al wo kn sp py il fl wa bo so sd ro cp nr ti on_ he_ la) H → va_D A (wR cI cZ q (nI n) se li wm ch ne np al wo kn sp py il fl wa bo so sd ro cp nr ti on_ he_ la) → va_S A s.heap H locs → W p l e (headSpec wsX4_findOn ({ frames := 6, cells := 0, slots := 0, locals := 240 })).room s m args below meth c H locs 0 0 Q (F0 m 203 ls [.int s0, .int s1, .ref (q 15)]) := by
    intro x2 x3 x4 s0 s1 on_ he_ hw
    intro H locs ls hl hP hD hS
    unfold v_X4_findOn_203 at hw
    obtain ⟨hv, hw⟩ := hw
    refine va_iast hx hb hK hP hD hS 15 0 rfl rfl hv dX4_findOn_203 (fun H locs hP hD hS => ?_)
    have hP : va_P D vwCl (wR cI cZ q (nI n) se li wm ch ne np al wo kn sp py il fl wa bo so sd ro cp nr ti on_ (upd he_ s1.toNatClampNeg s0) la) H := hP
    have hD : va_D A (wR cI cZ q (nI n) se li wm ch ne np al wo kn sp py il fl wa bo so sd ro cp nr ti on_ (upd he_ s1.toNatClampNeg s0) la) := hD
    refine lv_iinc (v := x4 + (-1)) (lv' := [(4, .int (x4 + (-1))), (0, .ref (q 0)), (2, .int x2), (3, .int x3)]) hx hb dX4_findOn_204 hl (k := 3) rfl rfl (by decide) rfl (fun ls hl => ?_)
    refine lv_goto (tgt := 136) hx hb dX4_findOn_207 (by decide) ?_
    exact k136e _ _ _ _ _ hw _ _ _ (lv_sub hl [1, 2, 3, 0] rfl) hP hD hS
  have J197 : ∀ x2 x3 x4 s0 on_ he_, v_X4_findOn_197 n se li wm ch ne np al wo kn sp py il fl wa bo so sd ro cp nr ti la (fun u => u = (chO n bo ti on n, heF n kn (chO n bo ti on n) (so a1.toNatClampNeg) he 5)) K2 K16 K101 K136 x2 x3 x4 s0 on_ he_ → ∀ (H : Heap) (locs : List Loc) (ls : Array Slot), lv_has ls 5 [(0, .ref (q 0)), (2, .int x2), (3, .int x3), (4, .int x4)] → va_P D vwCl (wR cI cZ q (nI n) se li wm ch ne np al wo kn sp py il fl wa bo so sd ro cp nr ti on_ he_ la) H → va_D A (wR cI cZ q (nI n) se li wm ch ne np al wo kn sp py il fl wa bo so sd ro cp nr ti on_ he_ la) → va_S A s.heap H locs → W p l e (headSpec wsX4_findOn ({ frames := 6, cells := 0, slots := 0, locals := 240 })).room s m args below meth c H locs 0 0 Q (F0 m 197 ls [.int s0, .ref (q 15)]) := by
    intro x2 x3 x4 s0 on_ he_ hw
    intro H locs ls hl hP hD hS
    unfold v_X4_findOn_197 at hw
    refine lv_aload_n hx hb dX4_findOn_197 rfl (lv_at hl 0 rfl) ?_
    refine va_get (D := D) (ci := 4) (v := .ref (q 15)) (C := RX4) (T := TX4) (N := 25) hx hb hts hin4 hown hK hP 0 rfl rfl 22 (by decide) f60 (fun _ h9 => h9) rfl dX4_findOn_198 ?_
    refine lv_iload_n hx hb dX4_findOn_201 rfl (lv_at hl 2 rfl) ?_
    obtain ⟨hv, hw⟩ := hw
    refine va_iald hx hb hK hP 15 0 rfl rfl hv dX4_findOn_202 ?_
    exact J203 _ _ _ _ _ _ _ hw _ _ _ (lv_sub hl [0, 1, 2, 3] rfl) hP hD hS
  have J243 : ∀ x2 x3 s0 s1 on_ he_, v_X4_findOn_243 n se li wm ch ne np al wo kn sp py il fl wa bo so sd ro cp nr ti la (fun u => u = (chO n bo ti on n, heF n kn (chO n bo ti on n) (so a1.toNatClampNeg) he 5)) K2 K16 K101 K136 x2 x3 s0 s1 on_ he_ → ∀ (H : Heap) (locs : List Loc) (ls : Array Slot), lv_has ls 5 [(0, .ref (q 0)), (2, .int x2), (3, .int x3)] → va_P D vwCl (wR cI cZ q (nI n) se li wm ch ne np al wo kn sp py il fl wa bo so sd ro cp nr ti on_ he_ la) H → va_D A (wR cI cZ q (nI n) se li wm ch ne np al wo kn sp py il fl wa bo so sd ro cp nr ti on_ he_ la) → va_S A s.heap H locs → W p l e (headSpec wsX4_findOn ({ frames := 6, cells := 0, slots := 0, locals := 240 })).room s m args below meth c H locs 0 0 Q (F0 m 243 ls [.int s0, .int s1, .ref (q 15)]) := by
    intro x2 x3 s0 s1 on_ he_ hw
    intro H locs ls hl hP hD hS
    unfold v_X4_findOn_243 at hw
    obtain ⟨hv, hw⟩ := hw
    refine va_iast hx hb hK hP hD hS 15 0 rfl rfl hv dX4_findOn_243 (fun H locs hP hD hS => ?_)
    have hP : va_P D vwCl (wR cI cZ q (nI n) se li wm ch ne np al wo kn sp py il fl wa bo so sd ro cp nr ti on_ (upd he_ s1.toNatClampNeg s0) la) H := hP
    have hD : va_D A (wR cI cZ q (nI n) se li wm ch ne np al wo kn sp py il fl wa bo so sd ro cp nr ti on_ (upd he_ s1.toNatClampNeg s0) la) := hD
    exact J244 _ _ _ _ hw _ _ _ (lv_sub hl [0, 1, 2] rfl) hP hD hS
  have R136 : ∀ x2 x3 x4 on_ he_, v_X4_findOn_136 n se li wm ch ne np al wo kn sp py il fl wa bo so sd ro cp nr ti la (fun u => u = (chO n bo ti on n, heF n kn (chO n bo ti on n) (so a1.toNatClampNeg) he 5)) K2 K16 K101 K136 x2 x3 x4 on_ he_ → K136 x2 x3 x4 on_ he_ := by
    intro x2 x3 x4 on_ he_ hw
    refine k136i _ _ _ _ _ ?_
    intro H locs ls hl hP hD hS
    unfold v_X4_findOn_136 at hw
    refine lv_iload hx hb dX4_findOn_136 (lv_at hl 3 rfl) ?_
    refine lv_if_lt (tgt := 210) hx hb dX4_findOn_138 (by decide) (fun hc => ?_) (fun hc => ?_)
    · replace hw := hw.1 hc
      refine lv_aload_n hx hb dX4_findOn_210 rfl (lv_at hl 0 rfl) ?_
      refine va_get (D := D) (ci := 4) (v := .ref (q 15)) (C := RX4) (T := TX4) (N := 25) hx hb hts hin4 hown hK hP 0 rfl rfl 22 (by decide) f60 (fun _ h9 => h9) rfl dX4_findOn_211 ?_
      refine lv_iload_n hx hb dX4_findOn_214 rfl (lv_at hl 2 rfl) ?_
      refine lv_aload_n hx hb dX4_findOn_215 rfl (lv_at hl 0 rfl) ?_
      refine va_get (D := D) (ci := 4) (v := .ref (q 1)) (C := RX4) (T := TX4) (N := 25) hx hb hts hin4 hown hK hP 0 rfl rfl 1 (by decide) f7 (fun _ h9 => h9) rfl dX4_findOn_216 ?_
      refine lv_aload_n hx hb dX4_findOn_219 rfl (lv_at hl 0 rfl) ?_
      refine va_get (D := D) (ci := 4) (v := .ref (q 14)) (C := RX4) (T := TX4) (N := 25) hx hb hts hin4 hown hK hP 0 rfl rfl 21 (by decide) f57 (fun _ h9 => h9) rfl dX4_findOn_220 ?_
      refine lv_iload_n hx hb dX4_findOn_223 rfl (lv_at hl 2 rfl) ?_
      obtain ⟨hv, hw⟩ := hw
      refine va_iald hx hb hK hP 14 0 rfl rfl hv dX4_findOn_224 ?_
      obtain ⟨hv, hw⟩ := hw
      refine va_iald hx hb hK hP 1 0 rfl rfl hv dX4_findOn_225 ?_
      refine lv_iload_n hx hb dX4_findOn_226 rfl (lv_at hl 1 rfl) ?_
      refine zc_i0 (va_runS (As := [.int (kn (on_ x3.toNatClampNeg).toNatClampNeg), .int x2]) (rest := [.int x3, .ref (q 15)]) ⟨hx, hb, hml, hown, hts⟩ ((c_X4_has l D cI cZ (kn (on_ x3.toNatClampNeg).toNatClampNeg) x2  ) H.size) (va_cwS 2 hts gX4_findOn_X4_has rfl rfl rfl (by decide +kernel) ⟨Nat.le_of_ble_eq_true rfl, Nat.le_of_ble_eq_true rfl⟩) (ps_of hK hN hP hD [] rfl rfl) rfl rfl hl.1 rfl (lv_room (Nat.le_of_ble_eq_true rfl)) dX4_findOn_227 ⟨Nat.zero_le _, Nat.zero_le _⟩) hP hD hS hA (fun r u H locs hu hP hD hS => ?_)
      subst hu
      refine lv_if_eq (tgt := 237) hx hb dX4_findOn_230 (by decide) (fun hc => ?_) (fun hc => ?_)
      · replace hw := hw.1 hc
        refine lv_aload_n hx hb dX4_findOn_237 rfl (lv_at hl 0 rfl) ?_
        refine va_get (D := D) (ci := 4) (v := .ref (q 15)) (C := RX4) (T := TX4) (N := 25) hx hb hts hin4 hown hK hP 0 rfl rfl 22 (by decide) f60 (fun _ h9 => h9) rfl dX4_findOn_238 ?_
        refine lv_iload_n hx hb dX4_findOn_241 rfl (lv_at hl 2 rfl) ?_
        obtain ⟨hv, hw⟩ := hw
        refine va_iald hx hb hK hP 15 0 rfl rfl hv dX4_findOn_242 ?_
        exact J243 _ _ _ _ _ _ hw _ _ _ (lv_sub hl [0, 1, 2] rfl) hP hD hS
      · replace hw := hw.2 hc
        refine lv_iload_n hx hb dX4_findOn_233 rfl (lv_at hl 2 rfl) ?_
        refine lv_goto (tgt := 243) hx hb dX4_findOn_234 (by decide) ?_
        exact J243 _ _ _ _ _ _ hw _ _ _ (lv_sub hl [0, 1, 2] rfl) hP hD hS
    · replace hw := hw.2 hc
      refine lv_aload_n hx hb dX4_findOn_141 rfl (lv_at hl 0 rfl) ?_
      refine va_get (D := D) (ci := 4) (v := .ref (q 15)) (C := RX4) (T := TX4) (N := 25) hx hb hts hin4 hown hK hP 0 rfl rfl 22 (by decide) f60 (fun _ h9 => h9) rfl dX4_findOn_142 ?_
      refine lv_iload_n hx hb dX4_findOn_145 rfl (lv_at hl 2 rfl) ?_
      refine lv_iload hx hb dX4_findOn_146 (lv_at hl 3 rfl) ?_
      refine lv_iload_n hx hb dX4_findOn_148 rfl (lv_at hl 1 rfl) ?_
      refine lv_icmp_eq (tgt := 197) hx hb dX4_findOn_149 (by decide) (fun hc => ?_) (fun hc => ?_)
      · replace hw := hw.1 hc
        exact J197 _ _ _ _ _ _ hw _ _ _ (lv_sub hl [0, 1, 2, 3] rfl) hP hD hS
      · replace hw := hw.2 hc
        refine lv_iload hx hb dX4_findOn_152 (lv_at hl 3 rfl) ?_
        refine lv_iload_n hx hb dX4_findOn_154 rfl (lv_at hl 2 rfl) ?_
        refine lv_icmp_eq (tgt := 197) hx hb dX4_findOn_155 (by decide) (fun hc => ?_) (fun hc => ?_)
        · replace hw := hw.1 hc
          exact J197 _ _ _ _ _ _ hw _ _ _ (lv_sub hl [0, 1, 2, 3] rfl) hP hD hS
        · replace hw := hw.2 hc
          refine lv_aload_n hx hb dX4_findOn_158 rfl (lv_at hl 0 rfl) ?_
          refine lv_aload_n hx hb dX4_findOn_159 rfl (lv_at hl 0 rfl) ?_
          refine va_get (D := D) (ci := 4) (v := .ref (q 14)) (C := RX4) (T := TX4) (N := 25) hx hb hts hin4 hown hK hP 0 rfl rfl 21 (by decide) f57 (fun _ h9 => h9) rfl dX4_findOn_160 ?_
          refine lv_iload hx hb dX4_findOn_163 (lv_at hl 3 rfl) ?_
          obtain ⟨hv, hw⟩ := hw
          refine va_iald hx hb hK hP 14 0 rfl rfl hv dX4_findOn_165 ?_
          refine lv_iload_n hx hb dX4_findOn_166 rfl (lv_at hl 1 rfl) ?_
          obtain ⟨hp0, hw⟩ := hw
          refine zc_i (fun u => (wR cI cZ q (nI n) se li wm ch ne np al wo kn sp py il fl wa bo so sd ro cp nr ti on_ he_ la)) [0, 1, 2, 3, 4, 5, 6, 7, 8, 9, 10, 11, 12, 13, 14, 15, 16] [] [0, 1, 2, 3, 4, 5, 6, 7, 8, 9, 10, 11, 12, 13, 14, 15, 16] (va_runV (As := [.int (on_ x4.toNatClampNeg), .int x2]) (rest := [.int x3, .ref (q 15)]) ⟨hx, hb, hml, hown, hts⟩ ((c_X4_knowsIt l D cI cZ q n se li wm ch ne np al wo kn sp py il fl wa bo so sd ro cp nr ti on_ he_ la (on_ x4.toNatClampNeg) x2 hn hp0) H.size) (cwV 2 hts gX4_findOn_X4_knowsIt rfl rfl rfl (by decide +kernel) ⟨Nat.le_of_ble_eq_true rfl, Nat.le_of_ble_eq_true rfl⟩) (pv_of hK hN hP hD [0, 1, 2, 3, 4, 5, 6, 7, 8, 9, 10, 11, 12, 13, 14, 15, 16] rfl rfl 4 0 rfl rfl) rfl rfl hl.1 rfl (lv_room (Nat.le_of_ble_eq_true rfl)) dX4_findOn_167 ⟨Nat.zero_le _, Nat.zero_le _⟩) hP hD hS hA rfl rfl rfl (by decide) (fun _ => rfl) rfl (fun r u H locs hu hP hD hS => ?_)
          subst hu
          have hP : va_P D vwCl (wR cI cZ q (nI n) se li wm ch ne np al wo kn sp py il fl wa bo so sd ro cp nr ti on_ he_ la) H := hP
          have hD : va_D A (wR cI cZ q (nI n) se li wm ch ne np al wo kn sp py il fl wa bo so sd ro cp nr ti on_ he_ la) := hD
          refine lv_if_eq (tgt := 197) hx hb dX4_findOn_170 (by decide) (fun hc => ?_) (fun hc => ?_)
          · replace hw := hw.1 hc
            exact J197 _ _ _ _ _ _ hw _ _ _ (lv_sub hl [0, 1, 2, 3] rfl) hP hD hS
          · replace hw := hw.2 hc
            refine lv_aload_n hx hb dX4_findOn_173 rfl (lv_at hl 0 rfl) ?_
            refine va_get (D := D) (ci := 4) (v := .ref (q 1)) (C := RX4) (T := TX4) (N := 25) hx hb hts hin4 hown hK hP 0 rfl rfl 1 (by decide) f7 (fun _ h9 => h9) rfl dX4_findOn_174 ?_
            refine lv_aload_n hx hb dX4_findOn_177 rfl (lv_at hl 0 rfl) ?_
            refine va_get (D := D) (ci := 4) (v := .ref (q 14)) (C := RX4) (T := TX4) (N := 25) hx hb hts hin4 hown hK hP 0 rfl rfl 21 (by decide) f57 (fun _ h9 => h9) rfl dX4_findOn_178 ?_
            refine lv_iload_n hx hb dX4_findOn_181 rfl (lv_at hl 2 rfl) ?_
            obtain ⟨hv, hw⟩ := hw
            refine va_iald hx hb hK hP 14 0 rfl rfl hv dX4_findOn_182 ?_
            obtain ⟨hv, hw⟩ := hw
            refine va_iald hx hb hK hP 1 0 rfl rfl hv dX4_findOn_183 ?_
            refine lv_iload hx hb dX4_findOn_184 (lv_at hl 3 rfl) ?_
            refine zc_i0 (va_runS (As := [.int (kn (on_ x3.toNatClampNeg).toNatClampNeg), .int x4]) (rest := [.int x3, .ref (q 15)]) ⟨hx, hb, hml, hown, hts⟩ ((c_X4_has l D cI cZ (kn (on_ x3.toNatClampNeg).toNatClampNeg) x4  ) H.size) (va_cwS 2 hts gX4_findOn_X4_has rfl rfl rfl (by decide +kernel) ⟨Nat.le_of_ble_eq_true rfl, Nat.le_of_ble_eq_true rfl⟩) (ps_of hK hN hP hD [] rfl rfl) rfl rfl hl.1 rfl (lv_room (Nat.le_of_ble_eq_true rfl)) dX4_findOn_186 ⟨Nat.zero_le _, Nat.zero_le _⟩) hP hD hS hA (fun r u H locs hu hP hD hS => ?_)
            subst hu
            refine lv_if_eq (tgt := 197) hx hb dX4_findOn_189 (by decide) (fun hc => ?_) (fun hc => ?_)
            · replace hw := hw.1 hc
              exact J197 _ _ _ _ _ _ hw _ _ _ (lv_sub hl [0, 1, 2, 3] rfl) hP hD hS
            · replace hw := hw.2 hc
              refine lv_iload hx hb dX4_findOn_192 (lv_at hl 3 rfl) ?_
              refine lv_goto (tgt := 203) hx hb dX4_findOn_194 (by decide) ?_
              exact J203 _ _ _ _ _ _ _ hw _ _ _ (lv_sub hl [0, 1, 2, 3] rfl) hP hD hS
  have hw := h_X4_findOn n se li wm ch ne np al wo kn sp py il fl wa bo so sd ro cp nr ti la on he a1 hn h0 K2 K16 K101 K136 R2 R16 R101 R136
  unfold v_X4_findOn_0 at hw
  refine lv_iconst (v := (0 : Int32)) hx hb dX4_findOn_0 (by decide) ?_
  refine lv_istore_n (lv' := [(2, .int (0 : Int32)), (0, .ref (q 0)), (1, .int a1)]) hx hb dX4_findOn_1 rfl hl (by decide) rfl (fun ls hl => ?_)
  exact k2e _ _ _ _ hw _ _ _ (lv_sub hl [1, 2, 0] rfl) hP hD hS
set_option maxHeartbeats 4000000 in
set_option maxRecDepth 100000 in
theorem c_X4_goTo (l : Launch) (D : va_G) (cI cZ : ClassId) (q : Nat → Nat) (n : Nat) (se : Int32) (li : Int32) (wm : Int32) (ch : Int32) (ne : Int32) (np : Int32) (al : Int32) (wo : Int32) (kn : Nat → Int32) (sp : Nat → Int32) (py : Nat → Int32) (il : Nat → Int32) (fl : Nat → Int32) (wa : Nat → Int32) (bo : Nat → Int32) (so : Nat → Int32) (sd : Nat → Int32) (ro : Nat → Int32) (cp : Nat → Int32) (nr : Nat → Int32) (ti : Nat → Int32) (on : Nat → Int32) (he : Nat → Int32) (la : Nat → Int32) (a1 : Int32) (hn : n ≤ 6) (h0 : inB a1 16 = true) (h1 : ∀ h, h < 16 → inR (sd h) 0 9 = true) : MV l yX4_goTo wsX4_goTo ({ frames := 8, cells := 0, slots := 0, locals := 320 }) D cI cZ [.ref (q 0), .int a1] (wR cI cZ q (nI n) se li wm ch ne np al wo kn sp py il fl wa bo so sd ro cp nr ti on he la) (fun u : Int32 × (Nat → Int32) × (Nat → Int32) × (Nat → Int32) × (Nat → Int32) => (wR cI cZ q (nI n) se li wm ch ne np al u.1 kn sp py il fl wa bo so sd ro cp nr u.2.1 u.2.2.1 u.2.2.2.1 u.2.2.2.2)) (fun u => u = gtF n kn bo so sd li (ti, on, he) la (a1.toNatClampNeg + 1)) := by
  refine MV_of (cc := cX4_goTo) (maxL := 6) (by decide) rfl (Nat.le_of_ble_eq_true rfl) (fun p e s m args below meth c A Q hx hb hml hown hts hK hN hA hret H locs ls hl hP hD hS => ?_)
  have hown : s.vm.findClass RX4 = some m.cls := hown
  have hl : lv_has ls 6 [(0, .ref (q 0)), (1, .int a1)] := hl
  have hin4 : ∀ w ∈ u_ws RX4 TX4 25, w ∈ wsX4_goTo := fun w h => List.mem_cons_of_mem _ (List.mem_append_right _ h)
  have f125 : (Cond.fieldLink RX4 125 "GlassBoothsModel" "worn" "I").before args s = true := hts _ (by decide +kernel)
  have f54 : (Cond.fieldLink RX4 54 "GlassBoothsModel" "tired" "[I").before args s = true := hts _ (by decide +kernel)
  have f63 : (Cond.fieldLink RX4 63 "GlassBoothsModel" "lateOf" "[I").before args s = true := hts _ (by decide +kernel)
  have f66 : (Cond.fieldLink RX4 66 "GlassBoothsModel" "people" "I").before args s = true := hts _ (by decide +kernel)
  have f39 : (Cond.fieldLink RX4 39 "GlassBoothsModel" "speed" "[I").before args s = true := hts _ (by decide +kernel)
  have f57 : (Cond.fieldLink RX4 57 "GlassBoothsModel" "on" "[I").before args s = true := hts _ (by decide +kernel)
  have f60 : (Cond.fieldLink RX4 60 "GlassBoothsModel" "heard" "[I").before args s = true := hts _ (by decide +kernel)
  have f42 : (Cond.fieldLink RX4 42 "GlassBoothsModel" "limit" "I").before args s = true := hts _ (by decide +kernel)
  obtain ⟨K7, k7i, k7e⟩ := ex_K7 (fun (x1 : Int32) (x2 : Int32) (wo_ : Int32) (ti_ : Nat → Int32) (on_ : Nat → Int32) (he_ : Nat → Int32) (la_ : Nat → Int32) => ∀ (H : Heap) (locs : List Loc) (ls : Array Slot), lv_has ls 6 [(0, .ref (q 0)), (1, .int x1), (2, .int x2)] → va_P D vwCl (wR cI cZ q (nI n) se li wm ch ne np al wo_ kn sp py il fl wa bo so sd ro cp nr ti_ on_ he_ la_) H → va_D A (wR cI cZ q (nI n) se li wm ch ne np al wo_ kn sp py il fl wa bo so sd ro cp nr ti_ on_ he_ la_) → va_S A s.heap H locs → W p l e (headSpec wsX4_goTo ({ frames := 8, cells := 0, slots := 0, locals := 320 })).room s m args below meth c H locs 0 0 Q (F0 m 7 ls []))
  obtain ⟨K28, k28i, k28e⟩ := ex_K7 (fun (x1 : Int32) (x2 : Int32) (wo_ : Int32) (ti_ : Nat → Int32) (on_ : Nat → Int32) (he_ : Nat → Int32) (la_ : Nat → Int32) => ∀ (H : Heap) (locs : List Loc) (ls : Array Slot), lv_has ls 6 [(0, .ref (q 0)), (1, .int x1), (2, .int x2)] → va_P D vwCl (wR cI cZ q (nI n) se li wm ch ne np al wo_ kn sp py il fl wa bo so sd ro cp nr ti_ on_ he_ la_) H → va_D A (wR cI cZ q (nI n) se li wm ch ne np al wo_ kn sp py il fl wa bo so sd ro cp nr ti_ on_ he_ la_) → va_S A s.heap H locs → W p l e (headSpec wsX4_goTo ({ frames := 8, cells := 0, slots := 0, locals := 320 })).room s m args below meth c H locs 0 0 Q (F0 m 28 ls []))
  obtain ⟨K48, k48i, k48e⟩ := ex_K7 (fun (x1 : Int32) (x2 : Int32) (wo_ : Int32) (ti_ : Nat → Int32) (on_ : Nat → Int32) (he_ : Nat → Int32) (la_ : Nat → Int32) => ∀ (H : Heap) (locs : List Loc) (ls : Array Slot), lv_has ls 6 [(0, .ref (q 0)), (1, .int x1), (2, .int x2)] → va_P D vwCl (wR cI cZ q (nI n) se li wm ch ne np al wo_ kn sp py il fl wa bo so sd ro cp nr ti_ on_ he_ la_) H → va_D A (wR cI cZ q (nI n) se li wm ch ne np al wo_ kn sp py il fl wa bo so sd ro cp nr ti_ on_ he_ la_) → va_S A s.heap H locs → W p l e (headSpec wsX4_goTo ({ frames := 8, cells := 0, slots := 0, locals := 320 })).room s m args below meth c H locs 0 0 Q (F0 m 48 ls []))
  obtain ⟨K60, k60i, k60e⟩ := ex_K8 (fun (x1 : Int32) (x2 : Int32) (x3 : Int32) (wo_ : Int32) (ti_ : Nat → Int32) (on_ : Nat → Int32) (he_ : Nat → Int32) (la_ : Nat → Int32) => ∀ (H : Heap) (locs : List Loc) (ls : Array Slot), lv_has ls 6 [(0, .ref (q 0)), (1, .int x1), (2, .int x2), (3, .int x3)] → va_P D vwCl (wR cI cZ q (nI n) se li wm ch ne np al wo_ kn sp py il fl wa bo so sd ro cp nr ti_ on_ he_ la_) H → va_D A (wR cI cZ q (nI n) se li wm ch ne np al wo_ kn sp py il fl wa bo so sd ro cp nr ti_ on_ he_ la_) → va_S A s.heap H locs → W p l e (headSpec wsX4_goTo ({ frames := 8, cells := 0, slots := 0, locals := 320 })).room s m args below meth c H locs 0 0 Q (F0 m 60 ls []))
  obtain ⟨K74, k74i, k74e⟩ := ex_K10 (fun (x1 : Int32) (x2 : Int32) (x3 : Int32) (x4 : Int32) (x5 : Int32) (wo_ : Int32) (ti_ : Nat → Int32) (on_ : Nat → Int32) (he_ : Nat → Int32) (la_ : Nat → Int32) => ∀ (H : Heap) (locs : List Loc) (ls : Array Slot), lv_has ls 6 [(0, .ref (q 0)), (1, .int x1), (2, .int x2), (3, .int x3), (4, .int x4), (5, .int x5)] → va_P D vwCl (wR cI cZ q (nI n) se li wm ch ne np al wo_ kn sp py il fl wa bo so sd ro cp nr ti_ on_ he_ la_) H → va_D A (wR cI cZ q (nI n) se li wm ch ne np al wo_ kn sp py il fl wa bo so sd ro cp nr ti_ on_ he_ la_) → va_S A s.heap H locs → W p l e (headSpec wsX4_goTo ({ frames := 8, cells := 0, slots := 0, locals := 320 })).room s m args below meth c H locs 0 0 Q (F0 m 74 ls []))
  obtain ⟨K206, k206i, k206e⟩ := ex_K8 (fun (x1 : Int32) (x2 : Int32) (x3 : Int32) (wo_ : Int32) (ti_ : Nat → Int32) (on_ : Nat → Int32) (he_ : Nat → Int32) (la_ : Nat → Int32) => ∀ (H : Heap) (locs : List Loc) (ls : Array Slot), lv_has ls 6 [(0, .ref (q 0)), (1, .int x1), (2, .int x2), (3, .int x3)] → va_P D vwCl (wR cI cZ q (nI n) se li wm ch ne np al wo_ kn sp py il fl wa bo so sd ro cp nr ti_ on_ he_ la_) H → va_D A (wR cI cZ q (nI n) se li wm ch ne np al wo_ kn sp py il fl wa bo so sd ro cp nr ti_ on_ he_ la_) → va_S A s.heap H locs → W p l e (headSpec wsX4_goTo ({ frames := 8, cells := 0, slots := 0, locals := 320 })).room s m args below meth c H locs 0 0 Q (F0 m 206 ls []))
  have R7 : ∀ x1 x2 wo_ ti_ on_ he_ la_, v_X4_goTo_7 n se li wm ch ne np al kn sp py il fl wa bo so sd ro cp nr (fun u => u = gtF n kn bo so sd li (ti, on, he) la (a1.toNatClampNeg + 1)) K7 K28 K48 K60 K74 K206 x1 x2 wo_ ti_ on_ he_ la_ → K7 x1 x2 wo_ ti_ on_ he_ la_ := by
    intro x1 x2 wo_ ti_ on_ he_ la_ hw
    refine k7i _ _ _ _ _ _ _ ?_
    intro H locs ls hl hP hD hS
    unfold v_X4_goTo_7 at hw
    refine lv_iload_n hx hb dX4_goTo_7 rfl (lv_at hl 2 rfl) ?_
    refine lv_bipush (v := (6 : Int32)) hx hb dX4_goTo_8 (by decide) ?_
    refine lv_icmp_ge (tgt := 26) hx hb dX4_goTo_10 (by decide) (fun hc => ?_) (fun hc => ?_)
    · replace hw := hw.1 hc
      refine lv_iconst (v := (0 : Int32)) hx hb dX4_goTo_26 (by decide) ?_
      refine lv_istore_n (lv' := [(2, .int (0 : Int32)), (0, .ref (q 0)), (1, .int x1)]) hx hb dX4_goTo_27 rfl hl (by decide) rfl (fun ls hl => ?_)
      exact k28e _ _ _ _ _ _ _ hw _ _ _ (lv_sub hl [1, 2, 0] rfl) hP hD hS
    · replace hw := hw.2 hc
      refine lv_aload_n hx hb dX4_goTo_13 rfl (lv_at hl 0 rfl) ?_
      refine va_get (D := D) (ci := 4) (v := .ref (q 13)) (C := RX4) (T := TX4) (N := 25) hx hb hts hin4 hown hK hP 0 rfl rfl 20 (by decide) f54 (fun _ h9 => h9) rfl dX4_goTo_14 ?_
      refine lv_iload_n hx hb dX4_goTo_17 rfl (lv_at hl 2 rfl) ?_
      refine lv_iconst (v := (0 : Int32)) hx hb dX4_goTo_18 (by decide) ?_
      obtain ⟨hv, hw⟩ := hw
      refine va_iast hx hb hK hP hD hS 13 0 rfl rfl hv dX4_goTo_19 (fun H locs hP hD hS => ?_)
      have hP : va_P D vwCl (wR cI cZ q (nI n) se li wm ch ne np al wo_ kn sp py il fl wa bo so sd ro cp nr (upd ti_ x2.toNatClampNeg (0 : Int32)) on_ he_ la_) H := hP
      have hD : va_D A (wR cI cZ q (nI n) se li wm ch ne np al wo_ kn sp py il fl wa bo so sd ro cp nr (upd ti_ x2.toNatClampNeg (0 : Int32)) on_ he_ la_) := hD
      refine lv_iinc (v := x2 + 1) (lv' := [(2, .int (x2 + 1)), (0, .ref (q 0)), (1, .int x1)]) hx hb dX4_goTo_20 hl (k := 2) rfl rfl (by decide) rfl (fun ls hl => ?_)
      refine lv_goto (tgt := 7) hx hb dX4_goTo_23 (by decide) ?_
      exact k7e _ _ _ _ _ _ _ hw _ _ _ (lv_sub hl [1, 2, 0] rfl) hP hD hS
  have R28 : ∀ x1 x2 wo_ ti_ on_ he_ la_, v_X4_goTo_28 n se li wm ch ne np al kn sp py il fl wa bo so sd ro cp nr (fun u => u = gtF n kn bo so sd li (ti, on, he) la (a1.toNatClampNeg + 1)) K7 K28 K48 K60 K74 K206 x1 x2 wo_ ti_ on_ he_ la_ → K28 x1 x2 wo_ ti_ on_ he_ la_ := by
    intro x1 x2 wo_ ti_ on_ he_ la_ hw
    refine k28i _ _ _ _ _ _ _ ?_
    intro H locs ls hl hP hD hS
    unfold v_X4_goTo_28 at hw
    refine lv_iload_n hx hb dX4_goTo_28 rfl (lv_at hl 2 rfl) ?_
    refine lv_iconst (v := (5 : Int32)) hx hb dX4_goTo_29 (by decide) ?_
    refine lv_icmp_ge (tgt := 46) hx hb dX4_goTo_30 (by decide) (fun hc => ?_) (fun hc => ?_)
    · replace hw := hw.1 hc
      refine lv_iconst (v := (0 : Int32)) hx hb dX4_goTo_46 (by decide) ?_
      refine lv_istore_n (lv' := [(2, .int (0 : Int32)), (0, .ref (q 0)), (1, .int x1)]) hx hb dX4_goTo_47 rfl hl (by decide) rfl (fun ls hl => ?_)
      exact k48e _ _ _ _ _ _ _ hw _ _ _ (lv_sub hl [1, 2, 0] rfl) hP hD hS
    · replace hw := hw.2 hc
      refine lv_aload_n hx hb dX4_goTo_33 rfl (lv_at hl 0 rfl) ?_
      refine va_get (D := D) (ci := 4) (v := .ref (q 16)) (C := RX4) (T := TX4) (N := 25) hx hb hts hin4 hown hK hP 0 rfl rfl 24 (by decide) f63 (fun _ h9 => h9) rfl dX4_goTo_34 ?_
      refine lv_iload_n hx hb dX4_goTo_37 rfl (lv_at hl 2 rfl) ?_
      refine lv_iconst (v := (0 : Int32)) hx hb dX4_goTo_38 (by decide) ?_
      obtain ⟨hv, hw⟩ := hw
      refine va_iast hx hb hK hP hD hS 16 0 rfl rfl hv dX4_goTo_39 (fun H locs hP hD hS => ?_)
      have hP : va_P D vwCl (wR cI cZ q (nI n) se li wm ch ne np al wo_ kn sp py il fl wa bo so sd ro cp nr ti_ on_ he_ (upd la_ x2.toNatClampNeg (0 : Int32))) H := hP
      have hD : va_D A (wR cI cZ q (nI n) se li wm ch ne np al wo_ kn sp py il fl wa bo so sd ro cp nr ti_ on_ he_ (upd la_ x2.toNatClampNeg (0 : Int32))) := hD
      refine lv_iinc (v := x2 + 1) (lv' := [(2, .int (x2 + 1)), (0, .ref (q 0)), (1, .int x1)]) hx hb dX4_goTo_40 hl (k := 2) rfl rfl (by decide) rfl (fun ls hl => ?_)
      refine lv_goto (tgt := 28) hx hb dX4_goTo_43 (by decide) ?_
      exact k28e _ _ _ _ _ _ _ hw _ _ _ (lv_sub hl [1, 2, 0] rfl) hP hD hS
  have R48 : ∀ x1 x2 wo_ ti_ on_ he_ la_, v_X4_goTo_48 n se li wm ch ne np al kn sp py il fl wa bo so sd ro cp nr (fun u => u = gtF n kn bo so sd li (ti, on, he) la (a1.toNatClampNeg + 1)) K7 K28 K48 K60 K74 K206 x1 x2 wo_ ti_ on_ he_ la_ → K48 x1 x2 wo_ ti_ on_ he_ la_ := by
    intro x1 x2 wo_ ti_ on_ he_ la_ hw
    refine k48i _ _ _ _ _ _ _ ?_
    intro H locs ls hl hP hD hS
    unfold v_X4_goTo_48 at hw
    refine lv_iload_n hx hb dX4_goTo_48 rfl (lv_at hl 2 rfl) ?_
    refine lv_iload_n hx hb dX4_goTo_49 rfl (lv_at hl 1 rfl) ?_
    refine lv_icmp_gt (tgt := 284) hx hb dX4_goTo_50 (by decide) (fun hc => ?_) (fun hc => ?_)
    · replace hw := hw.1 hc
      exact hret (wo_, ti_, on_, he_, la_) _ _ _ _ hw hP hD hS dX4_goTo_284
    · replace hw := hw.2 hc
      refine lv_aload_n hx hb dX4_goTo_53 rfl (lv_at hl 0 rfl) ?_
      refine lv_iload_n hx hb dX4_goTo_54 rfl (lv_at hl 2 rfl) ?_
      obtain ⟨hp0, hw⟩ := hw
      refine zc_v (fun u => (wR cI cZ q (nI n) se li wm ch ne np al wo_ kn sp py il fl wa bo so sd ro cp nr ti_ u.1 u.2 la_)) [0, 1, 2, 3, 4, 5, 6, 7, 8, 9, 10, 11, 12, 13, 14, 15, 16] [] [0, 1, 2, 3, 4, 5, 6, 7, 8, 9, 10, 11, 12, 13, 14, 15, 16] (va_runV (As := [.int x2]) (rest := []) ⟨hx, hb, hml, hown, hts⟩ ((c_X4_findOn l D cI cZ q n se li wm ch ne np al wo_ kn sp py il fl wa bo so sd ro cp nr ti_ on_ he_ la_ x2 hn hp0) H.size) (cwV 1 hts gX4_goTo_X4_findOn rfl rfl rfl (by decide +kernel) ⟨Nat.le_of_ble_eq_true rfl, Nat.le_of_ble_eq_true rfl⟩) (pv_of hK hN hP hD [0, 1, 2, 3, 4, 5, 6, 7, 8, 9, 10, 11, 12, 13, 14, 15, 16] rfl rfl 4 0 rfl rfl) rfl rfl hl.1 rfl (lv_room (Nat.le_of_ble_eq_true rfl)) dX4_goTo_55 ⟨Nat.zero_le _, Nat.zero_le _⟩) hP hD hS hA rfl rfl rfl (by decide) (fun _ => rfl) rfl (fun u H locs hu hP hD hS => ?_)
      subst hu
      have hP : va_P D vwCl (wR cI cZ q (nI n) se li wm ch ne np al wo_ kn sp py il fl wa bo so sd ro cp nr ti_ (chO n bo ti_ on_ n) (heF n kn (chO n bo ti_ on_ n) (so x2.toNatClampNeg) he_ 5) la_) H := hP
      have hD : va_D A (wR cI cZ q (nI n) se li wm ch ne np al wo_ kn sp py il fl wa bo so sd ro cp nr ti_ (chO n bo ti_ on_ n) (heF n kn (chO n bo ti_ on_ n) (so x2.toNatClampNeg) he_ 5) la_) := hD
      refine lv_iconst (v := (0 : Int32)) hx hb dX4_goTo_58 (by decide) ?_
      refine lv_istore_n (lv' := [(3, .int (0 : Int32)), (0, .ref (q 0)), (1, .int x1), (2, .int x2)]) hx hb dX4_goTo_59 rfl hl (by decide) rfl (fun ls hl => ?_)
      exact k60e _ _ _ _ _ _ _ _ hw _ _ _ (lv_sub hl [1, 2, 3, 0] rfl) hP hD hS
  have R60 : ∀ x1 x2 x3 wo_ ti_ on_ he_ la_, v_X4_goTo_60 n se li wm ch ne np al kn sp py il fl wa bo so sd ro cp nr (fun u => u = gtF n kn bo so sd li (ti, on, he) la (a1.toNatClampNeg + 1)) K7 K28 K48 K60 K74 K206 x1 x2 x3 wo_ ti_ on_ he_ la_ → K60 x1 x2 x3 wo_ ti_ on_ he_ la_ := by
    intro x1 x2 x3 wo_ ti_ on_ he_ la_ hw
    refine k60i _ _ _ _ _ _ _ _ ?_
    intro H locs ls hl hP hD hS
    unfold v_X4_goTo_60 at hw
    refine lv_iload_n hx hb dX4_goTo_60 rfl (lv_at hl 3 rfl) ?_
    refine lv_aload_n hx hb dX4_goTo_61 rfl (lv_at hl 0 rfl) ?_
    refine va_get (D := D) (ci := 4) (v := .int (nI n)) (C := RX4) (T := TX4) (N := 25) hx hb hts hin4 hown hK hP 0 rfl rfl 0 (by decide) f66 (fun _ h9 => h9) rfl dX4_goTo_62 ?_
    refine lv_icmp_ge (tgt := 204) hx hb dX4_goTo_65 (by decide) (fun hc => ?_) (fun hc => ?_)
    · replace hw := hw.1 hc
      refine lv_iconst (v := (0 : Int32)) hx hb dX4_goTo_204 (by decide) ?_
      refine lv_istore_n (lv' := [(3, .int (0 : Int32)), (0, .ref (q 0)), (1, .int x1), (2, .int x2)]) hx hb dX4_goTo_205 rfl hl (by decide) rfl (fun ls hl => ?_)
      exact k206e _ _ _ _ _ _ _ _ hw _ _ _ (lv_sub hl [1, 2, 3, 0] rfl) hP hD hS
    · replace hw := hw.2 hc
      refine lv_iconst (v := (0 : Int32)) hx hb dX4_goTo_68 (by decide) ?_
      refine lv_istore (lv' := [(4, .int (0 : Int32)), (0, .ref (q 0)), (1, .int x1), (2, .int x2), (3, .int x3)]) hx hb dX4_goTo_69 hl (by decide) rfl (fun ls hl => ?_)
      refine lv_iconst (v := (0 : Int32)) hx hb dX4_goTo_71 (by decide) ?_
      refine lv_istore (lv' := [(5, .int (0 : Int32)), (4, .int (0 : Int32)), (0, .ref (q 0)), (1, .int x1), (2, .int x2), (3, .int x3)]) hx hb dX4_goTo_72 hl (by decide) rfl (fun ls hl => ?_)
      exact k74e _ _ _ _ _ _ _ _ _ _ hw _ _ _ (lv_sub hl [2, 3, 4, 5, 1, 0] rfl) hP hD hS
  have J112 : ∀ x1 x2 x3 x5 s0 wo_ ti_ on_ he_ la_, v_X4_goTo_112 n se li wm ch ne np al kn sp py il fl wa bo so sd ro cp nr (fun u => u = gtF n kn bo so sd li (ti, on, he) la (a1.toNatClampNeg + 1)) K7 K28 K48 K60 K74 K206 x1 x2 x3 x5 s0 wo_ ti_ on_ he_ la_ → ∀ (H : Heap) (locs : List Loc) (ls : Array Slot), lv_has ls 6 [(0, .ref (q 0)), (1, .int x1), (2, .int x2), (3, .int x3), (5, .int x5)] → va_P D vwCl (wR cI cZ q (nI n) se li wm ch ne np al wo_ kn sp py il fl wa bo so sd ro cp nr ti_ on_ he_ la_) H → va_D A (wR cI cZ q (nI n) se li wm ch ne np al wo_ kn sp py il fl wa bo so sd ro cp nr ti_ on_ he_ la_) → va_S A s.heap H locs → W p l e (headSpec wsX4_goTo ({ frames := 8, cells := 0, slots := 0, locals := 320 })).room s m args below meth c H locs 0 0 Q (F0 m 112 ls [.int s0]) := by
    intro x1 x2 x3 x5 s0 wo_ ti_ on_ he_ la_ hw
    intro H locs ls hl hP hD hS
    unfold v_X4_goTo_112 at hw
    refine lv_istore (lv' := [(4, .int s0), (0, .ref (q 0)), (1, .int x1), (2, .int x2), (3, .int x3), (5, .int x5)]) hx hb dX4_goTo_112 hl (by decide) rfl (fun ls hl => ?_)
    refine lv_iinc (v := x5 + 1) (lv' := [(5, .int (x5 + 1)), (4, .int s0), (0, .ref (q 0)), (1, .int x1), (2, .int x2), (3, .int x3)]) hx hb dX4_goTo_114 hl (k := 5) rfl rfl (by decide) rfl (fun ls hl => ?_)
    refine lv_goto (tgt := 74) hx hb dX4_goTo_117 (by decide) ?_
    exact k74e _ _ _ _ _ _ _ _ _ _ hw _ _ _ (lv_sub hl [2, 3, 4, 5, 1, 0] rfl) hP hD hS
  have J107 : ∀ x1 x2 x3 x5 wo_ ti_ on_ he_ la_, v_X4_goTo_107 n se li wm ch ne np al kn sp py il fl wa bo so sd ro cp nr (fun u => u = gtF n kn bo so sd li (ti, on, he) la (a1.toNatClampNeg + 1)) K7 K28 K48 K60 K74 K206 x1 x2 x3 x5 wo_ ti_ on_ he_ la_ → ∀ (H : Heap) (locs : List Loc) (ls : Array Slot), lv_has ls 6 [(0, .ref (q 0)), (1, .int x1), (2, .int x2), (3, .int x3), (5, .int x5)] → va_P D vwCl (wR cI cZ q (nI n) se li wm ch ne np al wo_ kn sp py il fl wa bo so sd ro cp nr ti_ on_ he_ la_) H → va_D A (wR cI cZ q (nI n) se li wm ch ne np al wo_ kn sp py il fl wa bo so sd ro cp nr ti_ on_ he_ la_) → va_S A s.heap H locs → W p l e (headSpec wsX4_goTo ({ frames := 8, cells := 0, slots := 0, locals := 320 })).room s m args below meth c H locs 0 0 Q (F0 m 107 ls []) := by
    intro x1 x2 x3 x5 wo_ ti_ on_ he_ la_ hw
    intro H locs ls hl hP hD hS
    unfold v_X4_goTo_107 at hw
    refine lv_iconst (v := (1 : Int32)) hx hb dX4_goTo_107 (by decide) ?_
    refine lv_goto (tgt := 112) hx hb dX4_goTo_108 (by decide) ?_
    exact J112 _ _ _ _ _ _ _ _ _ _ hw _ _ _ (lv_sub hl [0, 1, 2, 3, 4] rfl) hP hD hS
  have J111 : ∀ x1 x2 x3 x5 wo_ ti_ on_ he_ la_, v_X4_goTo_111 n se li wm ch ne np al kn sp py il fl wa bo so sd ro cp nr (fun u => u = gtF n kn bo so sd li (ti, on, he) la (a1.toNatClampNeg + 1)) K7 K28 K48 K60 K74 K206 x1 x2 x3 x5 wo_ ti_ on_ he_ la_ → ∀ (H : Heap) (locs : List Loc) (ls : Array Slot), lv_has ls 6 [(0, .ref (q 0)), (1, .int x1), (2, .int x2), (3, .int x3), (5, .int x5)] → va_P D vwCl (wR cI cZ q (nI n) se li wm ch ne np al wo_ kn sp py il fl wa bo so sd ro cp nr ti_ on_ he_ la_) H → va_D A (wR cI cZ q (nI n) se li wm ch ne np al wo_ kn sp py il fl wa bo so sd ro cp nr ti_ on_ he_ la_) → va_S A s.heap H locs → W p l e (headSpec wsX4_goTo ({ frames := 8, cells := 0, slots := 0, locals := 320 })).room s m args below meth c H locs 0 0 Q (F0 m 111 ls []) := by
    intro x1 x2 x3 x5 wo_ ti_ on_ he_ la_ hw
    intro H locs ls hl hP hD hS
    unfold v_X4_goTo_111 at hw
    refine lv_iconst (v := (0 : Int32)) hx hb dX4_goTo_111 (by decide) ?_
    exact J112 _ _ _ _ _ _ _ _ _ _ hw _ _ _ (lv_sub hl [0, 1, 2, 3, 4] rfl) hP hD hS
  have J194 : ∀ x1 x2 x3 s0 s1 wo_ ti_ on_ he_ la_, v_X4_goTo_194 n se li wm ch ne np al kn sp py il fl wa bo so sd ro cp nr (fun u => u = gtF n kn bo so sd li (ti, on, he) la (a1.toNatClampNeg + 1)) K7 K28 K48 K60 K74 K206 x1 x2 x3 s0 s1 wo_ ti_ on_ he_ la_ → ∀ (H : Heap) (locs : List Loc) (ls : Array Slot), lv_has ls 6 [(0, .ref (q 0)), (1, .int x1), (2, .int x2), (3, .int x3)] → va_P D vwCl (wR cI cZ q (nI n) se li wm ch ne np al wo_ kn sp py il fl wa bo so sd ro cp nr ti_ on_ he_ la_) H → va_D A (wR cI cZ q (nI n) se li wm ch ne np al wo_ kn sp py il fl wa bo so sd ro cp nr ti_ on_ he_ la_) → va_S A s.heap H locs → W p l e (headSpec wsX4_goTo ({ frames := 8, cells := 0, slots := 0, locals := 320 })).room s m args below meth c H locs 0 0 Q (F0 m 194 ls [.int s0, .int s1, .ref (q 0)]) := by
    intro x1 x2 x3 s0 s1 wo_ ti_ on_ he_ la_ hw
    intro H locs ls hl hP hD hS
    unfold v_X4_goTo_194 at hw
    refine lv_ior hx hb dX4_goTo_194 ?_
    refine va_put (D := D) (ci := 4) (v := .int (s1 ||| s0)) (ty := .int) (C := RX4) (T := TX4) (N := 25) hx hb hts hin4 tyX4 tyX4_ok nmX4 hown hK hP hD hS 0 rfl rfl 23 (by decide) f125 (fun _ h9 => h9) rfl (by decide +kernel) rfl rfl (Nat.le_of_ble_eq_true rfl) dX4_goTo_195 (fun H locs hP hD hS => ?_)
    have hP : va_P D vwCl (wR cI cZ q (nI n) se li wm ch ne np al (s1 ||| s0) kn sp py il fl wa bo so sd ro cp nr ti_ on_ he_ la_) H := hP
    have hD : va_D A (wR cI cZ q (nI n) se li wm ch ne np al (s1 ||| s0) kn sp py il fl wa bo so sd ro cp nr ti_ on_ he_ la_) := hD
    refine lv_iinc (v := x3 + 1) (lv' := [(3, .int (x3 + 1)), (0, .ref (q 0)), (1, .int x1), (2, .int x2)]) hx hb dX4_goTo_198 hl (k := 3) rfl rfl (by decide) rfl (fun ls hl => ?_)
    refine lv_goto (tgt := 60) hx hb dX4_goTo_201 (by decide) ?_
    exact k60e _ _ _ _ _ _ _ _ hw _ _ _ (lv_sub hl [1, 2, 3, 0] rfl) hP hD hS
  have J168 : ∀ x1 x2 x3 s0 s1 wo_ ti_ on_ he_ la_, v_X4_goTo_168 n se li wm ch ne np al kn sp py il fl wa bo so sd ro cp nr (fun u => u = gtF n kn bo so sd li (ti, on, he) la (a1.toNatClampNeg + 1)) K7 K28 K48 K60 K74 K206 x1 x2 x3 s0 s1 wo_ ti_ on_ he_ la_ → ∀ (H : Heap) (locs : List Loc) (ls : Array Slot), lv_has ls 6 [(0, .ref (q 0)), (1, .int x1), (2, .int x2), (3, .int x3)] → va_P D vwCl (wR cI cZ q (nI n) se li wm ch ne np al wo_ kn sp py il fl wa bo so sd ro cp nr ti_ on_ he_ la_) H → va_D A (wR cI cZ q (nI n) se li wm ch ne np al wo_ kn sp py il fl wa bo so sd ro cp nr ti_ on_ he_ la_) → va_S A s.heap H locs → W p l e (headSpec wsX4_goTo ({ frames := 8, cells := 0, slots := 0, locals := 320 })).room s m args below meth c H locs 0 0 Q (F0 m 168 ls [.int s0, .int s1, .ref (q 13)]) := by
    intro x1 x2 x3 s0 s1 wo_ ti_ on_ he_ la_ hw
    intro H locs ls hl hP hD hS
    unfold v_X4_goTo_168 at hw
    obtain ⟨hv, hw⟩ := hw
    refine va_iast hx hb hK hP hD hS 13 0 rfl rfl hv dX4_goTo_168 (fun H locs hP hD hS => ?_)
    have hP : va_P D vwCl (wR cI cZ q (nI n) se li wm ch ne np al wo_ kn sp py il fl wa bo so sd ro cp nr (upd ti_ s1.toNatClampNeg s0) on_ he_ la_) H := hP
    have hD : va_D A (wR cI cZ q (nI n) se li wm ch ne np al wo_ kn sp py il fl wa bo so sd ro cp nr (upd ti_ s1.toNatClampNeg s0) on_ he_ la_) := hD
    refine lv_aload_n hx hb dX4_goTo_169 rfl (lv_at hl 0 rfl) ?_
    refine lv_aload_n hx hb dX4_goTo_170 rfl (lv_at hl 0 rfl) ?_
    refine va_get (D := D) (ci := 4) (v := .int wo_) (C := RX4) (T := TX4) (N := 25) hx hb hts hin4 hown hK hP 0 rfl rfl 23 (by decide) f125 (fun _ h9 => h9) rfl dX4_goTo_171 ?_
    refine lv_aload_n hx hb dX4_goTo_174 rfl (lv_at hl 0 rfl) ?_
    refine va_get (D := D) (ci := 4) (v := .ref (q 13)) (C := RX4) (T := TX4) (N := 25) hx hb hts hin4 hown hK hP 0 rfl rfl 20 (by decide) f54 (fun _ h9 => h9) rfl dX4_goTo_175 ?_
    refine lv_iload_n hx hb dX4_goTo_178 rfl (lv_at hl 3 rfl) ?_
    obtain ⟨hv, hw⟩ := hw
    refine va_iald hx hb hK hP 13 0 rfl rfl hv dX4_goTo_179 ?_
    refine lv_aload_n hx hb dX4_goTo_180 rfl (lv_at hl 0 rfl) ?_
    refine va_get (D := D) (ci := 4) (v := .int li) (C := RX4) (T := TX4) (N := 25) hx hb hts hin4 hown hK hP 0 rfl rfl 11 (by decide) f42 (fun _ h9 => h9) rfl dX4_goTo_181 ?_
    refine lv_icmp_le (tgt := 193) hx hb dX4_goTo_184 (by decide) (fun hc => ?_) (fun hc => ?_)
    · replace hw := hw.1 hc
      refine lv_iconst (v := (0 : Int32)) hx hb dX4_goTo_193 (by decide) ?_
      exact J194 _ _ _ _ _ _ _ _ _ _ hw _ _ _ (lv_sub hl [0, 1, 2, 3] rfl) hP hD hS
    · replace hw := hw.2 hc
      refine lv_iconst (v := (1 : Int32)) hx hb dX4_goTo_187 (by decide) ?_
      refine lv_iload_n hx hb dX4_goTo_188 rfl (lv_at hl 3 rfl) ?_
      refine lv_ishl hx hb dX4_goTo_189 ?_
      refine lv_goto (tgt := 194) hx hb dX4_goTo_190 (by decide) ?_
      exact J194 _ _ _ _ _ _ _ _ _ _ hw _ _ _ (lv_sub hl [0, 1, 2, 3] rfl) hP hD hS
  have R74 : ∀ x1 x2 x3 x4 x5 wo_ ti_ on_ he_ la_, v_X4_goTo_74 n se li wm ch ne np al kn sp py il fl wa bo so sd ro cp nr (fun u => u = gtF n kn bo so sd li (ti, on, he) la (a1.toNatClampNeg + 1)) K7 K28 K48 K60 K74 K206 x1 x2 x3 x4 x5 wo_ ti_ on_ he_ la_ → K74 x1 x2 x3 x4 x5 wo_ ti_ on_ he_ la_ := by
    intro x1 x2 x3 x4 x5 wo_ ti_ on_ he_ la_ hw
    refine k74i _ _ _ _ _ _ _ _ _ _ ?_
    intro H locs ls hl hP hD hS
    unfold v_X4_goTo_74 at hw
    refine lv_iload hx hb dX4_goTo_74 (lv_at hl 5 rfl) ?_
    refine lv_iconst (v := (5 : Int32)) hx hb dX4_goTo_76 (by decide) ?_
    refine lv_icmp_ge (tgt := 120) hx hb dX4_goTo_77 (by decide) (fun hc => ?_) (fun hc => ?_)
    · replace hw := hw.1 hc
      refine lv_aload_n hx hb dX4_goTo_120 rfl (lv_at hl 0 rfl) ?_
      refine va_get (D := D) (ci := 4) (v := .ref (q 13)) (C := RX4) (T := TX4) (N := 25) hx hb hts hin4 hown hK hP 0 rfl rfl 20 (by decide) f54 (fun _ h9 => h9) rfl dX4_goTo_121 ?_
      refine lv_iload_n hx hb dX4_goTo_124 rfl (lv_at hl 3 rfl) ?_
      refine lv_iload hx hb dX4_goTo_125 (lv_at hl 4 rfl) ?_
      refine lv_if_eq (tgt := 146) hx hb dX4_goTo_127 (by decide) (fun hc => ?_) (fun hc => ?_)
      · replace hw := hw.1 hc
        refine lv_aload_n hx hb dX4_goTo_146 rfl (lv_at hl 0 rfl) ?_
        refine va_get (D := D) (ci := 4) (v := .ref (q 13)) (C := RX4) (T := TX4) (N := 25) hx hb hts hin4 hown hK hP 0 rfl rfl 20 (by decide) f54 (fun _ h9 => h9) rfl dX4_goTo_147 ?_
        refine lv_iload_n hx hb dX4_goTo_150 rfl (lv_at hl 3 rfl) ?_
        obtain ⟨hv, hw⟩ := hw
        refine va_iald hx hb hK hP 13 0 rfl rfl hv dX4_goTo_151 ?_
        refine lv_iconst (v := (2 : Int32)) hx hb dX4_goTo_152 (by decide) ?_
        refine lv_icmp_le (tgt := 167) hx hb dX4_goTo_153 (by decide) (fun hc => ?_) (fun hc => ?_)
        · replace hw := hw.1 hc
          refine lv_iconst (v := (0 : Int32)) hx hb dX4_goTo_167 (by decide) ?_
          exact J168 _ _ _ _ _ _ _ _ _ _ hw _ _ _ (lv_sub hl [0, 1, 2, 3] rfl) hP hD hS
        · replace hw := hw.2 hc
          refine lv_aload_n hx hb dX4_goTo_156 rfl (lv_at hl 0 rfl) ?_
          refine va_get (D := D) (ci := 4) (v := .ref (q 13)) (C := RX4) (T := TX4) (N := 25) hx hb hts hin4 hown hK hP 0 rfl rfl 20 (by decide) f54 (fun _ h9 => h9) rfl dX4_goTo_157 ?_
          refine lv_iload_n hx hb dX4_goTo_160 rfl (lv_at hl 3 rfl) ?_
          obtain ⟨hv, hw⟩ := hw
          refine va_iald hx hb hK hP 13 0 rfl rfl hv dX4_goTo_161 ?_
          refine lv_iconst (v := (2 : Int32)) hx hb dX4_goTo_162 (by decide) ?_
          refine lv_isub hx hb dX4_goTo_163 ?_
          refine lv_goto (tgt := 168) hx hb dX4_goTo_164 (by decide) ?_
          exact J168 _ _ _ _ _ _ _ _ _ _ hw _ _ _ (lv_sub hl [0, 1, 2, 3] rfl) hP hD hS
      · replace hw := hw.2 hc
        refine lv_aload_n hx hb dX4_goTo_130 rfl (lv_at hl 0 rfl) ?_
        refine va_get (D := D) (ci := 4) (v := .ref (q 13)) (C := RX4) (T := TX4) (N := 25) hx hb hts hin4 hown hK hP 0 rfl rfl 20 (by decide) f54 (fun _ h9 => h9) rfl dX4_goTo_131 ?_
        refine lv_iload_n hx hb dX4_goTo_134 rfl (lv_at hl 3 rfl) ?_
        obtain ⟨hv, hw⟩ := hw
        refine va_iald hx hb hK hP 13 0 rfl rfl hv dX4_goTo_135 ?_
        refine lv_aload_n hx hb dX4_goTo_136 rfl (lv_at hl 0 rfl) ?_
        refine va_get (D := D) (ci := 4) (v := .ref (q 9)) (C := RX4) (T := TX4) (N := 25) hx hb hts hin4 hown hK hP 0 rfl rfl 10 (by decide) f39 (fun _ h9 => h9) rfl dX4_goTo_137 ?_
        refine lv_iload_n hx hb dX4_goTo_140 rfl (lv_at hl 2 rfl) ?_
        obtain ⟨hv, hw⟩ := hw
        refine va_iald hx hb hK hP 9 0 rfl rfl hv dX4_goTo_141 ?_
        refine lv_iadd hx hb dX4_goTo_142 ?_
        refine lv_goto (tgt := 168) hx hb dX4_goTo_143 (by decide) ?_
        exact J168 _ _ _ _ _ _ _ _ _ _ hw _ _ _ (lv_sub hl [0, 1, 2, 3] rfl) hP hD hS
    · replace hw := hw.2 hc
      refine lv_iload hx hb dX4_goTo_80 (lv_at hl 4 rfl) ?_
      refine lv_if_ne (tgt := 107) hx hb dX4_goTo_82 (by decide) (fun hc => ?_) (fun hc => ?_)
      · replace hw := hw.2 hc
        exact J107 _ _ _ _ _ _ _ _ _ hw _ _ _ (lv_sub hl [0, 1, 2, 3, 5] rfl) hP hD hS
      · replace hw := hw.1 hc
        refine lv_aload_n hx hb dX4_goTo_85 rfl (lv_at hl 0 rfl) ?_
        refine va_get (D := D) (ci := 4) (v := .ref (q 14)) (C := RX4) (T := TX4) (N := 25) hx hb hts hin4 hown hK hP 0 rfl rfl 21 (by decide) f57 (fun _ h9 => h9) rfl dX4_goTo_86 ?_
        refine lv_iload hx hb dX4_goTo_89 (lv_at hl 5 rfl) ?_
        obtain ⟨hv, hw⟩ := hw
        refine va_iald hx hb hK hP 14 0 rfl rfl hv dX4_goTo_91 ?_
        refine lv_iload_n hx hb dX4_goTo_92 rfl (lv_at hl 3 rfl) ?_
        refine lv_icmp_ne (tgt := 111) hx hb dX4_goTo_93 (by decide) (fun hc => ?_) (fun hc => ?_)
        · replace hw := hw.2 hc
          exact J111 _ _ _ _ _ _ _ _ _ hw _ _ _ (lv_sub hl [0, 1, 2, 3, 5] rfl) hP hD hS
        · replace hw := hw.1 hc
          refine lv_aload_n hx hb dX4_goTo_96 rfl (lv_at hl 0 rfl) ?_
          refine va_get (D := D) (ci := 4) (v := .ref (q 15)) (C := RX4) (T := TX4) (N := 25) hx hb hts hin4 hown hK hP 0 rfl rfl 22 (by decide) f60 (fun _ h9 => h9) rfl dX4_goTo_97 ?_
          refine lv_iload hx hb dX4_goTo_100 (lv_at hl 5 rfl) ?_
          obtain ⟨hv, hw⟩ := hw
          refine va_iald hx hb hK hP 15 0 rfl rfl hv dX4_goTo_102 ?_
          refine lv_iconst (v := (-1 : Int32)) hx hb dX4_goTo_103 (by decide) ?_
          refine lv_icmp_eq (tgt := 111) hx hb dX4_goTo_104 (by decide) (fun hc => ?_) (fun hc => ?_)
          · replace hw := hw.1 hc
            exact J111 _ _ _ _ _ _ _ _ _ hw _ _ _ (lv_sub hl [0, 1, 2, 3, 5] rfl) hP hD hS
          · replace hw := hw.2 hc
            exact J107 _ _ _ _ _ _ _ _ _ hw _ _ _ (lv_sub hl [0, 1, 2, 3, 5] rfl) hP hD hS
  have J270 : ∀ x1 x2 x3 s0 s1 s2 wo_ ti_ on_ he_ la_, v_X4_goTo_270 n se li wm ch ne np al kn sp py il fl wa bo so sd ro cp nr (fun u => u = gtF n kn bo so sd li (ti, on, he) la (a1.toNatClampNeg + 1)) K7 K28 K48 K60 K74 K206 x1 x2 x3 s0 s1 s2 wo_ ti_ on_ he_ la_ → ∀ (H : Heap) (locs : List Loc) (ls : Array Slot), lv_has ls 6 [(0, .ref (q 0)), (1, .int x1), (2, .int x2), (3, .int x3)] → va_P D vwCl (wR cI cZ q (nI n) se li wm ch ne np al wo_ kn sp py il fl wa bo so sd ro cp nr ti_ on_ he_ la_) H → va_D A (wR cI cZ q (nI n) se li wm ch ne np al wo_ kn sp py il fl wa bo so sd ro cp nr ti_ on_ he_ la_) → va_S A s.heap H locs → W p l e (headSpec wsX4_goTo ({ frames := 8, cells := 0, slots := 0, locals := 320 })).room s m args below meth c H locs 0 0 Q (F0 m 270 ls [.int s0, .int s1, .int s2, .ref (q 16)]) := by
    intro x1 x2 x3 s0 s1 s2 wo_ ti_ on_ he_ la_ hw
    intro H locs ls hl hP hD hS
    unfold v_X4_goTo_270 at hw
    refine lv_iadd hx hb dX4_goTo_270 ?_
    obtain ⟨hv, hw⟩ := hw
    refine va_iast hx hb hK hP hD hS 16 0 rfl rfl hv dX4_goTo_271 (fun H locs hP hD hS => ?_)
    have hP : va_P D vwCl (wR cI cZ q (nI n) se li wm ch ne np al wo_ kn sp py il fl wa bo so sd ro cp nr ti_ on_ he_ (upd la_ s2.toNatClampNeg (s1 + s0))) H := hP
    have hD : va_D A (wR cI cZ q (nI n) se li wm ch ne np al wo_ kn sp py il fl wa bo so sd ro cp nr ti_ on_ he_ (upd la_ s2.toNatClampNeg (s1 + s0))) := hD
    refine lv_iinc (v := x3 + 1) (lv' := [(3, .int (x3 + 1)), (0, .ref (q 0)), (1, .int x1), (2, .int x2)]) hx hb dX4_goTo_272 hl (k := 3) rfl rfl (by decide) rfl (fun ls hl => ?_)
    refine lv_goto (tgt := 206) hx hb dX4_goTo_275 (by decide) ?_
    exact k206e _ _ _ _ _ _ _ _ hw _ _ _ (lv_sub hl [1, 2, 3, 0] rfl) hP hD hS
  have J226 : ∀ x1 x2 x3 s0 wo_ ti_ on_ he_ la_, v_X4_goTo_226 n se li wm ch ne np al kn sp py il fl wa bo so sd ro cp nr (fun u => u = gtF n kn bo so sd li (ti, on, he) la (a1.toNatClampNeg + 1)) K7 K28 K48 K60 K74 K206 x1 x2 x3 s0 wo_ ti_ on_ he_ la_ → ∀ (H : Heap) (locs : List Loc) (ls : Array Slot), lv_has ls 6 [(0, .ref (q 0)), (1, .int x1), (2, .int x2), (3, .int x3)] → va_P D vwCl (wR cI cZ q (nI n) se li wm ch ne np al wo_ kn sp py il fl wa bo so sd ro cp nr ti_ on_ he_ la_) H → va_D A (wR cI cZ q (nI n) se li wm ch ne np al wo_ kn sp py il fl wa bo so sd ro cp nr ti_ on_ he_ la_) → va_S A s.heap H locs → W p l e (headSpec wsX4_goTo ({ frames := 8, cells := 0, slots := 0, locals := 320 })).room s m args below meth c H locs 0 0 Q (F0 m 226 ls [.int s0]) := by
    intro x1 x2 x3 s0 wo_ ti_ on_ he_ la_ hw
    intro H locs ls hl hP hD hS
    unfold v_X4_goTo_226 at hw
    refine lv_istore (lv' := [(4, .int s0), (0, .ref (q 0)), (1, .int x1), (2, .int x2), (3, .int x3)]) hx hb dX4_goTo_226 hl (by decide) rfl (fun ls hl => ?_)
    refine lv_aload_n hx hb dX4_goTo_228 rfl (lv_at hl 1 rfl) ?_
    refine va_get (D := D) (ci := 4) (v := .ref (q 16)) (C := RX4) (T := TX4) (N := 25) hx hb hts hin4 hown hK hP 0 rfl rfl 24 (by decide) f63 (fun _ h9 => h9) rfl dX4_goTo_229 ?_
    refine lv_iload_n hx hb dX4_goTo_232 rfl (lv_at hl 4 rfl) ?_
    refine lv_dup2_11 hx hb dX4_goTo_233 rfl rfl ?_
    obtain ⟨hv, hw⟩ := hw
    refine va_iald hx hb hK hP 16 0 rfl rfl hv dX4_goTo_234 ?_
    refine lv_aload_n hx hb dX4_goTo_235 rfl (lv_at hl 1 rfl) ?_
    refine va_get (D := D) (ci := 4) (v := .ref (q 15)) (C := RX4) (T := TX4) (N := 25) hx hb hts hin4 hown hK hP 0 rfl rfl 22 (by decide) f60 (fun _ h9 => h9) rfl dX4_goTo_236 ?_
    refine lv_iload_n hx hb dX4_goTo_239 rfl (lv_at hl 4 rfl) ?_
    obtain ⟨hv, hw⟩ := hw
    refine va_iald hx hb hK hP 15 0 rfl rfl hv dX4_goTo_240 ?_
    refine lv_iconst (v := (-1 : Int32)) hx hb dX4_goTo_241 (by decide) ?_
    refine lv_icmp_ne (tgt := 249) hx hb dX4_goTo_242 (by decide) (fun hc => ?_) (fun hc => ?_)
    · replace hw := hw.2 hc
      refine lv_aload_n hx hb dX4_goTo_249 rfl (lv_at hl 1 rfl) ?_
      refine va_get (D := D) (ci := 4) (v := .ref (q 15)) (C := RX4) (T := TX4) (N := 25) hx hb hts hin4 hown hK hP 0 rfl rfl 22 (by decide) f60 (fun _ h9 => h9) rfl dX4_goTo_250 ?_
      refine lv_iload_n hx hb dX4_goTo_253 rfl (lv_at hl 4 rfl) ?_
      obtain ⟨hv, hw⟩ := hw
      refine va_iald hx hb hK hP 15 0 rfl rfl hv dX4_goTo_254 ?_
      refine lv_iload_n hx hb dX4_goTo_255 rfl (lv_at hl 4 rfl) ?_
      refine lv_icmp_ne (tgt := 264) hx hb dX4_goTo_256 (by decide) (fun hc => ?_) (fun hc => ?_)
      · replace hw := hw.2 hc
        refine lv_iconst (v := (2 : Int32)) hx hb dX4_goTo_264 (by decide) ?_
        refine lv_iload hx hb dX4_goTo_265 (lv_at hl 0 rfl) ?_
        refine lv_imul hx hb dX4_goTo_267 ?_
        refine lv_iconst (v := (1 : Int32)) hx hb dX4_goTo_268 (by decide) ?_
        refine lv_iadd hx hb dX4_goTo_269 ?_
        exact J270 _ _ _ _ _ _ _ _ _ _ _ hw _ _ _ (lv_sub hl [1, 2, 3, 4] rfl) hP hD hS
      · replace hw := hw.1 hc
        refine lv_iload hx hb dX4_goTo_259 (lv_at hl 0 rfl) ?_
        refine lv_goto (tgt := 270) hx hb dX4_goTo_261 (by decide) ?_
        exact J270 _ _ _ _ _ _ _ _ _ _ _ hw _ _ _ (lv_sub hl [1, 2, 3, 4] rfl) hP hD hS
    · replace hw := hw.1 hc
      refine lv_iconst (v := (0 : Int32)) hx hb dX4_goTo_245 (by decide) ?_
      refine lv_goto (tgt := 270) hx hb dX4_goTo_246 (by decide) ?_
      exact J270 _ _ _ _ _ _ _ _ _ _ _ hw _ _ _ (lv_sub hl [1, 2, 3, 4] rfl) hP hD hS
  have R206 : ∀ x1 x2 x3 wo_ ti_ on_ he_ la_, v_X4_goTo_206 n se li wm ch ne np al kn sp py il fl wa bo so sd ro cp nr (fun u => u = gtF n kn bo so sd li (ti, on, he) la (a1.toNatClampNeg + 1)) K7 K28 K48 K60 K74 K206 x1 x2 x3 wo_ ti_ on_ he_ la_ → K206 x1 x2 x3 wo_ ti_ on_ he_ la_ := by
    intro x1 x2 x3 wo_ ti_ on_ he_ la_ hw
    refine k206i _ _ _ _ _ _ _ _ ?_
    intro H locs ls hl hP hD hS
    unfold v_X4_goTo_206 at hw
    refine lv_iload_n hx hb dX4_goTo_206 rfl (lv_at hl 3 rfl) ?_
    refine lv_iconst (v := (5 : Int32)) hx hb dX4_goTo_207 (by decide) ?_
    refine lv_icmp_ge (tgt := 278) hx hb dX4_goTo_208 (by decide) (fun hc => ?_) (fun hc => ?_)
    · replace hw := hw.1 hc
      refine lv_iinc (v := x2 + 1) (lv' := [(2, .int (x2 + 1)), (0, .ref (q 0)), (1, .int x1), (3, .int x3)]) hx hb dX4_goTo_278 hl (k := 2) rfl rfl (by decide) rfl (fun ls hl => ?_)
      refine lv_goto (tgt := 48) hx hb dX4_goTo_281 (by decide) ?_
      exact k48e _ _ _ _ _ _ _ hw _ _ _ (lv_sub hl [1, 2, 0] rfl) hP hD hS
    · replace hw := hw.2 hc
      refine lv_aload_n hx hb dX4_goTo_211 rfl (lv_at hl 0 rfl) ?_
      refine va_get (D := D) (ci := 4) (v := .ref (q 9)) (C := RX4) (T := TX4) (N := 25) hx hb hts hin4 hown hK hP 0 rfl rfl 10 (by decide) f39 (fun _ h9 => h9) rfl dX4_goTo_212 ?_
      refine lv_iload_n hx hb dX4_goTo_215 rfl (lv_at hl 2 rfl) ?_
      obtain ⟨hv, hw⟩ := hw
      refine va_iald hx hb hK hP 9 0 rfl rfl hv dX4_goTo_216 ?_
      refine lv_iconst (v := (5 : Int32)) hx hb dX4_goTo_217 (by decide) ?_
      refine lv_icmp_le (tgt := 225) hx hb dX4_goTo_218 (by decide) (fun hc => ?_) (fun hc => ?_)
      · replace hw := hw.1 hc
        refine lv_iconst (v := (1 : Int32)) hx hb dX4_goTo_225 (by decide) ?_
        exact J226 _ _ _ _ _ _ _ _ _ hw _ _ _ (lv_sub hl [0, 1, 2, 3] rfl) hP hD hS
      · replace hw := hw.2 hc
        refine lv_iconst (v := (2 : Int32)) hx hb dX4_goTo_221 (by decide) ?_
        refine lv_goto (tgt := 226) hx hb dX4_goTo_222 (by decide) ?_
        exact J226 _ _ _ _ _ _ _ _ _ hw _ _ _ (lv_sub hl [0, 1, 2, 3] rfl) hP hD hS
  have hw := h_X4_goTo n se li wm ch ne np al kn sp py il fl wa bo so sd ro cp nr wo ti on he la a1 hn h0 h1 K7 K28 K48 K60 K74 K206 R7 R28 R48 R60 R74 R206
  unfold v_X4_goTo_0 at hw
  refine lv_aload_n hx hb dX4_goTo_0 rfl (lv_at hl 0 rfl) ?_
  refine lv_iconst (v := (0 : Int32)) hx hb dX4_goTo_1 (by decide) ?_
  refine va_put (D := D) (ci := 4) (v := .int (0 : Int32)) (ty := .int) (C := RX4) (T := TX4) (N := 25) hx hb hts hin4 tyX4 tyX4_ok nmX4 hown hK hP hD hS 0 rfl rfl 23 (by decide) f125 (fun _ h9 => h9) rfl (by decide +kernel) rfl rfl (Nat.le_of_ble_eq_true rfl) dX4_goTo_2 (fun H locs hP hD hS => ?_)
  have hP : va_P D vwCl (wR cI cZ q (nI n) se li wm ch ne np al (0 : Int32) kn sp py il fl wa bo so sd ro cp nr ti on he la) H := hP
  have hD : va_D A (wR cI cZ q (nI n) se li wm ch ne np al (0 : Int32) kn sp py il fl wa bo so sd ro cp nr ti on he la) := hD
  refine lv_iconst (v := (0 : Int32)) hx hb dX4_goTo_5 (by decide) ?_
  refine lv_istore_n (lv' := [(2, .int (0 : Int32)), (0, .ref (q 0)), (1, .int a1)]) hx hb dX4_goTo_6 rfl hl (by decide) rfl (fun ls hl => ?_)
  exact k7e _ _ _ _ _ _ _ hw _ _ _ (lv_sub hl [1, 2, 0] rfl) hP hD hS
set_option maxHeartbeats 4000000 in
set_option maxRecDepth 100000 in
theorem c_X4_on (l : Launch) (D : va_G) (cI cZ : ClassId) (q : Nat → Nat) (n : Nat) (se : Int32) (li : Int32) (wm : Int32) (ch : Int32) (ne : Int32) (np : Int32) (al : Int32) (wo : Int32) (kn : Nat → Int32) (sp : Nat → Int32) (py : Nat → Int32) (il : Nat → Int32) (fl : Nat → Int32) (wa : Nat → Int32) (bo : Nat → Int32) (so : Nat → Int32) (sd : Nat → Int32) (ro : Nat → Int32) (cp : Nat → Int32) (nr : Nat → Int32) (ti : Nat → Int32) (on : Nat → Int32) (he : Nat → Int32) (la : Nat → Int32) (a1 : Int32) (a2 : Int32) (hn : n ≤ 6) (h0 : ∀ h, h < 16 → inR (sd h) 0 9 = true) : MI l yX4_on wsX4_on ({ frames := 10, cells := 0, slots := 0, locals := 400 }) D cI cZ [.ref (q 0), .int a1, .int a2] (wR cI cZ q (nI n) se li wm ch ne np al wo kn sp py il fl wa bo so sd ro cp nr ti on he la) (fun u : Int32 × (Nat → Int32) × (Nat → Int32) × (Nat → Int32) × (Nat → Int32) => (wR cI cZ q (nI n) se li wm ch ne np al u.1 kn sp py il fl wa bo so sd ro cp nr u.2.1 u.2.2.1 u.2.2.2.1 u.2.2.2.2)) (fun r u => r = (if (inR a1 0 4 && inR a2 0 15) = true then (gtF n kn bo so sd li (ti, on, he) la (a2.toNatClampNeg + 1)).2.2.1 a1.toNatClampNeg else (-2)) ∧ u = (if (inR a1 0 4 && inR a2 0 15) = true then (gtF n kn bo so sd li (ti, on, he) la (a2.toNatClampNeg + 1)) else (wo, ti, on, he, la))) := by
  refine MI_of (cc := cX4_on) (maxL := 3) (ty := .int) (by decide) rfl (Nat.le_of_ble_eq_true rfl) (fun p e s m args below meth c A Q hx hb hml hown hts hK hN hA hret H locs ls hl hP hD hS => ?_)
  have hown : s.vm.findClass RX4 = some m.cls := hown
  have hl : lv_has ls 3 [(0, .ref (q 0)), (1, .int a1), (2, .int a2)] := hl
  have hin4 : ∀ w ∈ u_ws RX4 TX4 25, w ∈ wsX4_on := fun w h => List.mem_cons_of_mem _ (List.mem_append_right _ h)
  have f57 : (Cond.fieldLink RX4 57 "GlassBoothsModel" "on" "[I").before args s = true := hts _ (by decide +kernel)
  have hw := h_X4_on n se li wm ch ne np al kn sp py il fl wa bo so sd ro cp nr wo ti on he la a1 a2 hn h0  
  unfold v_X4_on_0 at hw
  refine lv_iload_n hx hb dX4_on_0 rfl (lv_at hl 1 rfl) ?_
  refine zc_i0 (va_runS (As := [.int a1]) (rest := []) ⟨hx, hb, hml, hown, hts⟩ ((c_X4_isTongue l D cI cZ a1  ) H.size) (va_cwS 1 hts gX4_on_X4_isTongue rfl rfl rfl (by decide +kernel) ⟨Nat.le_of_ble_eq_true rfl, Nat.le_of_ble_eq_true rfl⟩) (ps_of hK hN hP hD [] rfl rfl) rfl rfl hl.1 rfl (lv_room (Nat.le_of_ble_eq_true rfl)) dX4_on_1 ⟨Nat.zero_le _, Nat.zero_le _⟩) hP hD hS hA (fun r u H locs hu hP hD hS => ?_)
  subst hu
  refine lv_if_eq (tgt := 14) hx hb dX4_on_4 (by decide) (fun hc => ?_) (fun hc => ?_)
  · replace hw := hw.1 hc
    refine lv_bipush (v := (-2 : Int32)) hx hb dX4_on_14 (by decide) ?_
    exact hret _ (wo, ti, on, he, la) _ _ _ _ hw rfl hP hD hS dX4_on_16
  · replace hw := hw.2 hc
    refine lv_iload_n hx hb dX4_on_7 rfl (lv_at hl 2 rfl) ?_
    refine zc_i0 (va_runS (As := [.int a2]) (rest := []) ⟨hx, hb, hml, hown, hts⟩ ((c_X4_isHalf l D cI cZ a2  ) H.size) (va_cwS 1 hts gX4_on_X4_isHalf rfl rfl rfl (by decide +kernel) ⟨Nat.le_of_ble_eq_true rfl, Nat.le_of_ble_eq_true rfl⟩) (ps_of hK hN hP hD [] rfl rfl) rfl rfl hl.1 rfl (lv_room (Nat.le_of_ble_eq_true rfl)) dX4_on_8 ⟨Nat.zero_le _, Nat.zero_le _⟩) hP hD hS hA (fun r u H locs hu hP hD hS => ?_)
    subst hu
    refine lv_if_ne (tgt := 17) hx hb dX4_on_11 (by decide) (fun hc => ?_) (fun hc => ?_)
    · replace hw := hw.2 hc
      refine lv_aload_n hx hb dX4_on_17 rfl (lv_at hl 0 rfl) ?_
      refine lv_iload_n hx hb dX4_on_18 rfl (lv_at hl 2 rfl) ?_
      obtain ⟨hp0, hp1, hw⟩ := hw
      refine zc_v (fun u => (wR cI cZ q (nI n) se li wm ch ne np al u.1 kn sp py il fl wa bo so sd ro cp nr u.2.1 u.2.2.1 u.2.2.2.1 u.2.2.2.2)) [0, 1, 2, 3, 4, 5, 6, 7, 8, 9, 10, 11, 12, 13, 14, 15, 16] [] [0, 1, 2, 3, 4, 5, 6, 7, 8, 9, 10, 11, 12, 13, 14, 15, 16] (va_runV (As := [.int a2]) (rest := []) ⟨hx, hb, hml, hown, hts⟩ ((c_X4_goTo l D cI cZ q n se li wm ch ne np al wo kn sp py il fl wa bo so sd ro cp nr ti on he la a2 hn hp0 hp1) H.size) (cwV 1 hts gX4_on_X4_goTo rfl rfl rfl (by decide +kernel) ⟨Nat.le_of_ble_eq_true rfl, Nat.le_of_ble_eq_true rfl⟩) (pv_of hK hN hP hD [0, 1, 2, 3, 4, 5, 6, 7, 8, 9, 10, 11, 12, 13, 14, 15, 16] rfl rfl 4 0 rfl rfl) rfl rfl hl.1 rfl (lv_room (Nat.le_of_ble_eq_true rfl)) dX4_on_19 ⟨Nat.zero_le _, Nat.zero_le _⟩) hP hD hS hA rfl rfl rfl (by decide) (fun _ => rfl) rfl (fun u19 H locs hu hP hD hS => ?_)
      replace hw := hw u19 hu
      have hP : va_P D vwCl (wR cI cZ q (nI n) se li wm ch ne np al u19.1 kn sp py il fl wa bo so sd ro cp nr u19.2.1 u19.2.2.1 u19.2.2.2.1 u19.2.2.2.2) H := hP
      have hD : va_D A (wR cI cZ q (nI n) se li wm ch ne np al u19.1 kn sp py il fl wa bo so sd ro cp nr u19.2.1 u19.2.2.1 u19.2.2.2.1 u19.2.2.2.2) := hD
      refine lv_aload_n hx hb dX4_on_22 rfl (lv_at hl 0 rfl) ?_
      refine va_get (D := D) (ci := 4) (v := .ref (q 14)) (C := RX4) (T := TX4) (N := 25) hx hb hts hin4 hown hK hP 0 rfl rfl 21 (by decide) f57 (fun _ h9 => h9) rfl dX4_on_23 ?_
      refine lv_iload_n hx hb dX4_on_26 rfl (lv_at hl 1 rfl) ?_
      obtain ⟨hv, hw⟩ := hw
      refine va_iald hx hb hK hP 14 0 rfl rfl hv dX4_on_27 ?_
      exact hret _ (u19.1, u19.2.1, u19.2.2.1, u19.2.2.2.1, u19.2.2.2.2) _ _ _ _ hw rfl hP hD hS dX4_on_28
    · replace hw := hw.1 hc
      refine lv_bipush (v := (-2 : Int32)) hx hb dX4_on_14 (by decide) ?_
      exact hret _ (wo, ti, on, he, la) _ _ _ _ hw rfl hP hD hS dX4_on_16
set_option maxHeartbeats 4000000 in
set_option maxRecDepth 100000 in
theorem c_X4_heard (l : Launch) (D : va_G) (cI cZ : ClassId) (q : Nat → Nat) (n : Nat) (se : Int32) (li : Int32) (wm : Int32) (ch : Int32) (ne : Int32) (np : Int32) (al : Int32) (wo : Int32) (kn : Nat → Int32) (sp : Nat → Int32) (py : Nat → Int32) (il : Nat → Int32) (fl : Nat → Int32) (wa : Nat → Int32) (bo : Nat → Int32) (so : Nat → Int32) (sd : Nat → Int32) (ro : Nat → Int32) (cp : Nat → Int32) (nr : Nat → Int32) (ti : Nat → Int32) (on : Nat → Int32) (he : Nat → Int32) (la : Nat → Int32) (a1 : Int32) (a2 : Int32) (hn : n ≤ 6) (h0 : ∀ h, h < 16 → inR (sd h) 0 9 = true) : MI l yX4_heard wsX4_heard ({ frames := 10, cells := 0, slots := 0, locals := 400 }) D cI cZ [.ref (q 0), .int a1, .int a2] (wR cI cZ q (nI n) se li wm ch ne np al wo kn sp py il fl wa bo so sd ro cp nr ti on he la) (fun u : Int32 × (Nat → Int32) × (Nat → Int32) × (Nat → Int32) × (Nat → Int32) => (wR cI cZ q (nI n) se li wm ch ne np al u.1 kn sp py il fl wa bo so sd ro cp nr u.2.1 u.2.2.1 u.2.2.2.1 u.2.2.2.2)) (fun r u => r = (if (inR a1 0 4 && inR a2 0 15) = true then (gtF n kn bo so sd li (ti, on, he) la (a2.toNatClampNeg + 1)).2.2.2.1 a1.toNatClampNeg else (-2)) ∧ u = (if (inR a1 0 4 && inR a2 0 15) = true then (gtF n kn bo so sd li (ti, on, he) la (a2.toNatClampNeg + 1)) else (wo, ti, on, he, la))) := by
  refine MI_of (cc := cX4_heard) (maxL := 3) (ty := .int) (by decide) rfl (Nat.le_of_ble_eq_true rfl) (fun p e s m args below meth c A Q hx hb hml hown hts hK hN hA hret H locs ls hl hP hD hS => ?_)
  have hown : s.vm.findClass RX4 = some m.cls := hown
  have hl : lv_has ls 3 [(0, .ref (q 0)), (1, .int a1), (2, .int a2)] := hl
  have hin4 : ∀ w ∈ u_ws RX4 TX4 25, w ∈ wsX4_heard := fun w h => List.mem_cons_of_mem _ (List.mem_append_right _ h)
  have f60 : (Cond.fieldLink RX4 60 "GlassBoothsModel" "heard" "[I").before args s = true := hts _ (by decide +kernel)
  have hw := h_X4_heard n se li wm ch ne np al kn sp py il fl wa bo so sd ro cp nr wo ti on he la a1 a2 hn h0  
  unfold v_X4_heard_0 at hw
  refine lv_iload_n hx hb dX4_heard_0 rfl (lv_at hl 1 rfl) ?_
  refine zc_i0 (va_runS (As := [.int a1]) (rest := []) ⟨hx, hb, hml, hown, hts⟩ ((c_X4_isTongue l D cI cZ a1  ) H.size) (va_cwS 1 hts gX4_heard_X4_isTongue rfl rfl rfl (by decide +kernel) ⟨Nat.le_of_ble_eq_true rfl, Nat.le_of_ble_eq_true rfl⟩) (ps_of hK hN hP hD [] rfl rfl) rfl rfl hl.1 rfl (lv_room (Nat.le_of_ble_eq_true rfl)) dX4_heard_1 ⟨Nat.zero_le _, Nat.zero_le _⟩) hP hD hS hA (fun r u H locs hu hP hD hS => ?_)
  subst hu
  refine lv_if_eq (tgt := 14) hx hb dX4_heard_4 (by decide) (fun hc => ?_) (fun hc => ?_)
  · replace hw := hw.1 hc
    refine lv_bipush (v := (-2 : Int32)) hx hb dX4_heard_14 (by decide) ?_
    exact hret _ (wo, ti, on, he, la) _ _ _ _ hw rfl hP hD hS dX4_heard_16
  · replace hw := hw.2 hc
    refine lv_iload_n hx hb dX4_heard_7 rfl (lv_at hl 2 rfl) ?_
    refine zc_i0 (va_runS (As := [.int a2]) (rest := []) ⟨hx, hb, hml, hown, hts⟩ ((c_X4_isHalf l D cI cZ a2  ) H.size) (va_cwS 1 hts gX4_heard_X4_isHalf rfl rfl rfl (by decide +kernel) ⟨Nat.le_of_ble_eq_true rfl, Nat.le_of_ble_eq_true rfl⟩) (ps_of hK hN hP hD [] rfl rfl) rfl rfl hl.1 rfl (lv_room (Nat.le_of_ble_eq_true rfl)) dX4_heard_8 ⟨Nat.zero_le _, Nat.zero_le _⟩) hP hD hS hA (fun r u H locs hu hP hD hS => ?_)
    subst hu
    refine lv_if_ne (tgt := 17) hx hb dX4_heard_11 (by decide) (fun hc => ?_) (fun hc => ?_)
    · replace hw := hw.2 hc
      refine lv_aload_n hx hb dX4_heard_17 rfl (lv_at hl 0 rfl) ?_
      refine lv_iload_n hx hb dX4_heard_18 rfl (lv_at hl 2 rfl) ?_
      obtain ⟨hp0, hp1, hw⟩ := hw
      refine zc_v (fun u => (wR cI cZ q (nI n) se li wm ch ne np al u.1 kn sp py il fl wa bo so sd ro cp nr u.2.1 u.2.2.1 u.2.2.2.1 u.2.2.2.2)) [0, 1, 2, 3, 4, 5, 6, 7, 8, 9, 10, 11, 12, 13, 14, 15, 16] [] [0, 1, 2, 3, 4, 5, 6, 7, 8, 9, 10, 11, 12, 13, 14, 15, 16] (va_runV (As := [.int a2]) (rest := []) ⟨hx, hb, hml, hown, hts⟩ ((c_X4_goTo l D cI cZ q n se li wm ch ne np al wo kn sp py il fl wa bo so sd ro cp nr ti on he la a2 hn hp0 hp1) H.size) (cwV 1 hts gX4_heard_X4_goTo rfl rfl rfl (by decide +kernel) ⟨Nat.le_of_ble_eq_true rfl, Nat.le_of_ble_eq_true rfl⟩) (pv_of hK hN hP hD [0, 1, 2, 3, 4, 5, 6, 7, 8, 9, 10, 11, 12, 13, 14, 15, 16] rfl rfl 4 0 rfl rfl) rfl rfl hl.1 rfl (lv_room (Nat.le_of_ble_eq_true rfl)) dX4_heard_19 ⟨Nat.zero_le _, Nat.zero_le _⟩) hP hD hS hA rfl rfl rfl (by decide) (fun _ => rfl) rfl (fun u19 H locs hu hP hD hS => ?_)
      replace hw := hw u19 hu
      have hP : va_P D vwCl (wR cI cZ q (nI n) se li wm ch ne np al u19.1 kn sp py il fl wa bo so sd ro cp nr u19.2.1 u19.2.2.1 u19.2.2.2.1 u19.2.2.2.2) H := hP
      have hD : va_D A (wR cI cZ q (nI n) se li wm ch ne np al u19.1 kn sp py il fl wa bo so sd ro cp nr u19.2.1 u19.2.2.1 u19.2.2.2.1 u19.2.2.2.2) := hD
      refine lv_aload_n hx hb dX4_heard_22 rfl (lv_at hl 0 rfl) ?_
      refine va_get (D := D) (ci := 4) (v := .ref (q 15)) (C := RX4) (T := TX4) (N := 25) hx hb hts hin4 hown hK hP 0 rfl rfl 22 (by decide) f60 (fun _ h9 => h9) rfl dX4_heard_23 ?_
      refine lv_iload_n hx hb dX4_heard_26 rfl (lv_at hl 1 rfl) ?_
      obtain ⟨hv, hw⟩ := hw
      refine va_iald hx hb hK hP 15 0 rfl rfl hv dX4_heard_27 ?_
      exact hret _ (u19.1, u19.2.1, u19.2.2.1, u19.2.2.2.1, u19.2.2.2.2) _ _ _ _ hw rfl hP hD hS dX4_heard_28
    · replace hw := hw.1 hc
      refine lv_bipush (v := (-2 : Int32)) hx hb dX4_heard_14 (by decide) ?_
      exact hret _ (wo, ti, on, he, la) _ _ _ _ hw rfl hP hD hS dX4_heard_16
set_option maxHeartbeats 4000000 in
set_option maxRecDepth 100000 in
theorem c_X4_tired (l : Launch) (D : va_G) (cI cZ : ClassId) (q : Nat → Nat) (n : Nat) (se : Int32) (li : Int32) (wm : Int32) (ch : Int32) (ne : Int32) (np : Int32) (al : Int32) (wo : Int32) (kn : Nat → Int32) (sp : Nat → Int32) (py : Nat → Int32) (il : Nat → Int32) (fl : Nat → Int32) (wa : Nat → Int32) (bo : Nat → Int32) (so : Nat → Int32) (sd : Nat → Int32) (ro : Nat → Int32) (cp : Nat → Int32) (nr : Nat → Int32) (ti : Nat → Int32) (on : Nat → Int32) (he : Nat → Int32) (la : Nat → Int32) (a1 : Int32) (a2 : Int32) (hn : n ≤ 6) (h0 : ∀ h, h < 16 → inR (sd h) 0 9 = true) : MI l yX4_tired wsX4_tired ({ frames := 10, cells := 0, slots := 0, locals := 400 }) D cI cZ [.ref (q 0), .int a1, .int a2] (wR cI cZ q (nI n) se li wm ch ne np al wo kn sp py il fl wa bo so sd ro cp nr ti on he la) (fun u : Int32 × (Nat → Int32) × (Nat → Int32) × (Nat → Int32) × (Nat → Int32) => (wR cI cZ q (nI n) se li wm ch ne np al u.1 kn sp py il fl wa bo so sd ro cp nr u.2.1 u.2.2.1 u.2.2.2.1 u.2.2.2.2)) (fun r u => r = (if (inR a1 0 (nI n - 1) && inR a2 0 15) = true then (gtF n kn bo so sd li (ti, on, he) la (a2.toNatClampNeg + 1)).2.1 a1.toNatClampNeg else (-2)) ∧ u = (if (inR a1 0 (nI n - 1) && inR a2 0 15) = true then (gtF n kn bo so sd li (ti, on, he) la (a2.toNatClampNeg + 1)) else (wo, ti, on, he, la))) := by
  refine MI_of (cc := cX4_tired) (maxL := 3) (ty := .int) (by decide) rfl (Nat.le_of_ble_eq_true rfl) (fun p e s m args below meth c A Q hx hb hml hown hts hK hN hA hret H locs ls hl hP hD hS => ?_)
  have hown : s.vm.findClass RX4 = some m.cls := hown
  have hl : lv_has ls 3 [(0, .ref (q 0)), (1, .int a1), (2, .int a2)] := hl
  have hin4 : ∀ w ∈ u_ws RX4 TX4 25, w ∈ wsX4_tired := fun w h => List.mem_cons_of_mem _ (List.mem_append_right _ h)
  have f54 : (Cond.fieldLink RX4 54 "GlassBoothsModel" "tired" "[I").before args s = true := hts _ (by decide +kernel)
  have hw := h_X4_tired n se li wm ch ne np al kn sp py il fl wa bo so sd ro cp nr wo ti on he la a1 a2 hn h0  
  unfold v_X4_tired_0 at hw
  refine lv_aload_n hx hb dX4_tired_0 rfl (lv_at hl 0 rfl) ?_
  refine lv_iload_n hx hb dX4_tired_1 rfl (lv_at hl 1 rfl) ?_
  refine zc_i (fun u => (wR cI cZ q (nI n) se li wm ch ne np al wo kn sp py il fl wa bo so sd ro cp nr ti on he la)) [0, 1, 2, 3, 4, 5, 6, 7, 8, 9, 10, 11, 12, 13, 14, 15, 16] [] [0, 1, 2, 3, 4, 5, 6, 7, 8, 9, 10, 11, 12, 13, 14, 15, 16] (va_runV (As := [.int a1]) (rest := []) ⟨hx, hb, hml, hown, hts⟩ ((c_X4_isPerson l D cI cZ q n se li wm ch ne np al wo kn sp py il fl wa bo so sd ro cp nr ti on he la a1 hn ) H.size) (cwV 1 hts gX4_tired_X4_isPerson rfl rfl rfl (by decide +kernel) ⟨Nat.le_of_ble_eq_true rfl, Nat.le_of_ble_eq_true rfl⟩) (pv_of hK hN hP hD [0, 1, 2, 3, 4, 5, 6, 7, 8, 9, 10, 11, 12, 13, 14, 15, 16] rfl rfl 4 0 rfl rfl) rfl rfl hl.1 rfl (lv_room (Nat.le_of_ble_eq_true rfl)) dX4_tired_2 ⟨Nat.zero_le _, Nat.zero_le _⟩) hP hD hS hA rfl rfl rfl (by decide) (fun _ => rfl) rfl (fun r u H locs hu hP hD hS => ?_)
  subst hu
  have hP : va_P D vwCl (wR cI cZ q (nI n) se li wm ch ne np al wo kn sp py il fl wa bo so sd ro cp nr ti on he la) H := hP
  have hD : va_D A (wR cI cZ q (nI n) se li wm ch ne np al wo kn sp py il fl wa bo so sd ro cp nr ti on he la) := hD
  refine lv_if_eq (tgt := 15) hx hb dX4_tired_5 (by decide) (fun hc => ?_) (fun hc => ?_)
  · replace hw := hw.1 hc
    refine lv_bipush (v := (-2 : Int32)) hx hb dX4_tired_15 (by decide) ?_
    exact hret _ (wo, ti, on, he, la) _ _ _ _ hw rfl hP hD hS dX4_tired_17
  · replace hw := hw.2 hc
    refine lv_iload_n hx hb dX4_tired_8 rfl (lv_at hl 2 rfl) ?_
    refine zc_i0 (va_runS (As := [.int a2]) (rest := []) ⟨hx, hb, hml, hown, hts⟩ ((c_X4_isHalf l D cI cZ a2  ) H.size) (va_cwS 1 hts gX4_tired_X4_isHalf rfl rfl rfl (by decide +kernel) ⟨Nat.le_of_ble_eq_true rfl, Nat.le_of_ble_eq_true rfl⟩) (ps_of hK hN hP hD [] rfl rfl) rfl rfl hl.1 rfl (lv_room (Nat.le_of_ble_eq_true rfl)) dX4_tired_9 ⟨Nat.zero_le _, Nat.zero_le _⟩) hP hD hS hA (fun r u H locs hu hP hD hS => ?_)
    subst hu
    refine lv_if_ne (tgt := 18) hx hb dX4_tired_12 (by decide) (fun hc => ?_) (fun hc => ?_)
    · replace hw := hw.2 hc
      refine lv_aload_n hx hb dX4_tired_18 rfl (lv_at hl 0 rfl) ?_
      refine lv_iload_n hx hb dX4_tired_19 rfl (lv_at hl 2 rfl) ?_
      obtain ⟨hp0, hp1, hw⟩ := hw
      refine zc_v (fun u => (wR cI cZ q (nI n) se li wm ch ne np al u.1 kn sp py il fl wa bo so sd ro cp nr u.2.1 u.2.2.1 u.2.2.2.1 u.2.2.2.2)) [0, 1, 2, 3, 4, 5, 6, 7, 8, 9, 10, 11, 12, 13, 14, 15, 16] [] [0, 1, 2, 3, 4, 5, 6, 7, 8, 9, 10, 11, 12, 13, 14, 15, 16] (va_runV (As := [.int a2]) (rest := []) ⟨hx, hb, hml, hown, hts⟩ ((c_X4_goTo l D cI cZ q n se li wm ch ne np al wo kn sp py il fl wa bo so sd ro cp nr ti on he la a2 hn hp0 hp1) H.size) (cwV 1 hts gX4_tired_X4_goTo rfl rfl rfl (by decide +kernel) ⟨Nat.le_of_ble_eq_true rfl, Nat.le_of_ble_eq_true rfl⟩) (pv_of hK hN hP hD [0, 1, 2, 3, 4, 5, 6, 7, 8, 9, 10, 11, 12, 13, 14, 15, 16] rfl rfl 4 0 rfl rfl) rfl rfl hl.1 rfl (lv_room (Nat.le_of_ble_eq_true rfl)) dX4_tired_20 ⟨Nat.zero_le _, Nat.zero_le _⟩) hP hD hS hA rfl rfl rfl (by decide) (fun _ => rfl) rfl (fun u20 H locs hu hP hD hS => ?_)
      replace hw := hw u20 hu
      have hP : va_P D vwCl (wR cI cZ q (nI n) se li wm ch ne np al u20.1 kn sp py il fl wa bo so sd ro cp nr u20.2.1 u20.2.2.1 u20.2.2.2.1 u20.2.2.2.2) H := hP
      have hD : va_D A (wR cI cZ q (nI n) se li wm ch ne np al u20.1 kn sp py il fl wa bo so sd ro cp nr u20.2.1 u20.2.2.1 u20.2.2.2.1 u20.2.2.2.2) := hD
      refine lv_aload_n hx hb dX4_tired_23 rfl (lv_at hl 0 rfl) ?_
      refine va_get (D := D) (ci := 4) (v := .ref (q 13)) (C := RX4) (T := TX4) (N := 25) hx hb hts hin4 hown hK hP 0 rfl rfl 20 (by decide) f54 (fun _ h9 => h9) rfl dX4_tired_24 ?_
      refine lv_iload_n hx hb dX4_tired_27 rfl (lv_at hl 1 rfl) ?_
      obtain ⟨hv, hw⟩ := hw
      refine va_iald hx hb hK hP 13 0 rfl rfl hv dX4_tired_28 ?_
      exact hret _ (u20.1, u20.2.1, u20.2.2.1, u20.2.2.2.1, u20.2.2.2.2) _ _ _ _ hw rfl hP hD hS dX4_tired_29
    · replace hw := hw.1 hc
      refine lv_bipush (v := (-2 : Int32)) hx hb dX4_tired_15 (by decide) ?_
      exact hret _ (wo, ti, on, he, la) _ _ _ _ hw rfl hP hD hS dX4_tired_17
set_option maxHeartbeats 4000000 in
set_option maxRecDepth 100000 in
theorem c_X4_late (l : Launch) (D : va_G) (cI cZ : ClassId) (q : Nat → Nat) (n : Nat) (se : Int32) (li : Int32) (wm : Int32) (ch : Int32) (ne : Int32) (np : Int32) (al : Int32) (wo : Int32) (kn : Nat → Int32) (sp : Nat → Int32) (py : Nat → Int32) (il : Nat → Int32) (fl : Nat → Int32) (wa : Nat → Int32) (bo : Nat → Int32) (so : Nat → Int32) (sd : Nat → Int32) (ro : Nat → Int32) (cp : Nat → Int32) (nr : Nat → Int32) (ti : Nat → Int32) (on : Nat → Int32) (he : Nat → Int32) (la : Nat → Int32) (a1 : Int32) (hn : n ≤ 6) (h0 : ∀ h, h < 16 → inR (sd h) 0 9 = true) : MI l yX4_late wsX4_late ({ frames := 10, cells := 0, slots := 0, locals := 400 }) D cI cZ [.ref (q 0), .int a1] (wR cI cZ q (nI n) se li wm ch ne np al wo kn sp py il fl wa bo so sd ro cp nr ti on he la) (fun u : Int32 × (Nat → Int32) × (Nat → Int32) × (Nat → Int32) × (Nat → Int32) => (wR cI cZ q (nI n) se li wm ch ne np al u.1 kn sp py il fl wa bo so sd ro cp nr u.2.1 u.2.2.1 u.2.2.2.1 u.2.2.2.2)) (fun r u => r = (if inR a1 0 4 = true then (gtF n kn bo so sd li (ti, on, he) la 16).2.2.2.2 a1.toNatClampNeg else (-2)) ∧ u = (if inR a1 0 4 = true then (gtF n kn bo so sd li (ti, on, he) la 16) else (wo, ti, on, he, la))) := by
  refine MI_of (cc := cX4_late) (maxL := 2) (ty := .int) (by decide) rfl (Nat.le_of_ble_eq_true rfl) (fun p e s m args below meth c A Q hx hb hml hown hts hK hN hA hret H locs ls hl hP hD hS => ?_)
  have hown : s.vm.findClass RX4 = some m.cls := hown
  have hl : lv_has ls 2 [(0, .ref (q 0)), (1, .int a1)] := hl
  have hin4 : ∀ w ∈ u_ws RX4 TX4 25, w ∈ wsX4_late := fun w h => List.mem_cons_of_mem _ (List.mem_append_right _ h)
  have f63 : (Cond.fieldLink RX4 63 "GlassBoothsModel" "lateOf" "[I").before args s = true := hts _ (by decide +kernel)
  have hw := h_X4_late n se li wm ch ne np al kn sp py il fl wa bo so sd ro cp nr wo ti on he la a1 hn h0  
  unfold v_X4_late_0 at hw
  refine lv_iload_n hx hb dX4_late_0 rfl (lv_at hl 1 rfl) ?_
  refine zc_i0 (va_runS (As := [.int a1]) (rest := []) ⟨hx, hb, hml, hown, hts⟩ ((c_X4_isTongue l D cI cZ a1  ) H.size) (va_cwS 1 hts gX4_late_X4_isTongue rfl rfl rfl (by decide +kernel) ⟨Nat.le_of_ble_eq_true rfl, Nat.le_of_ble_eq_true rfl⟩) (ps_of hK hN hP hD [] rfl rfl) rfl rfl hl.1 rfl (lv_room (Nat.le_of_ble_eq_true rfl)) dX4_late_1 ⟨Nat.zero_le _, Nat.zero_le _⟩) hP hD hS hA (fun r u H locs hu hP hD hS => ?_)
  subst hu
  refine lv_if_ne (tgt := 10) hx hb dX4_late_4 (by decide) (fun hc => ?_) (fun hc => ?_)
  · replace hw := hw.2 hc
    refine lv_aload_n hx hb dX4_late_10 rfl (lv_at hl 0 rfl) ?_
    refine lv_bipush (v := (15 : Int32)) hx hb dX4_late_11 (by decide) ?_
    obtain ⟨hp0, hp1, hw⟩ := hw
    refine zc_v (fun u => (wR cI cZ q (nI n) se li wm ch ne np al u.1 kn sp py il fl wa bo so sd ro cp nr u.2.1 u.2.2.1 u.2.2.2.1 u.2.2.2.2)) [0, 1, 2, 3, 4, 5, 6, 7, 8, 9, 10, 11, 12, 13, 14, 15, 16] [] [0, 1, 2, 3, 4, 5, 6, 7, 8, 9, 10, 11, 12, 13, 14, 15, 16] (va_runV (As := [.int (15 : Int32)]) (rest := []) ⟨hx, hb, hml, hown, hts⟩ ((c_X4_goTo l D cI cZ q n se li wm ch ne np al wo kn sp py il fl wa bo so sd ro cp nr ti on he la (15 : Int32) hn hp0 hp1) H.size) (cwV 1 hts gX4_late_X4_goTo rfl rfl rfl (by decide +kernel) ⟨Nat.le_of_ble_eq_true rfl, Nat.le_of_ble_eq_true rfl⟩) (pv_of hK hN hP hD [0, 1, 2, 3, 4, 5, 6, 7, 8, 9, 10, 11, 12, 13, 14, 15, 16] rfl rfl 4 0 rfl rfl) rfl rfl hl.1 rfl (lv_room (Nat.le_of_ble_eq_true rfl)) dX4_late_13 ⟨Nat.zero_le _, Nat.zero_le _⟩) hP hD hS hA rfl rfl rfl (by decide) (fun _ => rfl) rfl (fun u13 H locs hu hP hD hS => ?_)
    replace hw := hw u13 hu
    have hP : va_P D vwCl (wR cI cZ q (nI n) se li wm ch ne np al u13.1 kn sp py il fl wa bo so sd ro cp nr u13.2.1 u13.2.2.1 u13.2.2.2.1 u13.2.2.2.2) H := hP
    have hD : va_D A (wR cI cZ q (nI n) se li wm ch ne np al u13.1 kn sp py il fl wa bo so sd ro cp nr u13.2.1 u13.2.2.1 u13.2.2.2.1 u13.2.2.2.2) := hD
    refine lv_aload_n hx hb dX4_late_16 rfl (lv_at hl 0 rfl) ?_
    refine va_get (D := D) (ci := 4) (v := .ref (q 16)) (C := RX4) (T := TX4) (N := 25) hx hb hts hin4 hown hK hP 0 rfl rfl 24 (by decide) f63 (fun _ h9 => h9) rfl dX4_late_17 ?_
    refine lv_iload_n hx hb dX4_late_20 rfl (lv_at hl 1 rfl) ?_
    obtain ⟨hv, hw⟩ := hw
    refine va_iald hx hb hK hP 16 0 rfl rfl hv dX4_late_21 ?_
    exact hret _ (u13.1, u13.2.1, u13.2.2.1, u13.2.2.2.1, u13.2.2.2.2) _ _ _ _ hw rfl hP hD hS dX4_late_22
  · replace hw := hw.1 hc
    refine lv_bipush (v := (-2 : Int32)) hx hb dX4_late_7 (by decide) ?_
    exact hret _ (wo, ti, on, he, la) _ _ _ _ hw rfl hP hD hS dX4_late_9
set_option maxHeartbeats 4000000 in
set_option maxRecDepth 100000 in
theorem c_X4_worn (l : Launch) (D : va_G) (cI cZ : ClassId) (q : Nat → Nat) (n : Nat) (se : Int32) (li : Int32) (wm : Int32) (ch : Int32) (ne : Int32) (np : Int32) (al : Int32) (wo : Int32) (kn : Nat → Int32) (sp : Nat → Int32) (py : Nat → Int32) (il : Nat → Int32) (fl : Nat → Int32) (wa : Nat → Int32) (bo : Nat → Int32) (so : Nat → Int32) (sd : Nat → Int32) (ro : Nat → Int32) (cp : Nat → Int32) (nr : Nat → Int32) (ti : Nat → Int32) (on : Nat → Int32) (he : Nat → Int32) (la : Nat → Int32) (hn : n ≤ 6) (h0 : ∀ h, h < 16 → inR (sd h) 0 9 = true) : MI l yX4_worn wsX4_worn ({ frames := 10, cells := 0, slots := 0, locals := 400 }) D cI cZ [.ref (q 0)] (wR cI cZ q (nI n) se li wm ch ne np al wo kn sp py il fl wa bo so sd ro cp nr ti on he la) (fun u : Int32 × (Nat → Int32) × (Nat → Int32) × (Nat → Int32) × (Nat → Int32) => (wR cI cZ q (nI n) se li wm ch ne np al u.1 kn sp py il fl wa bo so sd ro cp nr u.2.1 u.2.2.1 u.2.2.2.1 u.2.2.2.2)) (fun r u => r = (gtF n kn bo so sd li (ti, on, he) la 16).1 ∧ u = (gtF n kn bo so sd li (ti, on, he) la 16)) := by
  refine MI_of (cc := cX4_worn) (maxL := 1) (ty := .int) (by decide) rfl (Nat.le_of_ble_eq_true rfl) (fun p e s m args below meth c A Q hx hb hml hown hts hK hN hA hret H locs ls hl hP hD hS => ?_)
  have hown : s.vm.findClass RX4 = some m.cls := hown
  have hl : lv_has ls 1 [(0, .ref (q 0))] := hl
  have hin4 : ∀ w ∈ u_ws RX4 TX4 25, w ∈ wsX4_worn := fun w h => List.mem_cons_of_mem _ (List.mem_append_right _ h)
  have f125 : (Cond.fieldLink RX4 125 "GlassBoothsModel" "worn" "I").before args s = true := hts _ (by decide +kernel)
  have hw := h_X4_worn n se li wm ch ne np al kn sp py il fl wa bo so sd ro cp nr wo ti on he la  hn h0  
  unfold v_X4_worn_0 at hw
  refine lv_aload_n hx hb dX4_worn_0 rfl (lv_at hl 0 rfl) ?_
  refine lv_bipush (v := (15 : Int32)) hx hb dX4_worn_1 (by decide) ?_
  obtain ⟨hp0, hp1, hw⟩ := hw
  refine zc_v (fun u => (wR cI cZ q (nI n) se li wm ch ne np al u.1 kn sp py il fl wa bo so sd ro cp nr u.2.1 u.2.2.1 u.2.2.2.1 u.2.2.2.2)) [0, 1, 2, 3, 4, 5, 6, 7, 8, 9, 10, 11, 12, 13, 14, 15, 16] [] [0, 1, 2, 3, 4, 5, 6, 7, 8, 9, 10, 11, 12, 13, 14, 15, 16] (va_runV (As := [.int (15 : Int32)]) (rest := []) ⟨hx, hb, hml, hown, hts⟩ ((c_X4_goTo l D cI cZ q n se li wm ch ne np al wo kn sp py il fl wa bo so sd ro cp nr ti on he la (15 : Int32) hn hp0 hp1) H.size) (cwV 1 hts gX4_worn_X4_goTo rfl rfl rfl (by decide +kernel) ⟨Nat.le_of_ble_eq_true rfl, Nat.le_of_ble_eq_true rfl⟩) (pv_of hK hN hP hD [0, 1, 2, 3, 4, 5, 6, 7, 8, 9, 10, 11, 12, 13, 14, 15, 16] rfl rfl 4 0 rfl rfl) rfl rfl hl.1 rfl (lv_room (Nat.le_of_ble_eq_true rfl)) dX4_worn_3 ⟨Nat.zero_le _, Nat.zero_le _⟩) hP hD hS hA rfl rfl rfl (by decide) (fun _ => rfl) rfl (fun u3 H locs hu hP hD hS => ?_)
  replace hw := hw u3 hu
  have hP : va_P D vwCl (wR cI cZ q (nI n) se li wm ch ne np al u3.1 kn sp py il fl wa bo so sd ro cp nr u3.2.1 u3.2.2.1 u3.2.2.2.1 u3.2.2.2.2) H := hP
  have hD : va_D A (wR cI cZ q (nI n) se li wm ch ne np al u3.1 kn sp py il fl wa bo so sd ro cp nr u3.2.1 u3.2.2.1 u3.2.2.2.1 u3.2.2.2.2) := hD
  refine lv_aload_n hx hb dX4_worn_6 rfl (lv_at hl 0 rfl) ?_
  refine va_get (D := D) (ci := 4) (v := .int u3.1) (C := RX4) (T := TX4) (N := 25) hx hb hts hin4 hown hK hP 0 rfl rfl 23 (by decide) f125 (fun _ h9 => h9) rfl dX4_worn_7 ?_
  exact hret _ (u3.1, u3.2.1, u3.2.2.1, u3.2.2.2.1, u3.2.2.2.2) _ _ _ _ hw rfl hP hD hS dX4_worn_10
set_option maxHeartbeats 4000000 in
set_option maxRecDepth 100000 in
theorem c_X4_count (l : Launch) (D : va_G) (cI cZ : ClassId) (q : Nat → Nat) (n : Nat) (se : Int32) (li : Int32) (wm : Int32) (ch : Int32) (ne : Int32) (np : Int32) (al : Int32) (wo : Int32) (kn : Nat → Int32) (sp : Nat → Int32) (py : Nat → Int32) (il : Nat → Int32) (fl : Nat → Int32) (wa : Nat → Int32) (bo : Nat → Int32) (so : Nat → Int32) (sd : Nat → Int32) (ro : Nat → Int32) (cp : Nat → Int32) (nr : Nat → Int32) (ti : Nat → Int32) (on : Nat → Int32) (he : Nat → Int32) (la : Nat → Int32) (a1 : Int32) (hn : n ≤ 6) : MI l yX4_count wsX4_count ({ frames := 4, cells := 0, slots := 0, locals := 160 }) D cI cZ [.ref (q 0), .int a1] (wR cI cZ q (nI n) se li wm ch ne np al wo kn sp py il fl wa bo so sd ro cp nr ti on he la) (fun _ : Unit => (wR cI cZ q (nI n) se li wm ch ne np al wo kn sp py il fl wa bo so sd ro cp nr ti on he la)) (fun r _ => r = rcO n il bo so se a1) := by
  refine MI_of (cc := cX4_count) (maxL := 4) (ty := .int) (by decide) rfl (Nat.le_of_ble_eq_true rfl) (fun p e s m args below meth c A Q hx hb hml hown hts hK hN hA hret H locs ls hl hP hD hS => ?_)
  have hown : s.vm.findClass RX4 = some m.cls := hown
  have hl : lv_has ls 4 [(0, .ref (q 0)), (1, .int a1)] := hl
  have hin4 : ∀ w ∈ u_ws RX4 TX4 25, w ∈ wsX4_count := fun w h => List.mem_cons_of_mem _ (List.mem_append_right _ h)
  have f66 : (Cond.fieldLink RX4 66 "GlassBoothsModel" "people" "I").before args s = true := hts _ (by decide +kernel)
  have f29 : (Cond.fieldLink RX4 29 "GlassBoothsModel" "seats" "I").before args s = true := hts _ (by decide +kernel)
  have f36 : (Cond.fieldLink RX4 36 "GlassBoothsModel" "spoken" "[I").before args s = true := hts _ (by decide +kernel)
  have f19 : (Cond.fieldLink RX4 19 "GlassBoothsModel" "isIll" "[Z").before args s = true := hts _ (by decide +kernel)
  obtain ⟨K43, k43i, k43e⟩ := ex_K2 (fun (x2 : Int32) (x3 : Int32) => ∀ (H : Heap) (locs : List Loc) (ls : Array Slot), lv_has ls 4 [(0, .ref (q 0)), (2, .int x2), (3, .int x3)] → va_P D vwCl (wR cI cZ q (nI n) se li wm ch ne np al wo kn sp py il fl wa bo so sd ro cp nr ti on he la) H → va_D A (wR cI cZ q (nI n) se li wm ch ne np al wo kn sp py il fl wa bo so sd ro cp nr ti on he la) → va_S A s.heap H locs → W p l e (headSpec wsX4_count ({ frames := 4, cells := 0, slots := 0, locals := 160 })).room s m args below meth c H locs 0 0 Q (F0 m 43 ls []))
  obtain ⟨K83, k83i, k83e⟩ := ex_K2 (fun (x2 : Int32) (x3 : Int32) => ∀ (H : Heap) (locs : List Loc) (ls : Array Slot), lv_has ls 4 [(0, .ref (q 0)), (2, .int x2), (3, .int x3)] → va_P D vwCl (wR cI cZ q (nI n) se li wm ch ne np al wo kn sp py il fl wa bo so sd ro cp nr ti on he la) H → va_D A (wR cI cZ q (nI n) se li wm ch ne np al wo kn sp py il fl wa bo so sd ro cp nr ti on he la) → va_S A s.heap H locs → W p l e (headSpec wsX4_count ({ frames := 4, cells := 0, slots := 0, locals := 160 })).room s m args below meth c H locs 0 0 Q (F0 m 83 ls []))
  have J66 : ∀ x3 s0 s1, v_X4_count_66 n se li wm ch ne np al wo kn sp py il fl wa bo so sd ro cp nr ti on he la (fun r _ => r = rcO n il bo so se a1) K43 K83 x3 s0 s1 → ∀ (H : Heap) (locs : List Loc) (ls : Array Slot), lv_has ls 4 [(0, .ref (q 0)), (3, .int x3)] → va_P D vwCl (wR cI cZ q (nI n) se li wm ch ne np al wo kn sp py il fl wa bo so sd ro cp nr ti on he la) H → va_D A (wR cI cZ q (nI n) se li wm ch ne np al wo kn sp py il fl wa bo so sd ro cp nr ti on he la) → va_S A s.heap H locs → W p l e (headSpec wsX4_count ({ frames := 4, cells := 0, slots := 0, locals := 160 })).room s m args below meth c H locs 0 0 Q (F0 m 66 ls [.int s0, .int s1]) := by
    intro x3 s0 s1 hw
    intro H locs ls hl hP hD hS
    unfold v_X4_count_66 at hw
    refine lv_iadd hx hb dX4_count_66 ?_
    refine lv_istore_n (lv' := [(2, .int (s1 + s0)), (0, .ref (q 0)), (3, .int x3)]) hx hb dX4_count_67 rfl hl (by decide) rfl (fun ls hl => ?_)
    refine lv_iinc (v := x3 + 1) (lv' := [(3, .int (x3 + 1)), (2, .int (s1 + s0)), (0, .ref (q 0))]) hx hb dX4_count_68 hl (k := 2) rfl rfl (by decide) rfl (fun ls hl => ?_)
    refine lv_goto (tgt := 43) hx hb dX4_count_71 (by decide) ?_
    exact k43e _ _ hw _ _ _ (lv_sub hl [2, 1, 0] rfl) hP hD hS
  have R43 : ∀ x2 x3, v_X4_count_43 n se li wm ch ne np al wo kn sp py il fl wa bo so sd ro cp nr ti on he la (fun r _ => r = rcO n il bo so se a1) K43 K83 x2 x3 → K43 x2 x3 := by
    intro x2 x3 hw
    refine k43i _ _ ?_
    intro H locs ls hl hP hD hS
    unfold v_X4_count_43 at hw
    refine lv_iload_n hx hb dX4_count_43 rfl (lv_at hl 2 rfl) ?_
    refine lv_aload_n hx hb dX4_count_44 rfl (lv_at hl 0 rfl) ?_
    refine va_get (D := D) (ci := 4) (v := .int (nI n)) (C := RX4) (T := TX4) (N := 25) hx hb hts hin4 hown hK hP 0 rfl rfl 0 (by decide) f66 (fun _ h9 => h9) rfl dX4_count_45 ?_
    refine lv_icmp_ge (tgt := 74) hx hb dX4_count_48 (by decide) (fun hc => ?_) (fun hc => ?_)
    · replace hw := hw.1 hc
      refine lv_iload_n hx hb dX4_count_74 rfl (lv_at hl 1 rfl) ?_
      exact hret _ () _ _ _ _ hw rfl hP hD hS dX4_count_75
    · replace hw := hw.2 hc
      refine lv_iload_n hx hb dX4_count_51 rfl (lv_at hl 1 rfl) ?_
      refine lv_aload_n hx hb dX4_count_52 rfl (lv_at hl 0 rfl) ?_
      refine va_get (D := D) (ci := 4) (v := .ref (q 4)) (C := RX4) (T := TX4) (N := 25) hx hb hts hin4 hown hK hP 0 rfl rfl 4 (by decide) f19 (fun _ h9 => h9) rfl dX4_count_53 ?_
      refine lv_iload_n hx hb dX4_count_56 rfl (lv_at hl 2 rfl) ?_
      obtain ⟨hv, hw⟩ := hw
      refine va_zald hx hb hK hP 4 1 rfl rfl hv dX4_count_57 ?_
      refine lv_if_eq (tgt := 65) hx hb dX4_count_58 (by decide) (fun hc => ?_) (fun hc => ?_)
      · replace hw := hw.1 hc
        refine lv_iconst (v := (0 : Int32)) hx hb dX4_count_65 (by decide) ?_
        exact J66 _ _ _ hw _ _ _ (lv_sub hl [0, 2] rfl) hP hD hS
      · replace hw := hw.2 hc
        refine lv_iconst (v := (1 : Int32)) hx hb dX4_count_61 (by decide) ?_
        refine lv_goto (tgt := 66) hx hb dX4_count_62 (by decide) ?_
        exact J66 _ _ _ hw _ _ _ (lv_sub hl [0, 2] rfl) hP hD hS
  have J105 : ∀ x3 s0 s1, v_X4_count_105 n se li wm ch ne np al wo kn sp py il fl wa bo so sd ro cp nr ti on he la (fun r _ => r = rcO n il bo so se a1) K43 K83 x3 s0 s1 → ∀ (H : Heap) (locs : List Loc) (ls : Array Slot), lv_has ls 4 [(0, .ref (q 0)), (3, .int x3)] → va_P D vwCl (wR cI cZ q (nI n) se li wm ch ne np al wo kn sp py il fl wa bo so sd ro cp nr ti on he la) H → va_D A (wR cI cZ q (nI n) se li wm ch ne np al wo kn sp py il fl wa bo so sd ro cp nr ti on he la) → va_S A s.heap H locs → W p l e (headSpec wsX4_count ({ frames := 4, cells := 0, slots := 0, locals := 160 })).room s m args below meth c H locs 0 0 Q (F0 m 105 ls [.int s0, .int s1]) := by
    intro x3 s0 s1 hw
    intro H locs ls hl hP hD hS
    unfold v_X4_count_105 at hw
    refine lv_iadd hx hb dX4_count_105 ?_
    refine lv_istore_n (lv' := [(2, .int (s1 + s0)), (0, .ref (q 0)), (3, .int x3)]) hx hb dX4_count_106 rfl hl (by decide) rfl (fun ls hl => ?_)
    refine lv_iinc (v := x3 + 1) (lv' := [(3, .int (x3 + 1)), (2, .int (s1 + s0)), (0, .ref (q 0))]) hx hb dX4_count_107 hl (k := 2) rfl rfl (by decide) rfl (fun ls hl => ?_)
    refine lv_goto (tgt := 83) hx hb dX4_count_110 (by decide) ?_
    exact k83e _ _ hw _ _ _ (lv_sub hl [2, 1, 0] rfl) hP hD hS
  have R83 : ∀ x2 x3, v_X4_count_83 n se li wm ch ne np al wo kn sp py il fl wa bo so sd ro cp nr ti on he la (fun r _ => r = rcO n il bo so se a1) K43 K83 x2 x3 → K83 x2 x3 := by
    intro x2 x3 hw
    refine k83i _ _ ?_
    intro H locs ls hl hP hD hS
    unfold v_X4_count_83 at hw
    refine lv_iload_n hx hb dX4_count_83 rfl (lv_at hl 2 rfl) ?_
    refine lv_bipush (v := (16 : Int32)) hx hb dX4_count_84 (by decide) ?_
    refine lv_icmp_ge (tgt := 113) hx hb dX4_count_86 (by decide) (fun hc => ?_) (fun hc => ?_)
    · replace hw := hw.1 hc
      refine lv_iload_n hx hb dX4_count_113 rfl (lv_at hl 1 rfl) ?_
      exact hret _ () _ _ _ _ hw rfl hP hD hS dX4_count_114
    · replace hw := hw.2 hc
      refine lv_iload_n hx hb dX4_count_89 rfl (lv_at hl 1 rfl) ?_
      refine lv_aload_n hx hb dX4_count_90 rfl (lv_at hl 0 rfl) ?_
      refine va_get (D := D) (ci := 4) (v := .ref (q 8)) (C := RX4) (T := TX4) (N := 25) hx hb hts hin4 hown hK hP 0 rfl rfl 9 (by decide) f36 (fun _ h9 => h9) rfl dX4_count_91 ?_
      refine lv_iload_n hx hb dX4_count_94 rfl (lv_at hl 2 rfl) ?_
      obtain ⟨hv, hw⟩ := hw
      refine va_iald hx hb hK hP 8 0 rfl rfl hv dX4_count_95 ?_
      refine lv_iconst (v := (-1 : Int32)) hx hb dX4_count_96 (by decide) ?_
      refine lv_icmp_ne (tgt := 104) hx hb dX4_count_97 (by decide) (fun hc => ?_) (fun hc => ?_)
      · replace hw := hw.2 hc
        refine lv_iconst (v := (1 : Int32)) hx hb dX4_count_104 (by decide) ?_
        exact J105 _ _ _ hw _ _ _ (lv_sub hl [0, 2] rfl) hP hD hS
      · replace hw := hw.1 hc
        refine lv_iconst (v := (0 : Int32)) hx hb dX4_count_100 (by decide) ?_
        refine lv_goto (tgt := 105) hx hb dX4_count_101 (by decide) ?_
        exact J105 _ _ _ hw _ _ _ (lv_sub hl [0, 2] rfl) hP hD hS
  have hw := h_X4_count n se li wm ch ne np al wo kn sp py il fl wa bo so sd ro cp nr ti on he la  a1 hn  K43 K83 R43 R83
  unfold v_X4_count_0 at hw
  refine lv_iconst (v := (0 : Int32)) hx hb dX4_count_0 (by decide) ?_
  refine lv_istore_n (lv' := [(2, .int (0 : Int32)), (0, .ref (q 0)), (1, .int a1)]) hx hb dX4_count_1 rfl hl (by decide) rfl (fun ls hl => ?_)
  refine lv_iload_n hx hb dX4_count_2 rfl (lv_at hl 2 rfl) ?_
  by_cases hc0 : a1 = 0
  · refine lv_tableIn (tgt := 36) (x := a1) hx hb dX4_count_3 (by rw [hc0]; decide) (by rw [hc0]; decide) (by rw [hc0]; rfl) (by decide) ?_
    replace hw := hw.1 hc0
    refine lv_aload_n hx hb dX4_count_36 rfl (lv_at hl 1 rfl) ?_
    refine va_get (D := D) (ci := 4) (v := .int (nI n)) (C := RX4) (T := TX4) (N := 25) hx hb hts hin4 hown hK hP 0 rfl rfl 0 (by decide) f66 (fun _ h9 => h9) rfl dX4_count_37 ?_
    exact hret _ () _ _ _ _ hw rfl hP hD hS dX4_count_40
  · by_cases hc1 : a1 = 1
    · refine lv_tableIn (tgt := 41) (x := a1) hx hb dX4_count_3 (by rw [hc1]; decide) (by rw [hc1]; decide) (by rw [hc1]; rfl) (by decide) ?_
      replace hw := hw.2.1 hc1
      refine lv_iconst (v := (0 : Int32)) hx hb dX4_count_41 (by decide) ?_
      refine lv_istore_n (lv' := [(3, .int (0 : Int32)), (2, .int (0 : Int32)), (0, .ref (q 0)), (1, .int a1)]) hx hb dX4_count_42 rfl hl (by decide) rfl (fun ls hl => ?_)
      exact k43e _ _ hw _ _ _ (lv_sub hl [2, 1, 0] rfl) hP hD hS
    · by_cases hc2 : a1 = 2
      · refine lv_tableIn (tgt := 76) (x := a1) hx hb dX4_count_3 (by rw [hc2]; decide) (by rw [hc2]; decide) (by rw [hc2]; rfl) (by decide) ?_
        replace hw := hw.2.2.1 hc2
        refine lv_aload_n hx hb dX4_count_76 rfl (lv_at hl 1 rfl) ?_
        refine zc_i (fun u => (wR cI cZ q (nI n) se li wm ch ne np al wo kn sp py il fl wa bo so sd ro cp nr ti on he la)) [0, 1, 2, 3, 4, 5, 6, 7, 8, 9, 10, 11, 12, 13, 14, 15, 16] [] [0, 1, 2, 3, 4, 5, 6, 7, 8, 9, 10, 11, 12, 13, 14, 15, 16] (va_runV (As := []) (rest := []) ⟨hx, hb, hml, hown, hts⟩ ((c_X4_seated l D cI cZ q n se li wm ch ne np al wo kn sp py il fl wa bo so sd ro cp nr ti on he la hn ) H.size) (cwV 0 hts gX4_count_X4_seated rfl rfl rfl (by decide +kernel) ⟨Nat.le_of_ble_eq_true rfl, Nat.le_of_ble_eq_true rfl⟩) (pv_of hK hN hP hD [0, 1, 2, 3, 4, 5, 6, 7, 8, 9, 10, 11, 12, 13, 14, 15, 16] rfl rfl 4 0 rfl rfl) rfl rfl hl.1 rfl (lv_room (Nat.le_of_ble_eq_true rfl)) dX4_count_77 ⟨Nat.zero_le _, Nat.zero_le _⟩) hP hD hS hA rfl rfl rfl (by decide) (fun _ => rfl) rfl (fun r u H locs hu hP hD hS => ?_)
        subst hu
        have hP : va_P D vwCl (wR cI cZ q (nI n) se li wm ch ne np al wo kn sp py il fl wa bo so sd ro cp nr ti on he la) H := hP
        have hD : va_D A (wR cI cZ q (nI n) se li wm ch ne np al wo kn sp py il fl wa bo so sd ro cp nr ti on he la) := hD
        exact hret _ () _ _ _ _ hw rfl hP hD hS dX4_count_80
      · by_cases hc3 : a1 = 3
        · refine lv_tableIn (tgt := 81) (x := a1) hx hb dX4_count_3 (by rw [hc3]; decide) (by rw [hc3]; decide) (by rw [hc3]; rfl) (by decide) ?_
          replace hw := hw.2.2.2.1 hc3
          refine lv_iconst (v := (0 : Int32)) hx hb dX4_count_81 (by decide) ?_
          refine lv_istore_n (lv' := [(3, .int (0 : Int32)), (2, .int (0 : Int32)), (0, .ref (q 0)), (1, .int a1)]) hx hb dX4_count_82 rfl hl (by decide) rfl (fun ls hl => ?_)
          exact k83e _ _ hw _ _ _ (lv_sub hl [2, 1, 0] rfl) hP hD hS
        · by_cases hc4 : a1 = 4
          · refine lv_tableIn (tgt := 115) (x := a1) hx hb dX4_count_3 (by rw [hc4]; decide) (by rw [hc4]; decide) (by rw [hc4]; rfl) (by decide) ?_
            replace hw := hw.2.2.2.2.1 hc4
            refine lv_aload_n hx hb dX4_count_115 rfl (lv_at hl 1 rfl) ?_
            refine va_get (D := D) (ci := 4) (v := .int se) (C := RX4) (T := TX4) (N := 25) hx hb hts hin4 hown hK hP 0 rfl rfl 7 (by decide) f29 (fun _ h9 => h9) rfl dX4_count_116 ?_
            exact hret _ () _ _ _ _ hw rfl hP hD hS dX4_count_119
          · refine lv_tableOut (tgt := 120) (x := a1) hx hb dX4_count_3 (sw_out hc0 hc1 hc2 hc3 hc4) (by decide) ?_
            replace hw := hw.2.2.2.2.2 ⟨hc0, hc1, hc2, hc3, hc4⟩
            refine lv_bipush (v := (-3 : Int32)) hx hb dX4_count_120 (by decide) ?_
            exact hret _ () _ _ _ _ hw rfl hP hD hS dX4_count_122
