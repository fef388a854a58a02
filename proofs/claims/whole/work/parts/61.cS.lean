set_option maxHeartbeats 4000000 in
set_option maxRecDepth 100000 in
theorem c_X2_prepare (l : Launch) (D : va_G) (cI cZ : ClassId) (q : Nat → Nat) (os : Int32) (fl : Int32) (wa : Int32) (fo : Int32) (sb : Int32) (lp : Int32) (fm : Int32) (pn : Int32) (tr : Nat → Int32) (fs : Nat → Int32) (sk : Nat → Int32) (ct : Nat → Int32) (nt : Nat → Int32) (n : Nat) (il : Int32) (kn : Nat → Int32) (sp : Nat → Int32) (py : Nat → Int32) (bo : Nat → Int32) (a1 : Int32) (a2 : Int32) (a3 : Int32) (hn : n ≤ 6) : MV l yX2_prepare wsX2_prepare ({ frames := 4, cells := 0, slots := 0, locals := 160 }) D cI cZ [.ref (q 5), .int a1, .int a2, .int a3] (wS cI q os fl wa fo sb lp fm pn tr fs sk ct nt ++ wP cI q (nI n) il kn sp py bo) (fun u : Int32 × Int32 × Int32 × Int32 × Int32 × Int32 × Int32 × Int32 × (Nat → Int32) => (wS cI q u.1 u.2.1 u.2.2.1 u.2.2.2.1 u.2.2.2.2.1 u.2.2.2.2.2.1 u.2.2.2.2.2.2.1 u.2.2.2.2.2.2.2.1 tr u.2.2.2.2.2.2.2.2 sk ct nt ++ wP cI q (nI n) il kn sp py bo)) (fun u => u = (prO a2 a3 5, a1, a2, 0, 0, (-1), (-1), (-1), prF fs a2 a3 5)) := by
  refine MV_of (cc := cX2_prepare) (maxL := 5) (by decide) rfl (Nat.le_of_ble_eq_true rfl) (fun p e s m args below meth c A Q hx hb hml hown hts hK hN hA hret H locs ls hl hP hD hS => ?_)
  have hown : s.vm.findClass RX2 = some m.cls := hown
  have hl : lv_has ls 5 [(0, .ref (q 5)), (1, .int a1), (2, .int a2), (3, .int a3)] := hl
  have hin2 : ∀ w ∈ u_ws RX2 TX2 14, w ∈ wsX2_prepare := fun w h => List.mem_cons_of_mem _ (List.mem_append_right _ h)
  have f37 : (Cond.fieldLink RX2 37 "GlassBooths$Search" "floors" "I").before args s = true := hts _ (by decide +kernel)
  have f41 : (Cond.fieldLink RX2 41 "GlassBooths$Search" "wanted" "I").before args s = true := hts _ (by decide +kernel)
  have f44 : (Cond.fieldLink RX2 44 "GlassBooths$Search" "found" "I").before args s = true := hts _ (by decide +kernel)
  have f47 : (Cond.fieldLink RX2 47 "GlassBooths$Search" "sparedBits" "I").before args s = true := hts _ (by decide +kernel)
  have f50 : (Cond.fieldLink RX2 50 "GlassBooths$Search" "leastPay" "I").before args s = true := hts _ (by decide +kernel)
  have f53 : (Cond.fieldLink RX2 53 "GlassBooths$Search" "fewestMoved" "I").before args s = true := hts _ (by decide +kernel)
  have f56 : (Cond.fieldLink RX2 56 "GlassBooths$Search" "payOfNearest" "I").before args s = true := hts _ (by decide +kernel)
  have f59 : (Cond.fieldLink RX2 59 "GlassBooths$Search" "openSeats" "I").before args s = true := hts _ (by decide +kernel)
  have f15 : (Cond.fieldLink RX2 15 "GlassBooths$Search" "freeSeats" "[I").before args s = true := hts _ (by decide +kernel)
  obtain ⟨K43, k43i, k43e⟩ := ex_K12 (fun (x2 : Int32) (x3 : Int32) (x4 : Int32) (os_ : Int32) (fl_ : Int32) (wa_ : Int32) (fo_ : Int32) (sb_ : Int32) (lp_ : Int32) (fm_ : Int32) (pn_ : Int32) (fs_ : Nat → Int32) => ∀ (H : Heap) (locs : List Loc) (ls : Array Slot), lv_has ls 5 [(0, .ref (q 5)), (2, .int x2), (3, .int x3), (4, .int x4)] → va_P D vwCl (wS cI q os_ fl_ wa_ fo_ sb_ lp_ fm_ pn_ tr fs_ sk ct nt ++ wP cI q (nI n) il kn sp py bo) H → va_D A (wS cI q os_ fl_ wa_ fo_ sb_ lp_ fm_ pn_ tr fs_ sk ct nt ++ wP cI q (nI n) il kn sp py bo) → va_S A s.heap H locs → W p l e (headSpec wsX2_prepare ({ frames := 4, cells := 0, slots := 0, locals := 160 })).room s m args below meth c H locs 0 0 Q (F0 m 43 ls []))
  have J69 : ∀ x2 x3 x4 s0 s1 os_ fl_ wa_ fo_ sb_ lp_ fm_ pn_ fs_, v_X2_prepare_69 n tr sk ct nt il kn sp py bo (fun u => u = (prO a2 a3 5, a1, a2, 0, 0, (-1), (-1), (-1), prF fs a2 a3 5)) K43 x2 x3 x4 s0 s1 os_ fl_ wa_ fo_ sb_ lp_ fm_ pn_ fs_ → ∀ (H : Heap) (locs : List Loc) (ls : Array Slot), lv_has ls 5 [(0, .ref (q 5)), (2, .int x2), (3, .int x3), (4, .int x4)] → va_P D vwCl (wS cI q os_ fl_ wa_ fo_ sb_ lp_ fm_ pn_ tr fs_ sk ct nt ++ wP cI q (nI n) il kn sp py bo) H → va_D A (wS cI q os_ fl_ wa_ fo_ sb_ lp_ fm_ pn_ tr fs_ sk ct nt ++ wP cI q (nI n) il kn sp py bo) → va_S A s.heap H locs → W p l e (headSpec wsX2_prepare ({ frames := 4, cells := 0, slots := 0, locals := 160 })).room s m args below meth c H locs 0 0 Q (F0 m 69 ls [.int s0, .int s1, .ref (q 7)]) := by
    intro x2 x3 x4 s0 s1 os_ fl_ wa_ fo_ sb_ lp_ fm_ pn_ fs_ hw
    intro H locs ls hl hP hD hS
    unfold v_X2_prepare_69 at hw
    obtain ⟨hv, hw⟩ := hw
    refine va_iast hx hb hK hP hD hS 2 0 rfl rfl hv dX2_prepare_69 (fun H locs hP hD hS => ?_)
    have hP : va_P D vwCl (wS cI q os_ fl_ wa_ fo_ sb_ lp_ fm_ pn_ tr (upd fs_ s1.toNatClampNeg s0) sk ct nt ++ wP cI q (nI n) il kn sp py bo) H := hP
    have hD : va_D A (wS cI q os_ fl_ wa_ fo_ sb_ lp_ fm_ pn_ tr (upd fs_ s1.toNatClampNeg s0) sk ct nt ++ wP cI q (nI n) il kn sp py bo) := hD
    refine lv_aload_n hx hb dX2_prepare_70 rfl (lv_at hl 0 rfl) ?_
    refine lv_dup hx hb dX2_prepare_71 rfl ?_
    refine va_get (D := D) (ci := 2) (v := .int os_) (C := RX2) (T := TX2) (N := 14) hx hb hts hin2 hown hK hP 0 rfl rfl 6 (by decide) f59 (fun _ h9 => h9) rfl dX2_prepare_72 ?_
    refine lv_aload_n hx hb dX2_prepare_75 rfl (lv_at hl 0 rfl) ?_
    refine va_get (D := D) (ci := 2) (v := .ref (q 7)) (C := RX2) (T := TX2) (N := 14) hx hb hts hin2 hown hK hP 0 rfl rfl 2 (by decide) f15 (fun _ h9 => h9) rfl dX2_prepare_76 ?_
    refine lv_iload hx hb dX2_prepare_79 (lv_at hl 3 rfl) ?_
    obtain ⟨hv, hw⟩ := hw
    refine va_iald hx hb hK hP 2 0 rfl rfl hv dX2_prepare_81 ?_
    refine lv_iadd hx hb dX2_prepare_82 ?_
    refine va_put (D := D) (ci := 2) (v := .int (os_ + ((upd fs_ s1.toNatClampNeg s0) x4.toNatClampNeg))) (ty := .int) (C := RX2) (T := TX2) (N := 14) hx hb hts hin2 tyX2 tyX2_ok nmX2 hown hK hP hD hS 0 rfl rfl 6 (by decide) f59 (fun _ h9 => h9) rfl (by decide +kernel) rfl rfl (Nat.le_of_ble_eq_true rfl) dX2_prepare_83 (fun H locs hP hD hS => ?_)
    have hP : va_P D vwCl (wS cI q (os_ + ((upd fs_ s1.toNatClampNeg s0) x4.toNatClampNeg)) fl_ wa_ fo_ sb_ lp_ fm_ pn_ tr (upd fs_ s1.toNatClampNeg s0) sk ct nt ++ wP cI q (nI n) il kn sp py bo) H := hP
    have hD : va_D A (wS cI q (os_ + ((upd fs_ s1.toNatClampNeg s0) x4.toNatClampNeg)) fl_ wa_ fo_ sb_ lp_ fm_ pn_ tr (upd fs_ s1.toNatClampNeg s0) sk ct nt ++ wP cI q (nI n) il kn sp py bo) := hD
    refine lv_iinc (v := x4 + 1) (lv' := [(4, .int (x4 + 1)), (0, .ref (q 5)), (2, .int x2), (3, .int x3)]) hx hb dX2_prepare_86 hl (k := 3) rfl rfl (by decide) rfl (fun ls hl => ?_)
    refine lv_goto (tgt := 43) hx hb dX2_prepare_89 (by decide) ?_
    exact k43e _ _ _ _ _ _ _ _ _ _ _ _ hw _ _ _ (lv_sub hl [1, 2, 3, 0] rfl) hP hD hS
  have R43 : ∀ x2 x3 x4 os_ fl_ wa_ fo_ sb_ lp_ fm_ pn_ fs_, v_X2_prepare_43 n tr sk ct nt il kn sp py bo (fun u => u = (prO a2 a3 5, a1, a2, 0, 0, (-1), (-1), (-1), prF fs a2 a3 5)) K43 x2 x3 x4 os_ fl_ wa_ fo_ sb_ lp_ fm_ pn_ fs_ → K43 x2 x3 x4 os_ fl_ wa_ fo_ sb_ lp_ fm_ pn_ fs_ := by
    intro x2 x3 x4 os_ fl_ wa_ fo_ sb_ lp_ fm_ pn_ fs_ hw
    refine k43i _ _ _ _ _ _ _ _ _ _ _ _ ?_
    intro H locs ls hl hP hD hS
    unfold v_X2_prepare_43 at hw
    refine lv_iload hx hb dX2_prepare_43 (lv_at hl 3 rfl) ?_
    refine lv_iconst (v := (5 : Int32)) hx hb dX2_prepare_45 (by decide) ?_
    refine lv_icmp_ge (tgt := 92) hx hb dX2_prepare_46 (by decide) (fun hc => ?_) (fun hc => ?_)
    · replace hw := hw.1 hc
      exact hret (os_, fl_, wa_, fo_, sb_, lp_, fm_, pn_, fs_) _ _ _ _ hw hP hD hS dX2_prepare_92
    · replace hw := hw.2 hc
      refine lv_aload_n hx hb dX2_prepare_49 rfl (lv_at hl 0 rfl) ?_
      refine va_get (D := D) (ci := 2) (v := .ref (q 7)) (C := RX2) (T := TX2) (N := 14) hx hb hts hin2 hown hK hP 0 rfl rfl 2 (by decide) f15 (fun _ h9 => h9) rfl dX2_prepare_50 ?_
      refine lv_iload hx hb dX2_prepare_53 (lv_at hl 3 rfl) ?_
      refine lv_iload_n hx hb dX2_prepare_55 rfl (lv_at hl 1 rfl) ?_
      refine lv_iload hx hb dX2_prepare_56 (lv_at hl 3 rfl) ?_
      refine zc_i0 (va_runSN (As := [.int x2, .int x4]) (rest := [.int x4, .ref (q 7)]) ⟨hx, hb, hml, hown, hts⟩ ((c_X3_holds l D cI cZ x2 x4  ) H.size) ⟨va_cnB 2 hts gX2_prepare_X3_holds_n62 rfl rfl rfl (hN _ (List.mem_of_getElem? (i := 16) rfl)) (hts _ (by decide +kernel)) (by decide +kernel) ⟨Nat.le_of_ble_eq_true rfl, Nat.le_of_ble_eq_true rfl⟩, hts _ (by decide +kernel), trivial⟩ (ps_of hK hN hP hD [] rfl rfl) rfl rfl hl.1 rfl (lv_room (Nat.le_of_ble_eq_true rfl)) dX2_prepare_58 ⟨Nat.zero_le _, Nat.zero_le _⟩) hP hD hS hA (fun r u H locs hu hP hD hS => ?_)
      subst hu
      refine lv_if_eq (tgt := 68) hx hb dX2_prepare_61 (by decide) (fun hc => ?_) (fun hc => ?_)
      · replace hw := hw.1 hc
        refine lv_iconst (v := (0 : Int32)) hx hb dX2_prepare_68 (by decide) ?_
        exact J69 _ _ _ _ _ _ _ _ _ _ _ _ _ _ hw _ _ _ (lv_sub hl [0, 1, 2, 3] rfl) hP hD hS
      · replace hw := hw.2 hc
        refine lv_iload_n hx hb dX2_prepare_64 rfl (lv_at hl 2 rfl) ?_
        refine lv_goto (tgt := 69) hx hb dX2_prepare_65 (by decide) ?_
        exact J69 _ _ _ _ _ _ _ _ _ _ _ _ _ _ hw _ _ _ (lv_sub hl [0, 1, 2, 3] rfl) hP hD hS
  have hw := h_X2_prepare n tr sk ct nt il kn sp py bo os fl wa fo sb lp fm pn fs a1 a2 a3 hn  K43 R43
  unfold v_X2_prepare_0 at hw
  refine lv_aload_n hx hb dX2_prepare_0 rfl (lv_at hl 0 rfl) ?_
  refine lv_iload_n hx hb dX2_prepare_1 rfl (lv_at hl 1 rfl) ?_
  refine va_put (D := D) (ci := 2) (v := .int a1) (ty := .int) (C := RX2) (T := TX2) (N := 14) hx hb hts hin2 tyX2 tyX2_ok nmX2 hown hK hP hD hS 0 rfl rfl 7 (by decide) f37 (fun _ h9 => h9) rfl (by decide +kernel) rfl rfl (Nat.le_of_ble_eq_true rfl) dX2_prepare_2 (fun H locs hP hD hS => ?_)
  have hP : va_P D vwCl (wS cI q os a1 wa fo sb lp fm pn tr fs sk ct nt ++ wP cI q (nI n) il kn sp py bo) H := hP
  have hD : va_D A (wS cI q os a1 wa fo sb lp fm pn tr fs sk ct nt ++ wP cI q (nI n) il kn sp py bo) := hD
  refine lv_aload_n hx hb dX2_prepare_5 rfl (lv_at hl 0 rfl) ?_
  refine lv_iload_n hx hb dX2_prepare_6 rfl (lv_at hl 2 rfl) ?_
  refine va_put (D := D) (ci := 2) (v := .int a2) (ty := .int) (C := RX2) (T := TX2) (N := 14) hx hb hts hin2 tyX2 tyX2_ok nmX2 hown hK hP hD hS 0 rfl rfl 8 (by decide) f41 (fun _ h9 => h9) rfl (by decide +kernel) rfl rfl (Nat.le_of_ble_eq_true rfl) dX2_prepare_7 (fun H locs hP hD hS => ?_)
  have hP : va_P D vwCl (wS cI q os a1 a2 fo sb lp fm pn tr fs sk ct nt ++ wP cI q (nI n) il kn sp py bo) H := hP
  have hD : va_D A (wS cI q os a1 a2 fo sb lp fm pn tr fs sk ct nt ++ wP cI q (nI n) il kn sp py bo) := hD
  refine lv_aload_n hx hb dX2_prepare_10 rfl (lv_at hl 0 rfl) ?_
  refine lv_iconst (v := (0 : Int32)) hx hb dX2_prepare_11 (by decide) ?_
  refine va_put (D := D) (ci := 2) (v := .int (0 : Int32)) (ty := .int) (C := RX2) (T := TX2) (N := 14) hx hb hts hin2 tyX2 tyX2_ok nmX2 hown hK hP hD hS 0 rfl rfl 9 (by decide) f44 (fun _ h9 => h9) rfl (by decide +kernel) rfl rfl (Nat.le_of_ble_eq_true rfl) dX2_prepare_12 (fun H locs hP hD hS => ?_)
  have hP : va_P D vwCl (wS cI q os a1 a2 (0 : Int32) sb lp fm pn tr fs sk ct nt ++ wP cI q (nI n) il kn sp py bo) H := hP
  have hD : va_D A (wS cI q os a1 a2 (0 : Int32) sb lp fm pn tr fs sk ct nt ++ wP cI q (nI n) il kn sp py bo) := hD
  refine lv_aload_n hx hb dX2_prepare_15 rfl (lv_at hl 0 rfl) ?_
  refine lv_iconst (v := (0 : Int32)) hx hb dX2_prepare_16 (by decide) ?_
  refine va_put (D := D) (ci := 2) (v := .int (0 : Int32)) (ty := .int) (C := RX2) (T := TX2) (N := 14) hx hb hts hin2 tyX2 tyX2_ok nmX2 hown hK hP hD hS 0 rfl rfl 10 (by decide) f47 (fun _ h9 => h9) rfl (by decide +kernel) rfl rfl (Nat.le_of_ble_eq_true rfl) dX2_prepare_17 (fun H locs hP hD hS => ?_)
  have hP : va_P D vwCl (wS cI q os a1 a2 (0 : Int32) (0 : Int32) lp fm pn tr fs sk ct nt ++ wP cI q (nI n) il kn sp py bo) H := hP
  have hD : va_D A (wS cI q os a1 a2 (0 : Int32) (0 : Int32) lp fm pn tr fs sk ct nt ++ wP cI q (nI n) il kn sp py bo) := hD
  refine lv_aload_n hx hb dX2_prepare_20 rfl (lv_at hl 0 rfl) ?_
  refine lv_iconst (v := (-1 : Int32)) hx hb dX2_prepare_21 (by decide) ?_
  refine va_put (D := D) (ci := 2) (v := .int (-1 : Int32)) (ty := .int) (C := RX2) (T := TX2) (N := 14) hx hb hts hin2 tyX2 tyX2_ok nmX2 hown hK hP hD hS 0 rfl rfl 11 (by decide) f50 (fun _ h9 => h9) rfl (by decide +kernel) rfl rfl (Nat.le_of_ble_eq_true rfl) dX2_prepare_22 (fun H locs hP hD hS => ?_)
  have hP : va_P D vwCl (wS cI q os a1 a2 (0 : Int32) (0 : Int32) (-1 : Int32) fm pn tr fs sk ct nt ++ wP cI q (nI n) il kn sp py bo) H := hP
  have hD : va_D A (wS cI q os a1 a2 (0 : Int32) (0 : Int32) (-1 : Int32) fm pn tr fs sk ct nt ++ wP cI q (nI n) il kn sp py bo) := hD
  refine lv_aload_n hx hb dX2_prepare_25 rfl (lv_at hl 0 rfl) ?_
  refine lv_iconst (v := (-1 : Int32)) hx hb dX2_prepare_26 (by decide) ?_
  refine va_put (D := D) (ci := 2) (v := .int (-1 : Int32)) (ty := .int) (C := RX2) (T := TX2) (N := 14) hx hb hts hin2 tyX2 tyX2_ok nmX2 hown hK hP hD hS 0 rfl rfl 12 (by decide) f53 (fun _ h9 => h9) rfl (by decide +kernel) rfl rfl (Nat.le_of_ble_eq_true rfl) dX2_prepare_27 (fun H locs hP hD hS => ?_)
  have hP : va_P D vwCl (wS cI q os a1 a2 (0 : Int32) (0 : Int32) (-1 : Int32) (-1 : Int32) pn tr fs sk ct nt ++ wP cI q (nI n) il kn sp py bo) H := hP
  have hD : va_D A (wS cI q os a1 a2 (0 : Int32) (0 : Int32) (-1 : Int32) (-1 : Int32) pn tr fs sk ct nt ++ wP cI q (nI n) il kn sp py bo) := hD
  refine lv_aload_n hx hb dX2_prepare_30 rfl (lv_at hl 0 rfl) ?_
  refine lv_iconst (v := (-1 : Int32)) hx hb dX2_prepare_31 (by decide) ?_
  refine va_put (D := D) (ci := 2) (v := .int (-1 : Int32)) (ty := .int) (C := RX2) (T := TX2) (N := 14) hx hb hts hin2 tyX2 tyX2_ok nmX2 hown hK hP hD hS 0 rfl rfl 13 (by decide) f56 (fun _ h9 => h9) rfl (by decide +kernel) rfl rfl (Nat.le_of_ble_eq_true rfl) dX2_prepare_32 (fun H locs hP hD hS => ?_)
  have hP : va_P D vwCl (wS cI q os a1 a2 (0 : Int32) (0 : Int32) (-1 : Int32) (-1 : Int32) (-1 : Int32) tr fs sk ct nt ++ wP cI q (nI n) il kn sp py bo) H := hP
  have hD : va_D A (wS cI q os a1 a2 (0 : Int32) (0 : Int32) (-1 : Int32) (-1 : Int32) (-1 : Int32) tr fs sk ct nt ++ wP cI q (nI n) il kn sp py bo) := hD
  refine lv_aload_n hx hb dX2_prepare_35 rfl (lv_at hl 0 rfl) ?_
  refine lv_iconst (v := (0 : Int32)) hx hb dX2_prepare_36 (by decide) ?_
  refine va_put (D := D) (ci := 2) (v := .int (0 : Int32)) (ty := .int) (C := RX2) (T := TX2) (N := 14) hx hb hts hin2 tyX2 tyX2_ok nmX2 hown hK hP hD hS 0 rfl rfl 6 (by decide) f59 (fun _ h9 => h9) rfl (by decide +kernel) rfl rfl (Nat.le_of_ble_eq_true rfl) dX2_prepare_37 (fun H locs hP hD hS => ?_)
  have hP : va_P D vwCl (wS cI q (0 : Int32) a1 a2 (0 : Int32) (0 : Int32) (-1 : Int32) (-1 : Int32) (-1 : Int32) tr fs sk ct nt ++ wP cI q (nI n) il kn sp py bo) H := hP
  have hD : va_D A (wS cI q (0 : Int32) a1 a2 (0 : Int32) (0 : Int32) (-1 : Int32) (-1 : Int32) (-1 : Int32) tr fs sk ct nt ++ wP cI q (nI n) il kn sp py bo) := hD
  refine lv_iconst (v := (0 : Int32)) hx hb dX2_prepare_40 (by decide) ?_
  refine lv_istore (lv' := [(4, .int (0 : Int32)), (0, .ref (q 5)), (1, .int a1), (2, .int a2), (3, .int a3)]) hx hb dX2_prepare_41 hl (by decide) rfl (fun ls hl => ?_)
  exact k43e _ _ _ _ _ _ _ _ _ _ _ _ hw _ _ _ (lv_sub hl [1, 3, 4, 0] rfl) hP hD hS
set_option maxHeartbeats 4000000 in
set_option maxRecDepth 100000 in
theorem c_X2_shareKnown (l : Launch) (D : va_G) (cI cZ : ClassId) (q : Nat → Nat) (os : Int32) (fl : Int32) (wa : Int32) (fo : Int32) (sb : Int32) (lp : Int32) (fm : Int32) (pn : Int32) (tr : Nat → Int32) (fs : Nat → Int32) (sk : Nat → Int32) (ct : Nat → Int32) (nt : Nat → Int32) (n : Nat) (il : Int32) (kn : Nat → Int32) (sp : Nat → Int32) (py : Nat → Int32) (bo : Nat → Int32) (hn : n ≤ 6) : MV l yX2_shareKnown wsX2_shareKnown ({ frames := 6, cells := 0, slots := 0, locals := 240 }) D cI cZ [.ref (q 5)] (wS cI q os fl wa fo sb lp fm pn tr fs sk ct nt ++ wP cI q (nI n) il kn sp py bo) (fun u : (Nat → Int32) => (wS cI q os fl wa fo sb lp fm pn tr fs u ct nt ++ wP cI q (nI n) il kn sp py bo)) (fun u => u = shK kn tr sk n) := by
  refine MV_of (cc := cX2_shareKnown) (maxL := 3) (by decide) rfl (Nat.le_of_ble_eq_true rfl) (fun p e s m args below meth c A Q hx hb hml hown hts hK hN hA hret H locs ls hl hP hD hS => ?_)
  have hown : s.vm.findClass RX2 = some m.cls := hown
  have hl : lv_has ls 3 [(0, .ref (q 5))] := hl
  have hin1 : ∀ w ∈ u_ws RX1 TX1 6, w ∈ wsX2_shareKnown := fun w h => List.mem_cons_of_mem _ (List.mem_append_right _ h)
  have hin2 : ∀ w ∈ u_ws RX2 TX2 14, w ∈ wsX2_shareKnown := fun w h => List.mem_cons_of_mem _ (List.mem_append_left _ (List.mem_append_right _ h))
  have f18 : (Cond.fieldLink RX2 18 "GlassBooths$Search" "sharedKnown" "[I").before args s = true := hts _ (by decide +kernel)
  have f27 : (Cond.fieldLink RX2 27 "GlassBooths$Search" "people" "LGlassBooths$People;").before args s = true := hts _ (by decide +kernel)
  have f66 : (Cond.fieldLinkNest RX2 66 "GlassBooths$People" "size" "I" "GlassBooths").before args s = true := va_Nw.use rfl (hN _ (List.mem_of_getElem? (i := 1) rfl))
  have f9 : (Cond.fieldLink RX2 9 "GlassBooths$Search" "trial" "[I").before args s = true := hts _ (by decide +kernel)
  obtain ⟨K11, k11i, k11e⟩ := ex_K2 (fun (x1 : Int32) (sk_ : Nat → Int32) => ∀ (H : Heap) (locs : List Loc) (ls : Array Slot), lv_has ls 3 [(0, .ref (q 5)), (1, .int x1)] → va_P D vwCl (wS cI q os fl wa fo sb lp fm pn tr fs sk_ ct nt ++ wP cI q (nI n) il kn sp py bo) H → va_D A (wS cI q os fl wa fo sb lp fm pn tr fs sk_ ct nt ++ wP cI q (nI n) il kn sp py bo) → va_S A s.heap H locs → W p l e (headSpec wsX2_shareKnown ({ frames := 6, cells := 0, slots := 0, locals := 240 })).room s m args below meth c H locs 0 0 Q (F0 m 11 ls []))
  have J53 : ∀ x1 sk_, v_X2_shareKnown_53 n os fl wa fo sb lp fm pn tr fs ct nt il kn sp py bo (fun u => u = shK kn tr sk n) K11 x1 sk_ → ∀ (H : Heap) (locs : List Loc) (ls : Array Slot), lv_has ls 3 [(0, .ref (q 5)), (1, .int x1)] → va_P D vwCl (wS cI q os fl wa fo sb lp fm pn tr fs sk_ ct nt ++ wP cI q (nI n) il kn sp py bo) H → va_D A (wS cI q os fl wa fo sb lp fm pn tr fs sk_ ct nt ++ wP cI q (nI n) il kn sp py bo) → va_S A s.heap H locs → W p l e (headSpec wsX2_shareKnown ({ frames := 6, cells := 0, slots := 0, locals := 240 })).room s m args below meth c H locs 0 0 Q (F0 m 53 ls []) := by
    intro x1 sk_ hw
    intro H locs ls hl hP hD hS
    unfold v_X2_shareKnown_53 at hw
    refine lv_iinc (v := x1 + 1) (lv' := [(1, .int (x1 + 1)), (0, .ref (q 5))]) hx hb dX2_shareKnown_53 hl (k := 1) rfl rfl (by decide) rfl (fun ls hl => ?_)
    refine lv_goto (tgt := 11) hx hb dX2_shareKnown_56 (by decide) ?_
    exact k11e _ _ hw _ _ _ (lv_sub hl [1, 0] rfl) hP hD hS
  have R11 : ∀ x1 sk_, v_X2_shareKnown_11 n os fl wa fo sb lp fm pn tr fs ct nt il kn sp py bo (fun u => u = shK kn tr sk n) K11 x1 sk_ → K11 x1 sk_ := by
    intro x1 sk_ hw
    refine k11i _ _ ?_
    intro H locs ls hl hP hD hS
    unfold v_X2_shareKnown_11 at hw
    refine lv_iload_n hx hb dX2_shareKnown_11 rfl (lv_at hl 1 rfl) ?_
    refine lv_aload_n hx hb dX2_shareKnown_12 rfl (lv_at hl 0 rfl) ?_
    refine va_get (D := D) (ci := 2) (v := .ref (q 0)) (C := RX2) (T := TX2) (N := 14) hx hb hts hin2 hown hK hP 0 rfl rfl 0 (by decide) f27 (fun _ h9 => h9) rfl dX2_shareKnown_13 ?_
    refine va_getN (D := D) (ci := 1) (v := .int (nI n)) (C := RX1) (T := TX1) (N := 6) hx hb hts hin1 hown hK hP 6 rfl rfl 4 (by decide) f66 (fun _ h9 => h9) rfl dX2_shareKnown_16 ?_
    refine lv_icmp_ge (tgt := 59) hx hb dX2_shareKnown_19 (by decide) (fun hc => ?_) (fun hc => ?_)
    · replace hw := hw.1 hc
      exact hret sk_ _ _ _ _ hw hP hD hS dX2_shareKnown_59
    · replace hw := hw.2 hc
      refine lv_aload_n hx hb dX2_shareKnown_22 rfl (lv_at hl 0 rfl) ?_
      refine va_get (D := D) (ci := 2) (v := .ref (q 6)) (C := RX2) (T := TX2) (N := 14) hx hb hts hin2 hown hK hP 0 rfl rfl 1 (by decide) f9 (fun _ h9 => h9) rfl dX2_shareKnown_23 ?_
      refine lv_iload_n hx hb dX2_shareKnown_26 rfl (lv_at hl 1 rfl) ?_
      obtain ⟨hv, hw⟩ := hw
      refine va_iald hx hb hK hP 1 0 rfl rfl hv dX2_shareKnown_27 ?_
      refine lv_istore_n (lv' := [(2, .int (tr x1.toNatClampNeg)), (0, .ref (q 5)), (1, .int x1)]) hx hb dX2_shareKnown_28 rfl hl (by decide) rfl (fun ls hl => ?_)
      refine lv_iload_n hx hb dX2_shareKnown_29 rfl (lv_at hl 0 rfl) ?_
      refine zc_i0 (va_runSN (As := [.int (tr x1.toNatClampNeg)]) (rest := []) ⟨hx, hb, hml, hown, hts⟩ ((c_X3_isTongue l D cI cZ (tr x1.toNatClampNeg)  ) H.size) ⟨va_cnB 1 hts gX2_shareKnown_X3_isTongue_n98 rfl rfl rfl (hN _ (List.mem_of_getElem? (i := 18) rfl)) (hts _ (by decide +kernel)) (by decide +kernel) ⟨Nat.le_of_ble_eq_true rfl, Nat.le_of_ble_eq_true rfl⟩, hts _ (by decide +kernel), trivial⟩ (ps_of hK hN hP hD [] rfl rfl) rfl rfl hl.1 rfl (lv_room (Nat.le_of_ble_eq_true rfl)) dX2_shareKnown_30 ⟨Nat.zero_le _, Nat.zero_le _⟩) hP hD hS hA (fun r u H locs hu hP hD hS => ?_)
      subst hu
      refine lv_if_eq (tgt := 53) hx hb dX2_shareKnown_33 (by decide) (fun hc => ?_) (fun hc => ?_)
      · replace hw := hw.1 hc
        exact J53 _ _ hw _ _ _ (lv_sub hl [1, 2] rfl) hP hD hS
      · replace hw := hw.2 hc
        refine lv_aload_n hx hb dX2_shareKnown_36 rfl (lv_at hl 1 rfl) ?_
        refine va_get (D := D) (ci := 2) (v := .ref (q 8)) (C := RX2) (T := TX2) (N := 14) hx hb hts hin2 hown hK hP 0 rfl rfl 3 (by decide) f18 (fun _ h9 => h9) rfl dX2_shareKnown_37 ?_
        refine lv_iload_n hx hb dX2_shareKnown_40 rfl (lv_at hl 0 rfl) ?_
        refine lv_dup2_11 hx hb dX2_shareKnown_41 rfl rfl ?_
        obtain ⟨hv, hw⟩ := hw
        refine va_iald hx hb hK hP 3 0 rfl rfl hv dX2_shareKnown_42 ?_
        refine lv_aload_n hx hb dX2_shareKnown_43 rfl (lv_at hl 1 rfl) ?_
        refine va_get (D := D) (ci := 2) (v := .ref (q 0)) (C := RX2) (T := TX2) (N := 14) hx hb hts hin2 hown hK hP 0 rfl rfl 0 (by decide) f27 (fun _ h9 => h9) rfl dX2_shareKnown_44 ?_
        refine lv_iload_n hx hb dX2_shareKnown_47 rfl (lv_at hl 2 rfl) ?_
        refine zc_i (fun u => (wS cI q os fl wa fo sb lp fm pn tr fs sk_ ct nt ++ wP cI q (nI n) il kn sp py bo)) [6, 7, 8, 9, 10] [0, 1, 2, 3, 4, 5] [0, 1, 2, 3, 4, 5, 6, 7, 8, 9, 10] (va_runV (As := [.int x1]) (rest := [.int (sk_ (tr x1.toNatClampNeg).toNatClampNeg), .int (tr x1.toNatClampNeg), .ref (q 8)]) ⟨hx, hb, hml, hown, hts⟩ ((c_X1_knownBy l D cI cZ q n il kn sp py bo x1 hn ) H.size) (cwV 1 hts gX2_shareKnown_X1_knownBy rfl rfl rfl (by decide +kernel) ⟨Nat.le_of_ble_eq_true rfl, Nat.le_of_ble_eq_true rfl⟩) (pv_of hK hN hP hD [6, 7, 8, 9, 10] rfl rfl 1 0 rfl rfl) rfl rfl hl.1 rfl (lv_room (Nat.le_of_ble_eq_true rfl)) dX2_shareKnown_48 ⟨Nat.zero_le _, Nat.zero_le _⟩) hP hD hS hA rfl rfl rfl (by decide) (fun _ => rfl) rfl (fun r u H locs hu hP hD hS => ?_)
        subst hu
        have hP : va_P D vwCl (wS cI q os fl wa fo sb lp fm pn tr fs sk_ ct nt ++ wP cI q (nI n) il kn sp py bo) H := hP
        have hD : va_D A (wS cI q os fl wa fo sb lp fm pn tr fs sk_ ct nt ++ wP cI q (nI n) il kn sp py bo) := hD
        refine lv_iand hx hb dX2_shareKnown_51 ?_
        obtain ⟨hv, hw⟩ := hw
        refine va_iast hx hb hK hP hD hS 3 0 rfl rfl hv dX2_shareKnown_52 (fun H locs hP hD hS => ?_)
        have hP : va_P D vwCl (wS cI q os fl wa fo sb lp fm pn tr fs (upd sk_ (tr x1.toNatClampNeg).toNatClampNeg ((sk_ (tr x1.toNatClampNeg).toNatClampNeg) &&& (atP n kn 0 x1))) ct nt ++ wP cI q (nI n) il kn sp py bo) H := hP
        have hD : va_D A (wS cI q os fl wa fo sb lp fm pn tr fs (upd sk_ (tr x1.toNatClampNeg).toNatClampNeg ((sk_ (tr x1.toNatClampNeg).toNatClampNeg) &&& (atP n kn 0 x1))) ct nt ++ wP cI q (nI n) il kn sp py bo) := hD
        exact J53 _ _ hw _ _ _ (lv_sub hl [1, 2] rfl) hP hD hS
  have hw := h_X2_shareKnown n os fl wa fo sb lp fm pn tr fs ct nt il kn sp py bo sk  hn  K11 R11
  unfold v_X2_shareKnown_0 at hw
  refine lv_aload_n hx hb dX2_shareKnown_0 rfl (lv_at hl 0 rfl) ?_
  refine va_get (D := D) (ci := 2) (v := .ref (q 8)) (C := RX2) (T := TX2) (N := 14) hx hb hts hin2 hown hK hP 0 rfl rfl 3 (by decide) f18 (fun _ h9 => h9) rfl dX2_shareKnown_1 ?_
  refine lv_bipush (v := (31 : Int32)) hx hb dX2_shareKnown_4 (by decide) ?_
  obtain ⟨hp0, hw⟩ := hw
  refine zc_v (fun u => (wS cI q os fl wa fo sb lp fm pn tr fs u ct nt ++ wP cI q (nI n) il kn sp py bo)) [3] [0, 1, 2, 4, 5, 6, 7, 8, 9, 10] [0, 1, 2, 10, 3, 4, 5, 6, 7, 8, 9] (va_runS (As := [.ref (q 8), .int (31 : Int32)]) (rest := []) ⟨hx, hb, hml, hown, hts⟩ ((c_J7_fill_53178 l D cI cZ (q 8) 5 sk (31 : Int32)  hp0) H.size) (va_cwS 2 hts gX2_shareKnown_J7_fill_53178 rfl rfl rfl (by decide +kernel) ⟨Nat.le_of_ble_eq_true rfl, Nat.le_of_ble_eq_true rfl⟩) (ps_of hK hN hP hD [3] rfl rfl) rfl rfl hl.1 rfl (lv_room (Nat.le_of_ble_eq_true rfl)) dX2_shareKnown_6 ⟨Nat.zero_le _, Nat.zero_le _⟩) hP hD hS hA rfl rfl rfl (by decide) (fun _ => rfl) rfl (fun u H locs hu hP hD hS => ?_)
  subst hu
  have hP : va_P D vwCl (wS cI q os fl wa fo sb lp fm pn tr fs (fillA sk 5 (31 : Int32)) ct nt ++ wP cI q (nI n) il kn sp py bo) H := hP
  have hD : va_D A (wS cI q os fl wa fo sb lp fm pn tr fs (fillA sk 5 (31 : Int32)) ct nt ++ wP cI q (nI n) il kn sp py bo) := hD
  refine lv_iconst (v := (0 : Int32)) hx hb dX2_shareKnown_9 (by decide) ?_
  refine lv_istore_n (lv' := [(1, .int (0 : Int32)), (0, .ref (q 5))]) hx hb dX2_shareKnown_10 rfl hl (by decide) rfl (fun ls hl => ?_)
  exact k11e _ _ hw _ _ _ (lv_sub hl [1, 0] rfl) hP hD hS
set_option maxHeartbeats 4000000 in
set_option maxRecDepth 100000 in
theorem c_X2_reachesFloors (l : Launch) (D : va_G) (cI cZ : ClassId) (q : Nat → Nat) (os : Int32) (fl : Int32) (wa : Int32) (fo : Int32) (sb : Int32) (lp : Int32) (fm : Int32) (pn : Int32) (tr : Nat → Int32) (fs : Nat → Int32) (sk : Nat → Int32) (ct : Nat → Int32) (nt : Nat → Int32) (n : Nat) (il : Int32) (kn : Nat → Int32) (sp : Nat → Int32) (py : Nat → Int32) (bo : Nat → Int32) (a1 : Int32) (hn : n ≤ 6) (h0 : vp_in a1 5) : MI l yX2_reachesFloors wsX2_reachesFloors ({ frames := 4, cells := 0, slots := 0, locals := 160 }) D cI cZ [.ref (q 5), .int a1] (wS cI q os fl wa fo sb lp fm pn tr fs sk ct nt ++ wP cI q (nI n) il kn sp py bo) (fun _ : Unit => (wS cI q os fl wa fo sb lp fm pn tr fs sk ct nt ++ wP cI q (nI n) il kn sp py bo)) (fun r _ => r = bI (rcF fl wa sk a1)) := by
  refine MI_of (cc := cX2_reachesFloors) (maxL := 4) (ty := .boolean) (by decide) rfl (Nat.le_of_ble_eq_true rfl) (fun p e s m args below meth c A Q hx hb hml hown hts hK hN hA hret H locs ls hl hP hD hS => ?_)
  have hown : s.vm.findClass RX2 = some m.cls := hown
  have hl : lv_has ls 4 [(0, .ref (q 5)), (1, .int a1)] := hl
  have hin2 : ∀ w ∈ u_ws RX2 TX2 14, w ∈ wsX2_reachesFloors := fun w h => List.mem_cons_of_mem _ (List.mem_append_right _ h)
  have f18 : (Cond.fieldLink RX2 18 "GlassBooths$Search" "sharedKnown" "[I").before args s = true := hts _ (by decide +kernel)
  have f37 : (Cond.fieldLink RX2 37 "GlassBooths$Search" "floors" "I").before args s = true := hts _ (by decide +kernel)
  have f41 : (Cond.fieldLink RX2 41 "GlassBooths$Search" "wanted" "I").before args s = true := hts _ (by decide +kernel)
  obtain ⟨K13, k13i, k13e⟩ := ex_K3 (fun (x1 : Int32) (x2 : Int32) (x3 : Int32) => ∀ (H : Heap) (locs : List Loc) (ls : Array Slot), lv_has ls 4 [(0, .ref (q 5)), (1, .int x1), (2, .int x2), (3, .int x3)] → va_P D vwCl (wS cI q os fl wa fo sb lp fm pn tr fs sk ct nt ++ wP cI q (nI n) il kn sp py bo) H → va_D A (wS cI q os fl wa fo sb lp fm pn tr fs sk ct nt ++ wP cI q (nI n) il kn sp py bo) → va_S A s.heap H locs → W p l e (headSpec wsX2_reachesFloors ({ frames := 4, cells := 0, slots := 0, locals := 160 })).room s m args below meth c H locs 0 0 Q (F0 m 13 ls []))
  have J56 : ∀ x1 x2 x3, v_X2_reachesFloors_56 n os fl wa fo sb lp fm pn tr fs sk ct nt il kn sp py bo (fun r _ => r = bI (rcF fl wa sk a1)) K13 x1 x2 x3 → ∀ (H : Heap) (locs : List Loc) (ls : Array Slot), lv_has ls 4 [(0, .ref (q 5)), (1, .int x1), (2, .int x2), (3, .int x3)] → va_P D vwCl (wS cI q os fl wa fo sb lp fm pn tr fs sk ct nt ++ wP cI q (nI n) il kn sp py bo) H → va_D A (wS cI q os fl wa fo sb lp fm pn tr fs sk ct nt ++ wP cI q (nI n) il kn sp py bo) → va_S A s.heap H locs → W p l e (headSpec wsX2_reachesFloors ({ frames := 4, cells := 0, slots := 0, locals := 160 })).room s m args below meth c H locs 0 0 Q (F0 m 56 ls []) := by
    intro x1 x2 x3 hw
    intro H locs ls hl hP hD hS
    unfold v_X2_reachesFloors_56 at hw
    refine lv_iinc (v := x3 + 1) (lv' := [(3, .int (x3 + 1)), (0, .ref (q 5)), (1, .int x1), (2, .int x2)]) hx hb dX2_reachesFloors_56 hl (k := 3) rfl rfl (by decide) rfl (fun ls hl => ?_)
    refine lv_goto (tgt := 13) hx hb dX2_reachesFloors_59 (by decide) ?_
    exact k13e _ _ _ hw _ _ _ (lv_sub hl [1, 2, 3, 0] rfl) hP hD hS
  have R13 : ∀ x1 x2 x3, v_X2_reachesFloors_13 n os fl wa fo sb lp fm pn tr fs sk ct nt il kn sp py bo (fun r _ => r = bI (rcF fl wa sk a1)) K13 x1 x2 x3 → K13 x1 x2 x3 := by
    intro x1 x2 x3 hw
    refine k13i _ _ _ ?_
    intro H locs ls hl hP hD hS
    unfold v_X2_reachesFloors_13 at hw
    refine lv_iload_n hx hb dX2_reachesFloors_13 rfl (lv_at hl 3 rfl) ?_
    refine lv_iconst (v := (5 : Int32)) hx hb dX2_reachesFloors_14 (by decide) ?_
    refine lv_icmp_ge (tgt := 62) hx hb dX2_reachesFloors_15 (by decide) (fun hc => ?_) (fun hc => ?_)
    · replace hw := hw.1 hc
      refine lv_aload_n hx hb dX2_reachesFloors_62 rfl (lv_at hl 0 rfl) ?_
      refine va_get (D := D) (ci := 2) (v := .int fl) (C := RX2) (T := TX2) (N := 14) hx hb hts hin2 hown hK hP 0 rfl rfl 7 (by decide) f37 (fun _ h9 => h9) rfl dX2_reachesFloors_63 ?_
      refine lv_iload_n hx hb dX2_reachesFloors_66 rfl (lv_at hl 2 rfl) ?_
      refine lv_iconst (v := (-1 : Int32)) hx hb dX2_reachesFloors_67 (by decide) ?_
      refine lv_ixor hx hb dX2_reachesFloors_68 ?_
      refine lv_iand hx hb dX2_reachesFloors_69 ?_
      refine lv_if_ne (tgt := 77) hx hb dX2_reachesFloors_70 (by decide) (fun hc => ?_) (fun hc => ?_)
      · replace hw := hw.2 hc
        refine lv_iconst (v := (0 : Int32)) hx hb dX2_reachesFloors_77 (by decide) ?_
        exact hret _ () _ _ _ _ hw (by first | exact bI_nar _ | rfl | decide) hP hD hS dX2_reachesFloors_78
      · replace hw := hw.1 hc
        refine lv_iconst (v := (1 : Int32)) hx hb dX2_reachesFloors_73 (by decide) ?_
        refine lv_goto (tgt := 78) hx hb dX2_reachesFloors_74 (by decide) ?_
        exact hret _ () _ _ _ _ hw (by first | exact bI_nar _ | rfl | decide) hP hD hS dX2_reachesFloors_78
    · replace hw := hw.2 hc
      refine lv_iload_n hx hb dX2_reachesFloors_18 rfl (lv_at hl 3 rfl) ?_
      refine lv_iload_n hx hb dX2_reachesFloors_19 rfl (lv_at hl 1 rfl) ?_
      refine lv_icmp_eq (tgt := 56) hx hb dX2_reachesFloors_20 (by decide) (fun hc => ?_) (fun hc => ?_)
      · replace hw := hw.1 hc
        exact J56 _ _ _ hw _ _ _ (lv_sub hl [0, 1, 2, 3] rfl) hP hD hS
      · replace hw := hw.2 hc
        refine lv_aload_n hx hb dX2_reachesFloors_23 rfl (lv_at hl 0 rfl) ?_
        refine va_get (D := D) (ci := 2) (v := .int wa) (C := RX2) (T := TX2) (N := 14) hx hb hts hin2 hown hK hP 0 rfl rfl 8 (by decide) f41 (fun _ h9 => h9) rfl dX2_reachesFloors_24 ?_
        refine lv_iload_n hx hb dX2_reachesFloors_27 rfl (lv_at hl 3 rfl) ?_
        refine zc_i0 (va_runSN (As := [.int wa, .int x3]) (rest := []) ⟨hx, hb, hml, hown, hts⟩ ((c_X3_holds l D cI cZ wa x3  ) H.size) ⟨va_cnB 2 hts gX2_reachesFloors_X3_holds_n62 rfl rfl rfl (hN _ (List.mem_of_getElem? (i := 16) rfl)) (hts _ (by decide +kernel)) (by decide +kernel) ⟨Nat.le_of_ble_eq_true rfl, Nat.le_of_ble_eq_true rfl⟩, hts _ (by decide +kernel), trivial⟩ (ps_of hK hN hP hD [] rfl rfl) rfl rfl hl.1 rfl (lv_room (Nat.le_of_ble_eq_true rfl)) dX2_reachesFloors_28 ⟨Nat.zero_le _, Nat.zero_le _⟩) hP hD hS hA (fun r u H locs hu hP hD hS => ?_)
        subst hu
        refine lv_if_eq (tgt := 56) hx hb dX2_reachesFloors_31 (by decide) (fun hc => ?_) (fun hc => ?_)
        · replace hw := hw.1 hc
          exact J56 _ _ _ hw _ _ _ (lv_sub hl [0, 1, 2, 3] rfl) hP hD hS
        · replace hw := hw.2 hc
          refine lv_aload_n hx hb dX2_reachesFloors_34 rfl (lv_at hl 0 rfl) ?_
          refine va_get (D := D) (ci := 2) (v := .ref (q 8)) (C := RX2) (T := TX2) (N := 14) hx hb hts hin2 hown hK hP 0 rfl rfl 3 (by decide) f18 (fun _ h9 => h9) rfl dX2_reachesFloors_35 ?_
          refine lv_iload_n hx hb dX2_reachesFloors_38 rfl (lv_at hl 1 rfl) ?_
          obtain ⟨hv, hw⟩ := hw
          refine va_iald hx hb hK hP 3 0 rfl rfl hv dX2_reachesFloors_39 ?_
          refine lv_iload_n hx hb dX2_reachesFloors_40 rfl (lv_at hl 3 rfl) ?_
          refine zc_i0 (va_runSN (As := [.int (sk x1.toNatClampNeg), .int x3]) (rest := []) ⟨hx, hb, hml, hown, hts⟩ ((c_X3_holds l D cI cZ (sk x1.toNatClampNeg) x3  ) H.size) ⟨va_cnB 2 hts gX2_reachesFloors_X3_holds_n62 rfl rfl rfl (hN _ (List.mem_of_getElem? (i := 16) rfl)) (hts _ (by decide +kernel)) (by decide +kernel) ⟨Nat.le_of_ble_eq_true rfl, Nat.le_of_ble_eq_true rfl⟩, hts _ (by decide +kernel), trivial⟩ (ps_of hK hN hP hD [] rfl rfl) rfl rfl hl.1 rfl (lv_room (Nat.le_of_ble_eq_true rfl)) dX2_reachesFloors_41 ⟨Nat.zero_le _, Nat.zero_le _⟩) hP hD hS hA (fun r u H locs hu hP hD hS => ?_)
          subst hu
          refine lv_if_eq (tgt := 56) hx hb dX2_reachesFloors_44 (by decide) (fun hc => ?_) (fun hc => ?_)
          · replace hw := hw.1 hc
            exact J56 _ _ _ hw _ _ _ (lv_sub hl [0, 1, 2, 3] rfl) hP hD hS
          · replace hw := hw.2 hc
            refine lv_iload_n hx hb dX2_reachesFloors_47 rfl (lv_at hl 2 rfl) ?_
            refine lv_aload_n hx hb dX2_reachesFloors_48 rfl (lv_at hl 0 rfl) ?_
            refine va_get (D := D) (ci := 2) (v := .ref (q 8)) (C := RX2) (T := TX2) (N := 14) hx hb hts hin2 hown hK hP 0 rfl rfl 3 (by decide) f18 (fun _ h9 => h9) rfl dX2_reachesFloors_49 ?_
            refine lv_iload_n hx hb dX2_reachesFloors_52 rfl (lv_at hl 3 rfl) ?_
            obtain ⟨hv, hw⟩ := hw
            refine va_iald hx hb hK hP 3 0 rfl rfl hv dX2_reachesFloors_53 ?_
            refine lv_ior hx hb dX2_reachesFloors_54 ?_
            refine lv_istore_n (lv' := [(2, .int (x2 ||| (sk x3.toNatClampNeg))), (0, .ref (q 5)), (1, .int x1), (3, .int x3)]) hx hb dX2_reachesFloors_55 rfl hl (by decide) rfl (fun ls hl => ?_)
            exact J56 _ _ _ hw _ _ _ (lv_sub hl [1, 2, 0, 3] rfl) hP hD hS
  have hw := h_X2_reachesFloors n os fl wa fo sb lp fm pn tr fs sk ct nt il kn sp py bo  a1 hn h0 K13 R13
  unfold v_X2_reachesFloors_0 at hw
  refine lv_aload_n hx hb dX2_reachesFloors_0 rfl (lv_at hl 0 rfl) ?_
  refine va_get (D := D) (ci := 2) (v := .ref (q 8)) (C := RX2) (T := TX2) (N := 14) hx hb hts hin2 hown hK hP 0 rfl rfl 3 (by decide) f18 (fun _ h9 => h9) rfl dX2_reachesFloors_1 ?_
  refine lv_iload_n hx hb dX2_reachesFloors_4 rfl (lv_at hl 1 rfl) ?_
  obtain ⟨hv, hw⟩ := hw
  refine va_iald hx hb hK hP 3 0 rfl rfl hv dX2_reachesFloors_5 ?_
  refine lv_iconst (v := (1 : Int32)) hx hb dX2_reachesFloors_6 (by decide) ?_
  refine lv_iload_n hx hb dX2_reachesFloors_7 rfl (lv_at hl 1 rfl) ?_
  refine lv_ishl hx hb dX2_reachesFloors_8 ?_
  refine lv_ior hx hb dX2_reachesFloors_9 ?_
  refine lv_istore_n (lv' := [(2, .int ((sk a1.toNatClampNeg) ||| ((1 : Int32) <<< (a1 &&& 31)))), (0, .ref (q 5)), (1, .int a1)]) hx hb dX2_reachesFloors_10 rfl hl (by decide) rfl (fun ls hl => ?_)
  refine lv_iconst (v := (0 : Int32)) hx hb dX2_reachesFloors_11 (by decide) ?_
  refine lv_istore_n (lv' := [(3, .int (0 : Int32)), (2, .int ((sk a1.toNatClampNeg) ||| ((1 : Int32) <<< (a1 &&& 31)))), (0, .ref (q 5)), (1, .int a1)]) hx hb dX2_reachesFloors_12 rfl hl (by decide) rfl (fun ls hl => ?_)
  exact k13e _ _ _ hw _ _ _ (lv_sub hl [2, 3, 1, 0] rfl) hP hD hS
set_option maxHeartbeats 4000000 in
set_option maxRecDepth 100000 in
theorem c_X2_keepIfCheaper (l : Launch) (D : va_G) (cI cZ : ClassId) (q : Nat → Nat) (os : Int32) (fl : Int32) (wa : Int32) (fo : Int32) (sb : Int32) (lp : Int32) (fm : Int32) (pn : Int32) (tr : Nat → Int32) (fs : Nat → Int32) (sk : Nat → Int32) (ct : Nat → Int32) (nt : Nat → Int32) (n : Nat) (il : Int32) (kn : Nat → Int32) (sp : Nat → Int32) (py : Nat → Int32) (bo : Nat → Int32) (a1 : Int32) (hn : n ≤ 6) : MV l yX2_keepIfCheaper wsX2_keepIfCheaper ({ frames := 4, cells := 0, slots := 0, locals := 160 }) D cI cZ [.ref (q 5), .int a1] (wS cI q os fl wa fo sb lp fm pn tr fs sk ct nt ++ wP cI q (nI n) il kn sp py bo) (fun u : Int32 × (Nat → Int32) => (wS cI q os fl wa fo sb u.1 fm pn tr fs sk u.2 nt ++ wP cI q (nI n) il kn sp py bo)) (fun u => u = ((if kcC fo lp a1 = true then a1 else lp), (if kcC fo lp a1 = true then va_cpy tr ct 0 0 6 else ct))) := by
  refine MV_of (cc := cX2_keepIfCheaper) (maxL := 2) (by decide) rfl (Nat.le_of_ble_eq_true rfl) (fun p e s m args below meth c A Q hx hb hml hown hts hK hN hA hret H locs ls hl hP hD hS => ?_)
  have hown : s.vm.findClass RX2 = some m.cls := hown
  have hl : lv_has ls 2 [(0, .ref (q 5)), (1, .int a1)] := hl
  have hin2 : ∀ w ∈ u_ws RX2 TX2 14, w ∈ wsX2_keepIfCheaper := fun w h => List.mem_cons_of_mem _ (List.mem_append_right _ h)
  have f44 : (Cond.fieldLink RX2 44 "GlassBooths$Search" "found" "I").before args s = true := hts _ (by decide +kernel)
  have f50 : (Cond.fieldLink RX2 50 "GlassBooths$Search" "leastPay" "I").before args s = true := hts _ (by decide +kernel)
  have f9 : (Cond.fieldLink RX2 9 "GlassBooths$Search" "trial" "[I").before args s = true := hts _ (by decide +kernel)
  have f21 : (Cond.fieldLink RX2 21 "GlassBooths$Search" "cheapestTeam" "[I").before args s = true := hts _ (by decide +kernel)
  have J15 : ∀ x1 lp_ ct_, v_X2_keepIfCheaper_15 n os fl wa fo sb fm pn tr fs sk nt il kn sp py bo (fun u => u = ((if kcC fo lp a1 = true then a1 else lp), (if kcC fo lp a1 = true then va_cpy tr ct 0 0 6 else ct)))  x1 lp_ ct_ → ∀ (H : Heap) (locs : List Loc) (ls : Array Slot), lv_has ls 2 [(0, .ref (q 5)), (1, .int x1)] → va_P D vwCl (wS cI q os fl wa fo sb lp_ fm pn tr fs sk ct_ nt ++ wP cI q (nI n) il kn sp py bo) H → va_D A (wS cI q os fl wa fo sb lp_ fm pn tr fs sk ct_ nt ++ wP cI q (nI n) il kn sp py bo) → va_S A s.heap H locs → W p l e (headSpec wsX2_keepIfCheaper ({ frames := 4, cells := 0, slots := 0, locals := 160 })).room s m args below meth c H locs 0 0 Q (F0 m 15 ls []) := by
    intro x1 lp_ ct_ hw
    intro H locs ls hl hP hD hS
    unfold v_X2_keepIfCheaper_15 at hw
    refine lv_aload_n hx hb dX2_keepIfCheaper_15 rfl (lv_at hl 0 rfl) ?_
    refine lv_iload_n hx hb dX2_keepIfCheaper_16 rfl (lv_at hl 1 rfl) ?_
    refine va_put (D := D) (ci := 2) (v := .int x1) (ty := .int) (C := RX2) (T := TX2) (N := 14) hx hb hts hin2 tyX2 tyX2_ok nmX2 hown hK hP hD hS 0 rfl rfl 11 (by decide) f50 (fun _ h9 => h9) rfl (by decide +kernel) rfl rfl (Nat.le_of_ble_eq_true rfl) dX2_keepIfCheaper_17 (fun H locs hP hD hS => ?_)
    have hP : va_P D vwCl (wS cI q os fl wa fo sb x1 fm pn tr fs sk ct_ nt ++ wP cI q (nI n) il kn sp py bo) H := hP
    have hD : va_D A (wS cI q os fl wa fo sb x1 fm pn tr fs sk ct_ nt ++ wP cI q (nI n) il kn sp py bo) := hD
    refine lv_aload_n hx hb dX2_keepIfCheaper_20 rfl (lv_at hl 0 rfl) ?_
    refine va_get (D := D) (ci := 2) (v := .ref (q 6)) (C := RX2) (T := TX2) (N := 14) hx hb hts hin2 hown hK hP 0 rfl rfl 1 (by decide) f9 (fun _ h9 => h9) rfl dX2_keepIfCheaper_21 ?_
    refine lv_iconst (v := (0 : Int32)) hx hb dX2_keepIfCheaper_24 (by decide) ?_
    refine lv_aload_n hx hb dX2_keepIfCheaper_25 rfl (lv_at hl 0 rfl) ?_
    refine va_get (D := D) (ci := 2) (v := .ref (q 9)) (C := RX2) (T := TX2) (N := 14) hx hb hts hin2 hown hK hP 0 rfl rfl 4 (by decide) f21 (fun _ h9 => h9) rfl dX2_keepIfCheaper_26 ?_
    refine lv_iconst (v := (0 : Int32)) hx hb dX2_keepIfCheaper_29 (by decide) ?_
    refine lv_bipush (v := (6 : Int32)) hx hb dX2_keepIfCheaper_30 (by decide) ?_
    refine va_copyi hx hb (hml.trans hl.1.symm) hown (hts (.methodLink RX2 117 arraycopyName) (by decide +kernel)) (hts (.native arraycopyName) (by decide +kernel)) (hts (.static arraycopyName) (by decide +kernel)) (hts (.initialized "java/lang/System") (by decide +kernel)) hK hP hD hS 1 4 0 0 rfl rfl rfl rfl rfl (by decide) (by decide) (by decide) (by decide) (by decide) (fun _ _ => rfl) (Nat.le_of_ble_eq_true rfl) (by decide +kernel) dX2_keepIfCheaper_32 (fun H locs hP hD hS => ?_)
    have hP : va_P D vwCl (wS cI q os fl wa fo sb x1 fm pn tr fs sk (va_cpy tr ct_ 0 0 6) nt ++ wP cI q (nI n) il kn sp py bo) H := hP
    have hD : va_D A (wS cI q os fl wa fo sb x1 fm pn tr fs sk (va_cpy tr ct_ 0 0 6) nt ++ wP cI q (nI n) il kn sp py bo) := hD
    exact hret (x1, va_cpy tr ct_ 0 0 6) _ _ _ _ hw hP hD hS dX2_keepIfCheaper_35
  have hw := h_X2_keepIfCheaper n os fl wa fo sb fm pn tr fs sk nt il kn sp py bo lp ct a1 hn   
  unfold v_X2_keepIfCheaper_0 at hw
  refine lv_aload_n hx hb dX2_keepIfCheaper_0 rfl (lv_at hl 0 rfl) ?_
  refine va_get (D := D) (ci := 2) (v := .int fo) (C := RX2) (T := TX2) (N := 14) hx hb hts hin2 hown hK hP 0 rfl rfl 9 (by decide) f44 (fun _ h9 => h9) rfl dX2_keepIfCheaper_1 ?_
  refine lv_if_eq (tgt := 15) hx hb dX2_keepIfCheaper_4 (by decide) (fun hc => ?_) (fun hc => ?_)
  · replace hw := hw.1 hc
    exact J15 _ _ _ hw _ _ _ (lv_sub hl [0, 1] rfl) hP hD hS
  · replace hw := hw.2 hc
    refine lv_iload_n hx hb dX2_keepIfCheaper_7 rfl (lv_at hl 1 rfl) ?_
    refine lv_aload_n hx hb dX2_keepIfCheaper_8 rfl (lv_at hl 0 rfl) ?_
    refine va_get (D := D) (ci := 2) (v := .int lp) (C := RX2) (T := TX2) (N := 14) hx hb hts hin2 hown hK hP 0 rfl rfl 11 (by decide) f50 (fun _ h9 => h9) rfl dX2_keepIfCheaper_9 ?_
    refine lv_icmp_ge (tgt := 35) hx hb dX2_keepIfCheaper_12 (by decide) (fun hc => ?_) (fun hc => ?_)
    · replace hw := hw.1 hc
      exact hret (lp, ct) _ _ _ _ hw hP hD hS dX2_keepIfCheaper_35
    · replace hw := hw.2 hc
      exact J15 _ _ _ hw _ _ _ (lv_sub hl [0, 1] rfl) hP hD hS
set_option maxHeartbeats 4000000 in
set_option maxRecDepth 100000 in
theorem c_X2_keepIfNearer (l : Launch) (D : va_G) (cI cZ : ClassId) (q : Nat → Nat) (os : Int32) (fl : Int32) (wa : Int32) (fo : Int32) (sb : Int32) (lp : Int32) (fm : Int32) (pn : Int32) (tr : Nat → Int32) (fs : Nat → Int32) (sk : Nat → Int32) (ct : Nat → Int32) (nt : Nat → Int32) (n : Nat) (il : Int32) (kn : Nat → Int32) (sp : Nat → Int32) (py : Nat → Int32) (bo : Nat → Int32) (a1 : Int32) (a2 : Int32) (hn : n ≤ 6) : MV l yX2_keepIfNearer wsX2_keepIfNearer ({ frames := 4, cells := 0, slots := 0, locals := 160 }) D cI cZ [.ref (q 5), .int a1, .int a2] (wS cI q os fl wa fo sb lp fm pn tr fs sk ct nt ++ wP cI q (nI n) il kn sp py bo) (fun u : Int32 × Int32 × (Nat → Int32) => (wS cI q os fl wa fo sb lp u.1 u.2.1 tr fs sk ct u.2.2 ++ wP cI q (nI n) il kn sp py bo)) (fun u => u = ((if knC fo fm pn a1 a2 = true then a1 else fm), (if knC fo fm pn a1 a2 = true then a2 else pn), (if knC fo fm pn a1 a2 = true then va_cpy tr nt 0 0 6 else nt))) := by
  refine MV_of (cc := cX2_keepIfNearer) (maxL := 3) (by decide) rfl (Nat.le_of_ble_eq_true rfl) (fun p e s m args below meth c A Q hx hb hml hown hts hK hN hA hret H locs ls hl hP hD hS => ?_)
  have hown : s.vm.findClass RX2 = some m.cls := hown
  have hl : lv_has ls 3 [(0, .ref (q 5)), (1, .int a1), (2, .int a2)] := hl
  have hin2 : ∀ w ∈ u_ws RX2 TX2 14, w ∈ wsX2_keepIfNearer := fun w h => List.mem_cons_of_mem _ (List.mem_append_right _ h)
  have f44 : (Cond.fieldLink RX2 44 "GlassBooths$Search" "found" "I").before args s = true := hts _ (by decide +kernel)
  have f53 : (Cond.fieldLink RX2 53 "GlassBooths$Search" "fewestMoved" "I").before args s = true := hts _ (by decide +kernel)
  have f56 : (Cond.fieldLink RX2 56 "GlassBooths$Search" "payOfNearest" "I").before args s = true := hts _ (by decide +kernel)
  have f9 : (Cond.fieldLink RX2 9 "GlassBooths$Search" "trial" "[I").before args s = true := hts _ (by decide +kernel)
  have f24 : (Cond.fieldLink RX2 24 "GlassBooths$Search" "nearestTeam" "[I").before args s = true := hts _ (by decide +kernel)
  have J31 : ∀ x1 x2 fm_ pn_ nt_, v_X2_keepIfNearer_31 n os fl wa fo sb lp tr fs sk ct il kn sp py bo (fun u => u = ((if knC fo fm pn a1 a2 = true then a1 else fm), (if knC fo fm pn a1 a2 = true then a2 else pn), (if knC fo fm pn a1 a2 = true then va_cpy tr nt 0 0 6 else nt)))  x1 x2 fm_ pn_ nt_ → ∀ (H : Heap) (locs : List Loc) (ls : Array Slot), lv_has ls 3 [(0, .ref (q 5)), (1, .int x1), (2, .int x2)] → va_P D vwCl (wS cI q os fl wa fo sb lp fm_ pn_ tr fs sk ct nt_ ++ wP cI q (nI n) il kn sp py bo) H → va_D A (wS cI q os fl wa fo sb lp fm_ pn_ tr fs sk ct nt_ ++ wP cI q (nI n) il kn sp py bo) → va_S A s.heap H locs → W p l e (headSpec wsX2_keepIfNearer ({ frames := 4, cells := 0, slots := 0, locals := 160 })).room s m args below meth c H locs 0 0 Q (F0 m 31 ls []) := by
    intro x1 x2 fm_ pn_ nt_ hw
    intro H locs ls hl hP hD hS
    unfold v_X2_keepIfNearer_31 at hw
    refine lv_aload_n hx hb dX2_keepIfNearer_31 rfl (lv_at hl 0 rfl) ?_
    refine lv_iload_n hx hb dX2_keepIfNearer_32 rfl (lv_at hl 1 rfl) ?_
    refine va_put (D := D) (ci := 2) (v := .int x1) (ty := .int) (C := RX2) (T := TX2) (N := 14) hx hb hts hin2 tyX2 tyX2_ok nmX2 hown hK hP hD hS 0 rfl rfl 12 (by decide) f53 (fun _ h9 => h9) rfl (by decide +kernel) rfl rfl (Nat.le_of_ble_eq_true rfl) dX2_keepIfNearer_33 (fun H locs hP hD hS => ?_)
    have hP : va_P D vwCl (wS cI q os fl wa fo sb lp x1 pn_ tr fs sk ct nt_ ++ wP cI q (nI n) il kn sp py bo) H := hP
    have hD : va_D A (wS cI q os fl wa fo sb lp x1 pn_ tr fs sk ct nt_ ++ wP cI q (nI n) il kn sp py bo) := hD
    refine lv_aload_n hx hb dX2_keepIfNearer_36 rfl (lv_at hl 0 rfl) ?_
    refine lv_iload_n hx hb dX2_keepIfNearer_37 rfl (lv_at hl 2 rfl) ?_
    refine va_put (D := D) (ci := 2) (v := .int x2) (ty := .int) (C := RX2) (T := TX2) (N := 14) hx hb hts hin2 tyX2 tyX2_ok nmX2 hown hK hP hD hS 0 rfl rfl 13 (by decide) f56 (fun _ h9 => h9) rfl (by decide +kernel) rfl rfl (Nat.le_of_ble_eq_true rfl) dX2_keepIfNearer_38 (fun H locs hP hD hS => ?_)
    have hP : va_P D vwCl (wS cI q os fl wa fo sb lp x1 x2 tr fs sk ct nt_ ++ wP cI q (nI n) il kn sp py bo) H := hP
    have hD : va_D A (wS cI q os fl wa fo sb lp x1 x2 tr fs sk ct nt_ ++ wP cI q (nI n) il kn sp py bo) := hD
    refine lv_aload_n hx hb dX2_keepIfNearer_41 rfl (lv_at hl 0 rfl) ?_
    refine va_get (D := D) (ci := 2) (v := .ref (q 6)) (C := RX2) (T := TX2) (N := 14) hx hb hts hin2 hown hK hP 0 rfl rfl 1 (by decide) f9 (fun _ h9 => h9) rfl dX2_keepIfNearer_42 ?_
    refine lv_iconst (v := (0 : Int32)) hx hb dX2_keepIfNearer_45 (by decide) ?_
    refine lv_aload_n hx hb dX2_keepIfNearer_46 rfl (lv_at hl 0 rfl) ?_
    refine va_get (D := D) (ci := 2) (v := .ref (q 10)) (C := RX2) (T := TX2) (N := 14) hx hb hts hin2 hown hK hP 0 rfl rfl 5 (by decide) f24 (fun _ h9 => h9) rfl dX2_keepIfNearer_47 ?_
    refine lv_iconst (v := (0 : Int32)) hx hb dX2_keepIfNearer_50 (by decide) ?_
    refine lv_bipush (v := (6 : Int32)) hx hb dX2_keepIfNearer_51 (by decide) ?_
    refine va_copyi hx hb (hml.trans hl.1.symm) hown (hts (.methodLink RX2 117 arraycopyName) (by decide +kernel)) (hts (.native arraycopyName) (by decide +kernel)) (hts (.static arraycopyName) (by decide +kernel)) (hts (.initialized "java/lang/System") (by decide +kernel)) hK hP hD hS 1 5 0 0 rfl rfl rfl rfl rfl (by decide) (by decide) (by decide) (by decide) (by decide) (fun _ _ => rfl) (Nat.le_of_ble_eq_true rfl) (by decide +kernel) dX2_keepIfNearer_53 (fun H locs hP hD hS => ?_)
    have hP : va_P D vwCl (wS cI q os fl wa fo sb lp x1 x2 tr fs sk ct (va_cpy tr nt_ 0 0 6) ++ wP cI q (nI n) il kn sp py bo) H := hP
    have hD : va_D A (wS cI q os fl wa fo sb lp x1 x2 tr fs sk ct (va_cpy tr nt_ 0 0 6) ++ wP cI q (nI n) il kn sp py bo) := hD
    exact hret (x1, x2, va_cpy tr nt_ 0 0 6) _ _ _ _ hw hP hD hS dX2_keepIfNearer_56
  have hw := h_X2_keepIfNearer n os fl wa fo sb lp tr fs sk ct il kn sp py bo fm pn nt a1 a2 hn   
  unfold v_X2_keepIfNearer_0 at hw
  refine lv_aload_n hx hb dX2_keepIfNearer_0 rfl (lv_at hl 0 rfl) ?_
  refine va_get (D := D) (ci := 2) (v := .int fo) (C := RX2) (T := TX2) (N := 14) hx hb hts hin2 hown hK hP 0 rfl rfl 9 (by decide) f44 (fun _ h9 => h9) rfl dX2_keepIfNearer_1 ?_
  refine lv_if_eq (tgt := 31) hx hb dX2_keepIfNearer_4 (by decide) (fun hc => ?_) (fun hc => ?_)
  · replace hw := hw.1 hc
    exact J31 _ _ _ _ _ hw _ _ _ (lv_sub hl [0, 1, 2] rfl) hP hD hS
  · replace hw := hw.2 hc
    refine lv_iload_n hx hb dX2_keepIfNearer_7 rfl (lv_at hl 1 rfl) ?_
    refine lv_aload_n hx hb dX2_keepIfNearer_8 rfl (lv_at hl 0 rfl) ?_
    refine va_get (D := D) (ci := 2) (v := .int fm) (C := RX2) (T := TX2) (N := 14) hx hb hts hin2 hown hK hP 0 rfl rfl 12 (by decide) f53 (fun _ h9 => h9) rfl dX2_keepIfNearer_9 ?_
    refine lv_icmp_lt (tgt := 31) hx hb dX2_keepIfNearer_12 (by decide) (fun hc => ?_) (fun hc => ?_)
    · replace hw := hw.1 hc
      exact J31 _ _ _ _ _ hw _ _ _ (lv_sub hl [0, 1, 2] rfl) hP hD hS
    · replace hw := hw.2 hc
      refine lv_iload_n hx hb dX2_keepIfNearer_15 rfl (lv_at hl 1 rfl) ?_
      refine lv_aload_n hx hb dX2_keepIfNearer_16 rfl (lv_at hl 0 rfl) ?_
      refine va_get (D := D) (ci := 2) (v := .int fm) (C := RX2) (T := TX2) (N := 14) hx hb hts hin2 hown hK hP 0 rfl rfl 12 (by decide) f53 (fun _ h9 => h9) rfl dX2_keepIfNearer_17 ?_
      refine lv_icmp_ne (tgt := 56) hx hb dX2_keepIfNearer_20 (by decide) (fun hc => ?_) (fun hc => ?_)
      · replace hw := hw.2 hc
        exact hret (fm, pn, nt) _ _ _ _ hw hP hD hS dX2_keepIfNearer_56
      · replace hw := hw.1 hc
        refine lv_iload_n hx hb dX2_keepIfNearer_23 rfl (lv_at hl 2 rfl) ?_
        refine lv_aload_n hx hb dX2_keepIfNearer_24 rfl (lv_at hl 0 rfl) ?_
        refine va_get (D := D) (ci := 2) (v := .int pn) (C := RX2) (T := TX2) (N := 14) hx hb hts hin2 hown hK hP 0 rfl rfl 13 (by decide) f56 (fun _ h9 => h9) rfl dX2_keepIfNearer_25 ?_
        refine lv_icmp_ge (tgt := 56) hx hb dX2_keepIfNearer_28 (by decide) (fun hc => ?_) (fun hc => ?_)
        · replace hw := hw.1 hc
          exact hret (fm, pn, nt) _ _ _ _ hw hP hD hS dX2_keepIfNearer_56
        · replace hw := hw.2 hc
          exact J31 _ _ _ _ _ hw _ _ _ (lv_sub hl [0, 1, 2] rfl) hP hD hS
set_option maxHeartbeats 4000000 in
set_option maxRecDepth 100000 in
theorem c_X2_weigh (l : Launch) (D : va_G) (cI cZ : ClassId) (q : Nat → Nat) (os : Int32) (fl : Int32) (wa : Int32) (fo : Int32) (sb : Int32) (lp : Int32) (fm : Int32) (pn : Int32) (tr : Nat → Int32) (fs : Nat → Int32) (sk : Nat → Int32) (ct : Nat → Int32) (nt : Nat → Int32) (n : Nat) (il : Int32) (kn : Nat → Int32) (sp : Nat → Int32) (py : Nat → Int32) (bo : Nat → Int32) (hn : n ≤ 6) : MV l yX2_weigh wsX2_weigh ({ frames := 6, cells := 0, slots := 0, locals := 240 }) D cI cZ [.ref (q 5)] (wS cI q os fl wa fo sb lp fm pn tr fs sk ct nt ++ wP cI q (nI n) il kn sp py bo) (fun u : Int32 × Int32 × Int32 × Int32 × Int32 × (Nat → Int32) × (Nat → Int32) => (wS cI q os fl wa u.1 u.2.1 u.2.2.1 u.2.2.2.1 u.2.2.2.2.1 tr fs sk u.2.2.2.2.2.1 u.2.2.2.2.2.2 ++ wP cI q (nI n) il kn sp py bo)) (fun u => u = wgA n py bo tr (fo, sb, lp, fm, pn, ct, nt)) := by
  refine MV_of (cc := cX2_weigh) (maxL := 4) (by decide) rfl (Nat.le_of_ble_eq_true rfl) (fun p e s m args below meth c A Q hx hb hml hown hts hK hN hA hret H locs ls hl hP hD hS => ?_)
  have hown : s.vm.findClass RX2 = some m.cls := hown
  have hl : lv_has ls 4 [(0, .ref (q 5))] := hl
  have hin1 : ∀ w ∈ u_ws RX1 TX1 6, w ∈ wsX2_weigh := fun w h => List.mem_cons_of_mem _ (List.mem_append_right _ h)
  have hin2 : ∀ w ∈ u_ws RX2 TX2 14, w ∈ wsX2_weigh := fun w h => List.mem_cons_of_mem _ (List.mem_append_left _ (List.mem_append_right _ h))
  have f27 : (Cond.fieldLink RX2 27 "GlassBooths$Search" "people" "LGlassBooths$People;").before args s = true := hts _ (by decide +kernel)
  have f66 : (Cond.fieldLinkNest RX2 66 "GlassBooths$People" "size" "I" "GlassBooths").before args s = true := va_Nw.use rfl (hN _ (List.mem_of_getElem? (i := 1) rfl))
  have f44 : (Cond.fieldLink RX2 44 "GlassBooths$Search" "found" "I").before args s = true := hts _ (by decide +kernel)
  have f9 : (Cond.fieldLink RX2 9 "GlassBooths$Search" "trial" "[I").before args s = true := hts _ (by decide +kernel)
  have f47 : (Cond.fieldLink RX2 47 "GlassBooths$Search" "sparedBits" "I").before args s = true := hts _ (by decide +kernel)
  obtain ⟨K6, k6i, k6e⟩ := ex_K10 (fun (x1 : Int32) (x2 : Int32) (x3 : Int32) (fo_ : Int32) (sb_ : Int32) (lp_ : Int32) (fm_ : Int32) (pn_ : Int32) (ct_ : Nat → Int32) (nt_ : Nat → Int32) => ∀ (H : Heap) (locs : List Loc) (ls : Array Slot), lv_has ls 4 [(0, .ref (q 5)), (1, .int x1), (2, .int x2), (3, .int x3)] → va_P D vwCl (wS cI q os fl wa fo_ sb_ lp_ fm_ pn_ tr fs sk ct_ nt_ ++ wP cI q (nI n) il kn sp py bo) H → va_D A (wS cI q os fl wa fo_ sb_ lp_ fm_ pn_ tr fs sk ct_ nt_ ++ wP cI q (nI n) il kn sp py bo) → va_S A s.heap H locs → W p l e (headSpec wsX2_weigh ({ frames := 6, cells := 0, slots := 0, locals := 240 })).room s m args below meth c H locs 0 0 Q (F0 m 6 ls []))
  have J73 : ∀ x1 x2 x3 fo_ sb_ lp_ fm_ pn_ ct_ nt_, v_X2_weigh_73 n os fl wa tr fs sk il kn sp py bo (fun u => u = wgA n py bo tr (fo, sb, lp, fm, pn, ct, nt)) K6 x1 x2 x3 fo_ sb_ lp_ fm_ pn_ ct_ nt_ → ∀ (H : Heap) (locs : List Loc) (ls : Array Slot), lv_has ls 4 [(0, .ref (q 5)), (1, .int x1), (2, .int x2), (3, .int x3)] → va_P D vwCl (wS cI q os fl wa fo_ sb_ lp_ fm_ pn_ tr fs sk ct_ nt_ ++ wP cI q (nI n) il kn sp py bo) H → va_D A (wS cI q os fl wa fo_ sb_ lp_ fm_ pn_ tr fs sk ct_ nt_ ++ wP cI q (nI n) il kn sp py bo) → va_S A s.heap H locs → W p l e (headSpec wsX2_weigh ({ frames := 6, cells := 0, slots := 0, locals := 240 })).room s m args below meth c H locs 0 0 Q (F0 m 73 ls []) := by
    intro x1 x2 x3 fo_ sb_ lp_ fm_ pn_ ct_ nt_ hw
    intro H locs ls hl hP hD hS
    unfold v_X2_weigh_73 at hw
    refine lv_iinc (v := x3 + 1) (lv' := [(3, .int (x3 + 1)), (0, .ref (q 5)), (1, .int x1), (2, .int x2)]) hx hb dX2_weigh_73 hl (k := 3) rfl rfl (by decide) rfl (fun ls hl => ?_)
    refine lv_goto (tgt := 6) hx hb dX2_weigh_76 (by decide) ?_
    exact k6e _ _ _ _ _ _ _ _ _ _ hw _ _ _ (lv_sub hl [1, 2, 3, 0] rfl) hP hD hS
  have J53 : ∀ x1 x2 x3 fo_ sb_ lp_ fm_ pn_ ct_ nt_, v_X2_weigh_53 n os fl wa tr fs sk il kn sp py bo (fun u => u = wgA n py bo tr (fo, sb, lp, fm, pn, ct, nt)) K6 x1 x2 x3 fo_ sb_ lp_ fm_ pn_ ct_ nt_ → ∀ (H : Heap) (locs : List Loc) (ls : Array Slot), lv_has ls 4 [(0, .ref (q 5)), (1, .int x1), (2, .int x2), (3, .int x3)] → va_P D vwCl (wS cI q os fl wa fo_ sb_ lp_ fm_ pn_ tr fs sk ct_ nt_ ++ wP cI q (nI n) il kn sp py bo) H → va_D A (wS cI q os fl wa fo_ sb_ lp_ fm_ pn_ tr fs sk ct_ nt_ ++ wP cI q (nI n) il kn sp py bo) → va_S A s.heap H locs → W p l e (headSpec wsX2_weigh ({ frames := 6, cells := 0, slots := 0, locals := 240 })).room s m args below meth c H locs 0 0 Q (F0 m 53 ls []) := by
    intro x1 x2 x3 fo_ sb_ lp_ fm_ pn_ ct_ nt_ hw
    intro H locs ls hl hP hD hS
    unfold v_X2_weigh_53 at hw
    refine lv_aload_n hx hb dX2_weigh_53 rfl (lv_at hl 0 rfl) ?_
    refine va_get (D := D) (ci := 2) (v := .ref (q 6)) (C := RX2) (T := TX2) (N := 14) hx hb hts hin2 hown hK hP 0 rfl rfl 1 (by decide) f9 (fun _ h9 => h9) rfl dX2_weigh_54 ?_
    refine lv_iload_n hx hb dX2_weigh_57 rfl (lv_at hl 3 rfl) ?_
    obtain ⟨hv, hw⟩ := hw
    refine va_iald hx hb hK hP 1 0 rfl rfl hv dX2_weigh_58 ?_
    refine lv_aload_n hx hb dX2_weigh_59 rfl (lv_at hl 0 rfl) ?_
    refine va_get (D := D) (ci := 2) (v := .ref (q 0)) (C := RX2) (T := TX2) (N := 14) hx hb hts hin2 hown hK hP 0 rfl rfl 0 (by decide) f27 (fun _ h9 => h9) rfl dX2_weigh_60 ?_
    refine lv_iload_n hx hb dX2_weigh_63 rfl (lv_at hl 3 rfl) ?_
    refine zc_i (fun u => (wS cI q os fl wa fo_ sb_ lp_ fm_ pn_ tr fs sk ct_ nt_ ++ wP cI q (nI n) il kn sp py bo)) [6, 7, 8, 9, 10] [0, 1, 2, 3, 4, 5] [0, 1, 2, 3, 4, 5, 6, 7, 8, 9, 10] (va_runV (As := [.int x3]) (rest := [.int (tr x3.toNatClampNeg)]) ⟨hx, hb, hml, hown, hts⟩ ((c_X1_boothOf l D cI cZ q n il kn sp py bo x3 hn ) H.size) (cwV 1 hts gX2_weigh_X1_boothOf rfl rfl rfl (by decide +kernel) ⟨Nat.le_of_ble_eq_true rfl, Nat.le_of_ble_eq_true rfl⟩) (pv_of hK hN hP hD [6, 7, 8, 9, 10] rfl rfl 1 0 rfl rfl) rfl rfl hl.1 rfl (lv_room (Nat.le_of_ble_eq_true rfl)) dX2_weigh_64 ⟨Nat.zero_le _, Nat.zero_le _⟩) hP hD hS hA rfl rfl rfl (by decide) (fun _ => rfl) rfl (fun r u H locs hu hP hD hS => ?_)
    subst hu
    have hP : va_P D vwCl (wS cI q os fl wa fo_ sb_ lp_ fm_ pn_ tr fs sk ct_ nt_ ++ wP cI q (nI n) il kn sp py bo) H := hP
    have hD : va_D A (wS cI q os fl wa fo_ sb_ lp_ fm_ pn_ tr fs sk ct_ nt_ ++ wP cI q (nI n) il kn sp py bo) := hD
    refine lv_icmp_eq (tgt := 73) hx hb dX2_weigh_67 (by decide) (fun hc => ?_) (fun hc => ?_)
    · replace hw := hw.1 hc
      exact J73 _ _ _ _ _ _ _ _ _ _ hw _ _ _ (lv_sub hl [0, 1, 2, 3] rfl) hP hD hS
    · replace hw := hw.2 hc
      refine lv_iinc (v := x2 + 1) (lv' := [(2, .int (x2 + 1)), (0, .ref (q 5)), (1, .int x1), (3, .int x3)]) hx hb dX2_weigh_70 hl (k := 2) rfl rfl (by decide) rfl (fun ls hl => ?_)
      exact J73 _ _ _ _ _ _ _ _ _ _ hw _ _ _ (lv_sub hl [1, 2, 0, 3] rfl) hP hD hS
  have R6 : ∀ x1 x2 x3 fo_ sb_ lp_ fm_ pn_ ct_ nt_, v_X2_weigh_6 n os fl wa tr fs sk il kn sp py bo (fun u => u = wgA n py bo tr (fo, sb, lp, fm, pn, ct, nt)) K6 x1 x2 x3 fo_ sb_ lp_ fm_ pn_ ct_ nt_ → K6 x1 x2 x3 fo_ sb_ lp_ fm_ pn_ ct_ nt_ := by
    intro x1 x2 x3 fo_ sb_ lp_ fm_ pn_ ct_ nt_ hw
    refine k6i _ _ _ _ _ _ _ _ _ _ ?_
    intro H locs ls hl hP hD hS
    unfold v_X2_weigh_6 at hw
    refine lv_iload_n hx hb dX2_weigh_6 rfl (lv_at hl 3 rfl) ?_
    refine lv_aload_n hx hb dX2_weigh_7 rfl (lv_at hl 0 rfl) ?_
    refine va_get (D := D) (ci := 2) (v := .ref (q 0)) (C := RX2) (T := TX2) (N := 14) hx hb hts hin2 hown hK hP 0 rfl rfl 0 (by decide) f27 (fun _ h9 => h9) rfl dX2_weigh_8 ?_
    refine va_getN (D := D) (ci := 1) (v := .int (nI n)) (C := RX1) (T := TX1) (N := 6) hx hb hts hin1 hown hK hP 6 rfl rfl 4 (by decide) f66 (fun _ h9 => h9) rfl dX2_weigh_11 ?_
    refine lv_icmp_ge (tgt := 79) hx hb dX2_weigh_14 (by decide) (fun hc => ?_) (fun hc => ?_)
    · replace hw := hw.1 hc
      refine lv_aload_n hx hb dX2_weigh_79 rfl (lv_at hl 0 rfl) ?_
      refine lv_iload_n hx hb dX2_weigh_80 rfl (lv_at hl 1 rfl) ?_
      refine zc_v (fun u => (wS cI q os fl wa fo_ sb_ u.1 fm_ pn_ tr fs sk u.2 nt_ ++ wP cI q (nI n) il kn sp py bo)) [0, 1, 2, 3, 4, 5, 6, 7, 8, 9, 10] [] [0, 1, 2, 3, 4, 5, 6, 7, 8, 9, 10] (va_runV (As := [.int x1]) (rest := []) ⟨hx, hb, hml, hown, hts⟩ ((c_X2_keepIfCheaper l D cI cZ q os fl wa fo_ sb_ lp_ fm_ pn_ tr fs sk ct_ nt_ n il kn sp py bo x1 hn ) H.size) (cwV 1 hts gX2_weigh_X2_keepIfCheaper rfl rfl rfl (by decide +kernel) ⟨Nat.le_of_ble_eq_true rfl, Nat.le_of_ble_eq_true rfl⟩) (pv_of hK hN hP hD [0, 1, 2, 3, 4, 5, 6, 7, 8, 9, 10] rfl rfl 2 0 rfl rfl) rfl rfl hl.1 rfl (lv_room (Nat.le_of_ble_eq_true rfl)) dX2_weigh_81 ⟨Nat.zero_le _, Nat.zero_le _⟩) hP hD hS hA rfl rfl rfl (by decide) (fun _ => rfl) rfl (fun u H locs hu hP hD hS => ?_)
      subst hu
      have hP : va_P D vwCl (wS cI q os fl wa fo_ sb_ (if kcC fo_ lp_ x1 = true then x1 else lp_) fm_ pn_ tr fs sk (if kcC fo_ lp_ x1 = true then va_cpy tr ct_ 0 0 6 else ct_) nt_ ++ wP cI q (nI n) il kn sp py bo) H := hP
      have hD : va_D A (wS cI q os fl wa fo_ sb_ (if kcC fo_ lp_ x1 = true then x1 else lp_) fm_ pn_ tr fs sk (if kcC fo_ lp_ x1 = true then va_cpy tr ct_ 0 0 6 else ct_) nt_ ++ wP cI q (nI n) il kn sp py bo) := hD
      refine lv_aload_n hx hb dX2_weigh_84 rfl (lv_at hl 0 rfl) ?_
      refine lv_iload_n hx hb dX2_weigh_85 rfl (lv_at hl 2 rfl) ?_
      refine lv_iload_n hx hb dX2_weigh_86 rfl (lv_at hl 1 rfl) ?_
      refine zc_v (fun u => (wS cI q os fl wa fo_ sb_ (if kcC fo_ lp_ x1 = true then x1 else lp_) u.1 u.2.1 tr fs sk (if kcC fo_ lp_ x1 = true then va_cpy tr ct_ 0 0 6 else ct_) u.2.2 ++ wP cI q (nI n) il kn sp py bo)) [0, 1, 2, 3, 4, 5, 6, 7, 8, 9, 10] [] [0, 1, 2, 3, 4, 5, 6, 7, 8, 9, 10] (va_runV (As := [.int x2, .int x1]) (rest := []) ⟨hx, hb, hml, hown, hts⟩ ((c_X2_keepIfNearer l D cI cZ q os fl wa fo_ sb_ (if kcC fo_ lp_ x1 = true then x1 else lp_) fm_ pn_ tr fs sk (if kcC fo_ lp_ x1 = true then va_cpy tr ct_ 0 0 6 else ct_) nt_ n il kn sp py bo x2 x1 hn ) H.size) (cwV 2 hts gX2_weigh_X2_keepIfNearer rfl rfl rfl (by decide +kernel) ⟨Nat.le_of_ble_eq_true rfl, Nat.le_of_ble_eq_true rfl⟩) (pv_of hK hN hP hD [0, 1, 2, 3, 4, 5, 6, 7, 8, 9, 10] rfl rfl 2 0 rfl rfl) rfl rfl hl.1 rfl (lv_room (Nat.le_of_ble_eq_true rfl)) dX2_weigh_87 ⟨Nat.zero_le _, Nat.zero_le _⟩) hP hD hS hA rfl rfl rfl (by decide) (fun _ => rfl) rfl (fun u H locs hu hP hD hS => ?_)
      subst hu
      have hP : va_P D vwCl (wS cI q os fl wa fo_ sb_ (if kcC fo_ lp_ x1 = true then x1 else lp_) (if knC fo_ fm_ pn_ x2 x1 = true then x2 else fm_) (if knC fo_ fm_ pn_ x2 x1 = true then x1 else pn_) tr fs sk (if kcC fo_ lp_ x1 = true then va_cpy tr ct_ 0 0 6 else ct_) (if knC fo_ fm_ pn_ x2 x1 = true then va_cpy tr nt_ 0 0 6 else nt_) ++ wP cI q (nI n) il kn sp py bo) H := hP
      have hD : va_D A (wS cI q os fl wa fo_ sb_ (if kcC fo_ lp_ x1 = true then x1 else lp_) (if knC fo_ fm_ pn_ x2 x1 = true then x2 else fm_) (if knC fo_ fm_ pn_ x2 x1 = true then x1 else pn_) tr fs sk (if kcC fo_ lp_ x1 = true then va_cpy tr ct_ 0 0 6 else ct_) (if knC fo_ fm_ pn_ x2 x1 = true then va_cpy tr nt_ 0 0 6 else nt_) ++ wP cI q (nI n) il kn sp py bo) := hD
      refine lv_aload_n hx hb dX2_weigh_90 rfl (lv_at hl 0 rfl) ?_
      refine lv_dup hx hb dX2_weigh_91 rfl ?_
      refine va_get (D := D) (ci := 2) (v := .int fo_) (C := RX2) (T := TX2) (N := 14) hx hb hts hin2 hown hK hP 0 rfl rfl 9 (by decide) f44 (fun _ h9 => h9) rfl dX2_weigh_92 ?_
      refine lv_iconst (v := (1 : Int32)) hx hb dX2_weigh_95 (by decide) ?_
      refine lv_iadd hx hb dX2_weigh_96 ?_
      refine va_put (D := D) (ci := 2) (v := .int (fo_ + (1 : Int32))) (ty := .int) (C := RX2) (T := TX2) (N := 14) hx hb hts hin2 tyX2 tyX2_ok nmX2 hown hK hP hD hS 0 rfl rfl 9 (by decide) f44 (fun _ h9 => h9) rfl (by decide +kernel) rfl rfl (Nat.le_of_ble_eq_true rfl) dX2_weigh_97 (fun H locs hP hD hS => ?_)
      have hP : va_P D vwCl (wS cI q os fl wa (fo_ + (1 : Int32)) sb_ (if kcC fo_ lp_ x1 = true then x1 else lp_) (if knC fo_ fm_ pn_ x2 x1 = true then x2 else fm_) (if knC fo_ fm_ pn_ x2 x1 = true then x1 else pn_) tr fs sk (if kcC fo_ lp_ x1 = true then va_cpy tr ct_ 0 0 6 else ct_) (if knC fo_ fm_ pn_ x2 x1 = true then va_cpy tr nt_ 0 0 6 else nt_) ++ wP cI q (nI n) il kn sp py bo) H := hP
      have hD : va_D A (wS cI q os fl wa (fo_ + (1 : Int32)) sb_ (if kcC fo_ lp_ x1 = true then x1 else lp_) (if knC fo_ fm_ pn_ x2 x1 = true then x2 else fm_) (if knC fo_ fm_ pn_ x2 x1 = true then x1 else pn_) tr fs sk (if kcC fo_ lp_ x1 = true then va_cpy tr ct_ 0 0 6 else ct_) (if knC fo_ fm_ pn_ x2 x1 = true then va_cpy tr nt_ 0 0 6 else nt_) ++ wP cI q (nI n) il kn sp py bo) := hD
      exact hret (fo_ + (1 : Int32), sb_, (if kcC fo_ lp_ x1 = true then x1 else lp_), (if knC fo_ fm_ pn_ x2 x1 = true then x2 else fm_), (if knC fo_ fm_ pn_ x2 x1 = true then x1 else pn_), (if kcC fo_ lp_ x1 = true then va_cpy tr ct_ 0 0 6 else ct_), (if knC fo_ fm_ pn_ x2 x1 = true then va_cpy tr nt_ 0 0 6 else nt_)) _ _ _ _ hw hP hD hS dX2_weigh_100
    · replace hw := hw.2 hc
      refine lv_aload_n hx hb dX2_weigh_17 rfl (lv_at hl 0 rfl) ?_
      refine va_get (D := D) (ci := 2) (v := .ref (q 6)) (C := RX2) (T := TX2) (N := 14) hx hb hts hin2 hown hK hP 0 rfl rfl 1 (by decide) f9 (fun _ h9 => h9) rfl dX2_weigh_18 ?_
      refine lv_iload_n hx hb dX2_weigh_21 rfl (lv_at hl 3 rfl) ?_
      obtain ⟨hv, hw⟩ := hw
      refine va_iald hx hb hK hP 1 0 rfl rfl hv dX2_weigh_22 ?_
      refine lv_iconst (v := (5 : Int32)) hx hb dX2_weigh_23 (by decide) ?_
      refine lv_icmp_ne (tgt := 42) hx hb dX2_weigh_24 (by decide) (fun hc => ?_) (fun hc => ?_)
      · replace hw := hw.2 hc
        refine lv_iload_n hx hb dX2_weigh_42 rfl (lv_at hl 1 rfl) ?_
        refine lv_aload_n hx hb dX2_weigh_43 rfl (lv_at hl 0 rfl) ?_
        refine va_get (D := D) (ci := 2) (v := .ref (q 0)) (C := RX2) (T := TX2) (N := 14) hx hb hts hin2 hown hK hP 0 rfl rfl 0 (by decide) f27 (fun _ h9 => h9) rfl dX2_weigh_44 ?_
        refine lv_iload_n hx hb dX2_weigh_47 rfl (lv_at hl 3 rfl) ?_
        refine zc_i (fun u => (wS cI q os fl wa fo_ sb_ lp_ fm_ pn_ tr fs sk ct_ nt_ ++ wP cI q (nI n) il kn sp py bo)) [6, 7, 8, 9, 10] [0, 1, 2, 3, 4, 5] [0, 1, 2, 3, 4, 5, 6, 7, 8, 9, 10] (va_runV (As := [.int x3]) (rest := [.int x1]) ⟨hx, hb, hml, hown, hts⟩ ((c_X1_payOf l D cI cZ q n il kn sp py bo x3 hn ) H.size) (cwV 1 hts gX2_weigh_X1_payOf rfl rfl rfl (by decide +kernel) ⟨Nat.le_of_ble_eq_true rfl, Nat.le_of_ble_eq_true rfl⟩) (pv_of hK hN hP hD [6, 7, 8, 9, 10] rfl rfl 1 0 rfl rfl) rfl rfl hl.1 rfl (lv_room (Nat.le_of_ble_eq_true rfl)) dX2_weigh_48 ⟨Nat.zero_le _, Nat.zero_le _⟩) hP hD hS hA rfl rfl rfl (by decide) (fun _ => rfl) rfl (fun r u H locs hu hP hD hS => ?_)
        subst hu
        have hP : va_P D vwCl (wS cI q os fl wa fo_ sb_ lp_ fm_ pn_ tr fs sk ct_ nt_ ++ wP cI q (nI n) il kn sp py bo) H := hP
        have hD : va_D A (wS cI q os fl wa fo_ sb_ lp_ fm_ pn_ tr fs sk ct_ nt_ ++ wP cI q (nI n) il kn sp py bo) := hD
        refine lv_iadd hx hb dX2_weigh_51 ?_
        refine lv_istore_n (lv' := [(1, .int (x1 + (atP n py 0 x3))), (0, .ref (q 5)), (2, .int x2), (3, .int x3)]) hx hb dX2_weigh_52 rfl hl (by decide) rfl (fun ls hl => ?_)
        exact J53 _ _ _ _ _ _ _ _ _ _ hw _ _ _ (lv_sub hl [1, 0, 2, 3] rfl) hP hD hS
      · replace hw := hw.1 hc
        refine lv_aload_n hx hb dX2_weigh_27 rfl (lv_at hl 0 rfl) ?_
        refine lv_dup hx hb dX2_weigh_28 rfl ?_
        refine va_get (D := D) (ci := 2) (v := .int sb_) (C := RX2) (T := TX2) (N := 14) hx hb hts hin2 hown hK hP 0 rfl rfl 10 (by decide) f47 (fun _ h9 => h9) rfl dX2_weigh_29 ?_
        refine lv_iconst (v := (1 : Int32)) hx hb dX2_weigh_32 (by decide) ?_
        refine lv_iload_n hx hb dX2_weigh_33 rfl (lv_at hl 3 rfl) ?_
        refine lv_ishl hx hb dX2_weigh_34 ?_
        refine lv_ior hx hb dX2_weigh_35 ?_
        refine va_put (D := D) (ci := 2) (v := .int (sb_ ||| ((1 : Int32) <<< (x3 &&& 31)))) (ty := .int) (C := RX2) (T := TX2) (N := 14) hx hb hts hin2 tyX2 tyX2_ok nmX2 hown hK hP hD hS 0 rfl rfl 10 (by decide) f47 (fun _ h9 => h9) rfl (by decide +kernel) rfl rfl (Nat.le_of_ble_eq_true rfl) dX2_weigh_36 (fun H locs hP hD hS => ?_)
        have hP : va_P D vwCl (wS cI q os fl wa fo_ (sb_ ||| ((1 : Int32) <<< (x3 &&& 31))) lp_ fm_ pn_ tr fs sk ct_ nt_ ++ wP cI q (nI n) il kn sp py bo) H := hP
        have hD : va_D A (wS cI q os fl wa fo_ (sb_ ||| ((1 : Int32) <<< (x3 &&& 31))) lp_ fm_ pn_ tr fs sk ct_ nt_ ++ wP cI q (nI n) il kn sp py bo) := hD
        refine lv_goto (tgt := 53) hx hb dX2_weigh_39 (by decide) ?_
        exact J53 _ _ _ _ _ _ _ _ _ _ hw _ _ _ (lv_sub hl [0, 1, 2, 3] rfl) hP hD hS
  have hw := h_X2_weigh n os fl wa tr fs sk il kn sp py bo fo sb lp fm pn ct nt  hn  K6 R6
  unfold v_X2_weigh_0 at hw
  refine lv_iconst (v := (0 : Int32)) hx hb dX2_weigh_0 (by decide) ?_
  refine lv_istore_n (lv' := [(1, .int (0 : Int32)), (0, .ref (q 5))]) hx hb dX2_weigh_1 rfl hl (by decide) rfl (fun ls hl => ?_)
  refine lv_iconst (v := (0 : Int32)) hx hb dX2_weigh_2 (by decide) ?_
  refine lv_istore_n (lv' := [(2, .int (0 : Int32)), (1, .int (0 : Int32)), (0, .ref (q 5))]) hx hb dX2_weigh_3 rfl hl (by decide) rfl (fun ls hl => ?_)
  refine lv_iconst (v := (0 : Int32)) hx hb dX2_weigh_4 (by decide) ?_
  refine lv_istore_n (lv' := [(3, .int (0 : Int32)), (2, .int (0 : Int32)), (1, .int (0 : Int32)), (0, .ref (q 5))]) hx hb dX2_weigh_5 rfl hl (by decide) rfl (fun ls hl => ?_)
  exact k6e _ _ _ _ _ _ _ _ _ _ hw _ _ _ (lv_sub hl [3, 2, 1, 0] rfl) hP hD hS
set_option maxHeartbeats 4000000 in
set_option maxRecDepth 100000 in
theorem c_X2_weighIfWhole (l : Launch) (D : va_G) (cI cZ : ClassId) (q : Nat → Nat) (os : Int32) (fl : Int32) (wa : Int32) (fo : Int32) (sb : Int32) (lp : Int32) (fm : Int32) (pn : Int32) (tr : Nat → Int32) (fs : Nat → Int32) (sk : Nat → Int32) (ct : Nat → Int32) (nt : Nat → Int32) (n : Nat) (il : Int32) (kn : Nat → Int32) (sp : Nat → Int32) (py : Nat → Int32) (bo : Nat → Int32) (hn : n ≤ 6) : MV l yX2_weighIfWhole wsX2_weighIfWhole ({ frames := 8, cells := 0, slots := 0, locals := 320 }) D cI cZ [.ref (q 5)] (wS cI q os fl wa fo sb lp fm pn tr fs sk ct nt ++ wP cI q (nI n) il kn sp py bo) (fun u : Int32 × Int32 × Int32 × Int32 × Int32 × (Nat → Int32) × (Nat → Int32) × (Nat → Int32) => (wS cI q os fl wa u.1 u.2.1 u.2.2.1 u.2.2.2.1 u.2.2.2.2.1 tr fs u.2.2.2.2.2.1 u.2.2.2.2.2.2.1 u.2.2.2.2.2.2.2 ++ wP cI q (nI n) il kn sp py bo)) (fun u => u = wwB n kn py bo fl wa sk tr (fo, sb, lp, fm, pn, ct, nt)) := by
  refine MV_of (cc := cX2_weighIfWhole) (maxL := 2) (by decide) rfl (Nat.le_of_ble_eq_true rfl) (fun p e s m args below meth c A Q hx hb hml hown hts hK hN hA hret H locs ls hl hP hD hS => ?_)
  have hown : s.vm.findClass RX2 = some m.cls := hown
  have hl : lv_has ls 2 [(0, .ref (q 5))] := hl
  have hin2 : ∀ w ∈ u_ws RX2 TX2 14, w ∈ wsX2_weighIfWhole := fun w h => List.mem_cons_of_mem _ (List.mem_append_left _ (List.mem_append_right _ h))
  have f41 : (Cond.fieldLink RX2 41 "GlassBooths$Search" "wanted" "I").before args s = true := hts _ (by decide +kernel)
  obtain ⟨K6, k6i, k6e⟩ := ex_K9 (fun (x1 : Int32) (fo_ : Int32) (sb_ : Int32) (lp_ : Int32) (fm_ : Int32) (pn_ : Int32) (sk_ : Nat → Int32) (ct_ : Nat → Int32) (nt_ : Nat → Int32) => ∀ (H : Heap) (locs : List Loc) (ls : Array Slot), lv_has ls 2 [(0, .ref (q 5)), (1, .int x1)] → va_P D vwCl (wS cI q os fl wa fo_ sb_ lp_ fm_ pn_ tr fs sk_ ct_ nt_ ++ wP cI q (nI n) il kn sp py bo) H → va_D A (wS cI q os fl wa fo_ sb_ lp_ fm_ pn_ tr fs sk_ ct_ nt_ ++ wP cI q (nI n) il kn sp py bo) → va_S A s.heap H locs → W p l e (headSpec wsX2_weighIfWhole ({ frames := 8, cells := 0, slots := 0, locals := 320 })).room s m args below meth c H locs 0 0 Q (F0 m 6 ls []))
  have J31 : ∀ x1 fo_ sb_ lp_ fm_ pn_ sk_ ct_ nt_, v_X2_weighIfWhole_31 n os fl wa tr fs il kn sp py bo (fun u => u = wwB n kn py bo fl wa sk tr (fo, sb, lp, fm, pn, ct, nt)) K6 x1 fo_ sb_ lp_ fm_ pn_ sk_ ct_ nt_ → ∀ (H : Heap) (locs : List Loc) (ls : Array Slot), lv_has ls 2 [(0, .ref (q 5)), (1, .int x1)] → va_P D vwCl (wS cI q os fl wa fo_ sb_ lp_ fm_ pn_ tr fs sk_ ct_ nt_ ++ wP cI q (nI n) il kn sp py bo) H → va_D A (wS cI q os fl wa fo_ sb_ lp_ fm_ pn_ tr fs sk_ ct_ nt_ ++ wP cI q (nI n) il kn sp py bo) → va_S A s.heap H locs → W p l e (headSpec wsX2_weighIfWhole ({ frames := 8, cells := 0, slots := 0, locals := 320 })).room s m args below meth c H locs 0 0 Q (F0 m 31 ls []) := by
    intro x1 fo_ sb_ lp_ fm_ pn_ sk_ ct_ nt_ hw
    intro H locs ls hl hP hD hS
    unfold v_X2_weighIfWhole_31 at hw
    refine lv_iinc (v := x1 + 1) (lv' := [(1, .int (x1 + 1)), (0, .ref (q 5))]) hx hb dX2_weighIfWhole_31 hl (k := 1) rfl rfl (by decide) rfl (fun ls hl => ?_)
    refine lv_goto (tgt := 6) hx hb dX2_weighIfWhole_34 (by decide) ?_
    exact k6e _ _ _ _ _ _ _ _ _ hw _ _ _ (lv_sub hl [1, 0] rfl) hP hD hS
  have R6 : ∀ x1 fo_ sb_ lp_ fm_ pn_ sk_ ct_ nt_, v_X2_weighIfWhole_6 n os fl wa tr fs il kn sp py bo (fun u => u = wwB n kn py bo fl wa sk tr (fo, sb, lp, fm, pn, ct, nt)) K6 x1 fo_ sb_ lp_ fm_ pn_ sk_ ct_ nt_ → K6 x1 fo_ sb_ lp_ fm_ pn_ sk_ ct_ nt_ := by
    intro x1 fo_ sb_ lp_ fm_ pn_ sk_ ct_ nt_ hw
    refine k6i _ _ _ _ _ _ _ _ _ ?_
    intro H locs ls hl hP hD hS
    unfold v_X2_weighIfWhole_6 at hw
    refine lv_iload_n hx hb dX2_weighIfWhole_6 rfl (lv_at hl 1 rfl) ?_
    refine lv_iconst (v := (5 : Int32)) hx hb dX2_weighIfWhole_7 (by decide) ?_
    refine lv_icmp_ge (tgt := 37) hx hb dX2_weighIfWhole_8 (by decide) (fun hc => ?_) (fun hc => ?_)
    · replace hw := hw.1 hc
      refine lv_aload_n hx hb dX2_weighIfWhole_37 rfl (lv_at hl 0 rfl) ?_
      refine zc_v (fun u => (wS cI q os fl wa u.1 u.2.1 u.2.2.1 u.2.2.2.1 u.2.2.2.2.1 tr fs sk_ u.2.2.2.2.2.1 u.2.2.2.2.2.2 ++ wP cI q (nI n) il kn sp py bo)) [0, 1, 2, 3, 4, 5, 6, 7, 8, 9, 10] [] [0, 1, 2, 3, 4, 5, 6, 7, 8, 9, 10] (va_runV (As := []) (rest := []) ⟨hx, hb, hml, hown, hts⟩ ((c_X2_weigh l D cI cZ q os fl wa fo_ sb_ lp_ fm_ pn_ tr fs sk_ ct_ nt_ n il kn sp py bo hn ) H.size) (cwV 0 hts gX2_weighIfWhole_X2_weigh rfl rfl rfl (by decide +kernel) ⟨Nat.le_of_ble_eq_true rfl, Nat.le_of_ble_eq_true rfl⟩) (pv_of hK hN hP hD [0, 1, 2, 3, 4, 5, 6, 7, 8, 9, 10] rfl rfl 2 0 rfl rfl) rfl rfl hl.1 rfl (lv_room (Nat.le_of_ble_eq_true rfl)) dX2_weighIfWhole_38 ⟨Nat.zero_le _, Nat.zero_le _⟩) hP hD hS hA rfl rfl rfl (by decide) (fun _ => rfl) rfl (fun u38 H locs hu hP hD hS => ?_)
      replace hw := hw u38 hu
      have hP : va_P D vwCl (wS cI q os fl wa u38.1 u38.2.1 u38.2.2.1 u38.2.2.2.1 u38.2.2.2.2.1 tr fs sk_ u38.2.2.2.2.2.1 u38.2.2.2.2.2.2 ++ wP cI q (nI n) il kn sp py bo) H := hP
      have hD : va_D A (wS cI q os fl wa u38.1 u38.2.1 u38.2.2.1 u38.2.2.2.1 u38.2.2.2.2.1 tr fs sk_ u38.2.2.2.2.2.1 u38.2.2.2.2.2.2 ++ wP cI q (nI n) il kn sp py bo) := hD
      exact hret (u38.1, u38.2.1, u38.2.2.1, u38.2.2.2.1, u38.2.2.2.2.1, sk_, u38.2.2.2.2.2.1, u38.2.2.2.2.2.2) _ _ _ _ hw hP hD hS dX2_weighIfWhole_41
    · replace hw := hw.2 hc
      refine lv_aload_n hx hb dX2_weighIfWhole_11 rfl (lv_at hl 0 rfl) ?_
      refine va_get (D := D) (ci := 2) (v := .int wa) (C := RX2) (T := TX2) (N := 14) hx hb hts hin2 hown hK hP 0 rfl rfl 8 (by decide) f41 (fun _ h9 => h9) rfl dX2_weighIfWhole_12 ?_
      refine lv_iload_n hx hb dX2_weighIfWhole_15 rfl (lv_at hl 1 rfl) ?_
      refine zc_i0 (va_runSN (As := [.int wa, .int x1]) (rest := []) ⟨hx, hb, hml, hown, hts⟩ ((c_X3_holds l D cI cZ wa x1  ) H.size) ⟨va_cnB 2 hts gX2_weighIfWhole_X3_holds_n62 rfl rfl rfl (hN _ (List.mem_of_getElem? (i := 16) rfl)) (hts _ (by decide +kernel)) (by decide +kernel) ⟨Nat.le_of_ble_eq_true rfl, Nat.le_of_ble_eq_true rfl⟩, hts _ (by decide +kernel), trivial⟩ (ps_of hK hN hP hD [] rfl rfl) rfl rfl hl.1 rfl (lv_room (Nat.le_of_ble_eq_true rfl)) dX2_weighIfWhole_16 ⟨Nat.zero_le _, Nat.zero_le _⟩) hP hD hS hA (fun r u H locs hu hP hD hS => ?_)
      subst hu
      refine lv_if_eq (tgt := 31) hx hb dX2_weighIfWhole_19 (by decide) (fun hc => ?_) (fun hc => ?_)
      · replace hw := hw.1 hc
        exact J31 _ _ _ _ _ _ _ _ _ hw _ _ _ (lv_sub hl [0, 1] rfl) hP hD hS
      · replace hw := hw.2 hc
        refine lv_aload_n hx hb dX2_weighIfWhole_22 rfl (lv_at hl 0 rfl) ?_
        refine lv_iload_n hx hb dX2_weighIfWhole_23 rfl (lv_at hl 1 rfl) ?_
        obtain ⟨hp0, hw⟩ := hw
        refine zc_i (fun u => (wS cI q os fl wa fo_ sb_ lp_ fm_ pn_ tr fs sk_ ct_ nt_ ++ wP cI q (nI n) il kn sp py bo)) [0, 1, 2, 3, 4, 5, 6, 7, 8, 9, 10] [] [0, 1, 2, 3, 4, 5, 6, 7, 8, 9, 10] (va_runV (As := [.int x1]) (rest := []) ⟨hx, hb, hml, hown, hts⟩ ((c_X2_reachesFloors l D cI cZ q os fl wa fo_ sb_ lp_ fm_ pn_ tr fs sk_ ct_ nt_ n il kn sp py bo x1 hn hp0) H.size) (cwV 1 hts gX2_weighIfWhole_X2_reachesFloors rfl rfl rfl (by decide +kernel) ⟨Nat.le_of_ble_eq_true rfl, Nat.le_of_ble_eq_true rfl⟩) (pv_of hK hN hP hD [0, 1, 2, 3, 4, 5, 6, 7, 8, 9, 10] rfl rfl 2 0 rfl rfl) rfl rfl hl.1 rfl (lv_room (Nat.le_of_ble_eq_true rfl)) dX2_weighIfWhole_24 ⟨Nat.zero_le _, Nat.zero_le _⟩) hP hD hS hA rfl rfl rfl (by decide) (fun _ => rfl) rfl (fun r u H locs hu hP hD hS => ?_)
        subst hu
        have hP : va_P D vwCl (wS cI q os fl wa fo_ sb_ lp_ fm_ pn_ tr fs sk_ ct_ nt_ ++ wP cI q (nI n) il kn sp py bo) H := hP
        have hD : va_D A (wS cI q os fl wa fo_ sb_ lp_ fm_ pn_ tr fs sk_ ct_ nt_ ++ wP cI q (nI n) il kn sp py bo) := hD
        refine lv_if_ne (tgt := 31) hx hb dX2_weighIfWhole_27 (by decide) (fun hc => ?_) (fun hc => ?_)
        · replace hw := hw.2 hc
          exact J31 _ _ _ _ _ _ _ _ _ hw _ _ _ (lv_sub hl [0, 1] rfl) hP hD hS
        · replace hw := hw.1 hc
          exact hret (fo_, sb_, lp_, fm_, pn_, sk_, ct_, nt_) _ _ _ _ hw hP hD hS dX2_weighIfWhole_30
  have hw := h_X2_weighIfWhole n os fl wa tr fs il kn sp py bo fo sb lp fm pn sk ct nt  hn  K6 R6
  unfold v_X2_weighIfWhole_0 at hw
  refine lv_aload_n hx hb dX2_weighIfWhole_0 rfl (lv_at hl 0 rfl) ?_
  refine zc_v (fun u => (wS cI q os fl wa fo sb lp fm pn tr fs u ct nt ++ wP cI q (nI n) il kn sp py bo)) [0, 1, 2, 3, 4, 5, 6, 7, 8, 9, 10] [] [0, 1, 2, 3, 4, 5, 6, 7, 8, 9, 10] (va_runV (As := []) (rest := []) ⟨hx, hb, hml, hown, hts⟩ ((c_X2_shareKnown l D cI cZ q os fl wa fo sb lp fm pn tr fs sk ct nt n il kn sp py bo hn ) H.size) (cwV 0 hts gX2_weighIfWhole_X2_shareKnown rfl rfl rfl (by decide +kernel) ⟨Nat.le_of_ble_eq_true rfl, Nat.le_of_ble_eq_true rfl⟩) (pv_of hK hN hP hD [0, 1, 2, 3, 4, 5, 6, 7, 8, 9, 10] rfl rfl 2 0 rfl rfl) rfl rfl hl.1 rfl (lv_room (Nat.le_of_ble_eq_true rfl)) dX2_weighIfWhole_1 ⟨Nat.zero_le _, Nat.zero_le _⟩) hP hD hS hA rfl rfl rfl (by decide) (fun _ => rfl) rfl (fun u H locs hu hP hD hS => ?_)
  subst hu
  have hP : va_P D vwCl (wS cI q os fl wa fo sb lp fm pn tr fs (shK kn tr sk n) ct nt ++ wP cI q (nI n) il kn sp py bo) H := hP
  have hD : va_D A (wS cI q os fl wa fo sb lp fm pn tr fs (shK kn tr sk n) ct nt ++ wP cI q (nI n) il kn sp py bo) := hD
  refine lv_iconst (v := (0 : Int32)) hx hb dX2_weighIfWhole_4 (by decide) ?_
  refine lv_istore_n (lv' := [(1, .int (0 : Int32)), (0, .ref (q 5))]) hx hb dX2_weighIfWhole_5 rfl hl (by decide) rfl (fun ls hl => ?_)
  exact k6e _ _ _ _ _ _ _ _ _ hw _ _ _ (lv_sub hl [1, 0] rfl) hP hD hS
set_option maxHeartbeats 4000000 in
set_option maxRecDepth 100000 in
theorem c_X2_placeIn (d k : Nat) (l : Launch) (D : va_G) (cI cZ : ClassId) (q : Nat → Nat) (os : Int32) (fl : Int32) (wa : Int32) (fo : Int32) (sb : Int32) (lp : Int32) (fm : Int32) (pn : Int32) (tr : Nat → Int32) (fs : Nat → Int32) (sk : Nat → Int32) (ct : Nat → Int32) (nt : Nat → Int32) (n : Nat) (il : Int32) (kn : Nat → Int32) (sp : Nat → Int32) (py : Nat → Int32) (bo : Nat → Int32) (a1 : Int32) (a2 : Int32) (hn : n ≤ 6) (hkd : k + d = n) (hF : k < n → ∀ (os fo sb lp fm pn : Int32) (tr fs sk ct nt : Nat → Int32) (v : Int32), v = nI (k + 1) → MV l yX2_placeFrom wsX2_placeFrom (rF (d - 1)) D cI cZ [.ref (q 5), .int v] (wS cI q os fl wa fo sb lp fm pn tr fs sk ct nt ++ wP cI q (nI n) il kn sp py bo) (fun u : PS => (wS cI q u.1 fl wa u.2.1 u.2.2.1 u.2.2.2.1 u.2.2.2.2.1 u.2.2.2.2.2.1 u.2.2.2.2.2.2.1 u.2.2.2.2.2.2.2.1 u.2.2.2.2.2.2.2.2.1 u.2.2.2.2.2.2.2.2.2.1 u.2.2.2.2.2.2.2.2.2.2 ++ wP cI q (nI n) il kn sp py bo)) (fun u => u = pf n il kn sp py bo fl wa (d - 1) (k + 1) (os, fo, sb, lp, fm, pn, tr, fs, sk, ct, nt))) (h0 : k < n) (h1 : vp_in a1 5) (h2 : a2 = nI k) : MV l yX2_placeIn wsX2_placeIn ({ frames := 8 * d + 16, cells := 0, slots := 0, locals := 200 * d + 500 }) D cI cZ [.ref (q 5), .int a1, .int a2] (wS cI q os fl wa fo sb lp fm pn tr fs sk ct nt ++ wP cI q (nI n) il kn sp py bo) (fun u : Int32 × Int32 × Int32 × Int32 × Int32 × Int32 × (Nat → Int32) × (Nat → Int32) × (Nat → Int32) × (Nat → Int32) × (Nat → Int32) => (wS cI q u.1 fl wa u.2.1 u.2.2.1 u.2.2.2.1 u.2.2.2.2.1 u.2.2.2.2.2.1 u.2.2.2.2.2.2.1 u.2.2.2.2.2.2.2.1 u.2.2.2.2.2.2.2.2.1 u.2.2.2.2.2.2.2.2.2.1 u.2.2.2.2.2.2.2.2.2.2 ++ wP cI q (nI n) il kn sp py bo)) (fun u => u = piF n il kn sp py bo fl wa d k a1 (os, fo, sb, lp, fm, pn, tr, fs, sk, ct, nt)) := by
  refine MV_of (cc := cX2_placeIn) (maxL := 3) (by decide) rfl (Nat.le_of_ble_eq_true rfl) (fun p e s m args below meth c A Q hx hb hml hown hts hK hN hA hret H locs ls hl hP hD hS => ?_)
  have hown : s.vm.findClass RX2 = some m.cls := hown
  have hl : lv_has ls 3 [(0, .ref (q 5)), (1, .int a1), (2, .int a2)] := hl
  have hin2 : ∀ w ∈ u_ws RX2 TX2 14, w ∈ wsX2_placeIn := fun w h => List.mem_cons_of_mem _ (List.mem_append_left _ (List.mem_append_right _ h))
  have f15 : (Cond.fieldLink RX2 15 "GlassBooths$Search" "freeSeats" "[I").before args s = true := hts _ (by decide +kernel)
  have f27 : (Cond.fieldLink RX2 27 "GlassBooths$Search" "people" "LGlassBooths$People;").before args s = true := hts _ (by decide +kernel)
  have f9 : (Cond.fieldLink RX2 9 "GlassBooths$Search" "trial" "[I").before args s = true := hts _ (by decide +kernel)
  have f59 : (Cond.fieldLink RX2 59 "GlassBooths$Search" "openSeats" "I").before args s = true := hts _ (by decide +kernel)
  have hw := h_X2_placeIn d k n fl wa il kn sp py bo os fo sb lp fm pn tr fs sk ct nt a1 a2 hn hkd h0 h1 h2  
  unfold v_X2_placeIn_0 at hw
  refine lv_aload_n hx hb dX2_placeIn_0 rfl (lv_at hl 0 rfl) ?_
  refine va_get (D := D) (ci := 2) (v := .ref (q 7)) (C := RX2) (T := TX2) (N := 14) hx hb hts hin2 hown hK hP 0 rfl rfl 2 (by decide) f15 (fun _ h9 => h9) rfl dX2_placeIn_1 ?_
  refine lv_iload_n hx hb dX2_placeIn_4 rfl (lv_at hl 1 rfl) ?_
  obtain ⟨hv, hw⟩ := hw
  refine va_iald hx hb hK hP 2 0 rfl rfl hv dX2_placeIn_5 ?_
  refine lv_if_eq (tgt := 21) hx hb dX2_placeIn_6 (by decide) (fun hc => ?_) (fun hc => ?_)
  · replace hw := hw.1 hc
    exact hret (os, fo, sb, lp, fm, pn, tr, fs, sk, ct, nt) _ _ _ _ hw hP hD hS dX2_placeIn_21
  · replace hw := hw.2 hc
    refine lv_aload_n hx hb dX2_placeIn_9 rfl (lv_at hl 0 rfl) ?_
    refine va_get (D := D) (ci := 2) (v := .ref (q 0)) (C := RX2) (T := TX2) (N := 14) hx hb hts hin2 hown hK hP 0 rfl rfl 0 (by decide) f27 (fun _ h9 => h9) rfl dX2_placeIn_10 ?_
    refine lv_iload_n hx hb dX2_placeIn_13 rfl (lv_at hl 2 rfl) ?_
    refine lv_iload_n hx hb dX2_placeIn_14 rfl (lv_at hl 1 rfl) ?_
    refine zc_i (fun u => (wS cI q os fl wa fo sb lp fm pn tr fs sk ct nt ++ wP cI q (nI n) il kn sp py bo)) [6, 7, 8, 9, 10] [0, 1, 2, 3, 4, 5] [0, 1, 2, 3, 4, 5, 6, 7, 8, 9, 10] (va_runV (As := [.int a2, .int a1]) (rest := []) ⟨hx, hb, hml, hown, hts⟩ ((c_X1_canTurnInto l D cI cZ q n il kn sp py bo a2 a1 hn ) H.size) (cwV 2 hts gX2_placeIn_X1_canTurnInto rfl rfl rfl (by decide +kernel) ⟨by show 6 + 1 ≤ 8 * d + 16; omega, by show 8 + (3 + 11) + (240) ≤ 200 * d + 500; omega⟩) (pv_of hK hN hP hD [6, 7, 8, 9, 10] rfl rfl 1 0 rfl rfl) rfl rfl hl.1 rfl (lv_room (Nat.le_of_ble_eq_true rfl)) dX2_placeIn_15 ⟨Nat.zero_le _, Nat.zero_le _⟩) hP hD hS hA rfl rfl rfl (by decide) (fun _ => rfl) rfl (fun r u H locs hu hP hD hS => ?_)
    subst hu
    have hP : va_P D vwCl (wS cI q os fl wa fo sb lp fm pn tr fs sk ct nt ++ wP cI q (nI n) il kn sp py bo) H := hP
    have hD : va_D A (wS cI q os fl wa fo sb lp fm pn tr fs sk ct nt ++ wP cI q (nI n) il kn sp py bo) := hD
    refine lv_if_ne (tgt := 22) hx hb dX2_placeIn_18 (by decide) (fun hc => ?_) (fun hc => ?_)
    · replace hw := hw.2 hc
      refine lv_aload_n hx hb dX2_placeIn_22 rfl (lv_at hl 0 rfl) ?_
      refine va_get (D := D) (ci := 2) (v := .ref (q 6)) (C := RX2) (T := TX2) (N := 14) hx hb hts hin2 hown hK hP 0 rfl rfl 1 (by decide) f9 (fun _ h9 => h9) rfl dX2_placeIn_23 ?_
      refine lv_iload_n hx hb dX2_placeIn_26 rfl (lv_at hl 2 rfl) ?_
      refine lv_iload_n hx hb dX2_placeIn_27 rfl (lv_at hl 1 rfl) ?_
      obtain ⟨hv, hw⟩ := hw
      refine va_iast hx hb hK hP hD hS 1 0 rfl rfl hv dX2_placeIn_28 (fun H locs hP hD hS => ?_)
      have hP : va_P D vwCl (wS cI q os fl wa fo sb lp fm pn (upd tr a2.toNatClampNeg a1) fs sk ct nt ++ wP cI q (nI n) il kn sp py bo) H := hP
      have hD : va_D A (wS cI q os fl wa fo sb lp fm pn (upd tr a2.toNatClampNeg a1) fs sk ct nt ++ wP cI q (nI n) il kn sp py bo) := hD
      refine lv_aload_n hx hb dX2_placeIn_29 rfl (lv_at hl 0 rfl) ?_
      refine va_get (D := D) (ci := 2) (v := .ref (q 7)) (C := RX2) (T := TX2) (N := 14) hx hb hts hin2 hown hK hP 0 rfl rfl 2 (by decide) f15 (fun _ h9 => h9) rfl dX2_placeIn_30 ?_
      refine lv_iload_n hx hb dX2_placeIn_33 rfl (lv_at hl 1 rfl) ?_
      refine lv_dup2_11 hx hb dX2_placeIn_34 rfl rfl ?_
      obtain ⟨hv, hw⟩ := hw
      refine va_iald hx hb hK hP 2 0 rfl rfl hv dX2_placeIn_35 ?_
      refine lv_iconst (v := (1 : Int32)) hx hb dX2_placeIn_36 (by decide) ?_
      refine lv_isub hx hb dX2_placeIn_37 ?_
      obtain ⟨hv, hw⟩ := hw
      refine va_iast hx hb hK hP hD hS 2 0 rfl rfl hv dX2_placeIn_38 (fun H locs hP hD hS => ?_)
      have hP : va_P D vwCl (wS cI q os fl wa fo sb lp fm pn (upd tr a2.toNatClampNeg a1) (upd fs a1.toNatClampNeg ((fs a1.toNatClampNeg) - (1 : Int32))) sk ct nt ++ wP cI q (nI n) il kn sp py bo) H := hP
      have hD : va_D A (wS cI q os fl wa fo sb lp fm pn (upd tr a2.toNatClampNeg a1) (upd fs a1.toNatClampNeg ((fs a1.toNatClampNeg) - (1 : Int32))) sk ct nt ++ wP cI q (nI n) il kn sp py bo) := hD
      refine lv_aload_n hx hb dX2_placeIn_39 rfl (lv_at hl 0 rfl) ?_
      refine lv_dup hx hb dX2_placeIn_40 rfl ?_
      refine va_get (D := D) (ci := 2) (v := .int os) (C := RX2) (T := TX2) (N := 14) hx hb hts hin2 hown hK hP 0 rfl rfl 6 (by decide) f59 (fun _ h9 => h9) rfl dX2_placeIn_41 ?_
      refine lv_iconst (v := (1 : Int32)) hx hb dX2_placeIn_44 (by decide) ?_
      refine lv_isub hx hb dX2_placeIn_45 ?_
      refine va_put (D := D) (ci := 2) (v := .int (os - (1 : Int32))) (ty := .int) (C := RX2) (T := TX2) (N := 14) hx hb hts hin2 tyX2 tyX2_ok nmX2 hown hK hP hD hS 0 rfl rfl 6 (by decide) f59 (fun _ h9 => h9) rfl (by decide +kernel) rfl rfl (Nat.le_of_ble_eq_true rfl) dX2_placeIn_46 (fun H locs hP hD hS => ?_)
      have hP : va_P D vwCl (wS cI q (os - (1 : Int32)) fl wa fo sb lp fm pn (upd tr a2.toNatClampNeg a1) (upd fs a1.toNatClampNeg ((fs a1.toNatClampNeg) - (1 : Int32))) sk ct nt ++ wP cI q (nI n) il kn sp py bo) H := hP
      have hD : va_D A (wS cI q (os - (1 : Int32)) fl wa fo sb lp fm pn (upd tr a2.toNatClampNeg a1) (upd fs a1.toNatClampNeg ((fs a1.toNatClampNeg) - (1 : Int32))) sk ct nt ++ wP cI q (nI n) il kn sp py bo) := hD
      refine lv_aload_n hx hb dX2_placeIn_49 rfl (lv_at hl 0 rfl) ?_
      refine lv_iload_n hx hb dX2_placeIn_50 rfl (lv_at hl 2 rfl) ?_
      refine lv_iconst (v := (1 : Int32)) hx hb dX2_placeIn_51 (by decide) ?_
      refine lv_iadd hx hb dX2_placeIn_52 ?_
      obtain ⟨hp0, hp1, hw⟩ := hw
      refine zc_v (fun u => (wS cI q u.1 fl wa u.2.1 u.2.2.1 u.2.2.2.1 u.2.2.2.2.1 u.2.2.2.2.2.1 u.2.2.2.2.2.2.1 u.2.2.2.2.2.2.2.1 u.2.2.2.2.2.2.2.2.1 u.2.2.2.2.2.2.2.2.2.1 u.2.2.2.2.2.2.2.2.2.2 ++ wP cI q (nI n) il kn sp py bo)) [0, 1, 2, 3, 4, 5, 6, 7, 8, 9, 10] [] [0, 1, 2, 3, 4, 5, 6, 7, 8, 9, 10] (va_runV (As := [.int (a2 + (1 : Int32))]) (rest := []) ⟨hx, hb, hml, hown, hts⟩ ((hF hp0 (os - (1 : Int32)) fo sb lp fm pn (upd tr a2.toNatClampNeg a1) (upd fs a1.toNatClampNeg ((fs a1.toNatClampNeg) - (1 : Int32))) sk ct nt (a2 + (1 : Int32)) hp1) H.size) (cwV 1 hts gX2_placeIn_X2_placeFrom rfl rfl rfl (by decide +kernel) ⟨by show 8 * (d - 1) + 20 + 1 ≤ 8 * d + 16; omega, by show 8 + (3 + 11) + (200 * (d - 1) + 600) ≤ 200 * d + 500; omega⟩) (pv_of hK hN hP hD [0, 1, 2, 3, 4, 5, 6, 7, 8, 9, 10] rfl rfl 2 0 rfl rfl) rfl rfl hl.1 rfl (lv_room (Nat.le_of_ble_eq_true rfl)) dX2_placeIn_53 ⟨Nat.zero_le _, Nat.zero_le _⟩) hP hD hS hA rfl rfl rfl (by decide) (fun _ => rfl) rfl (fun u53 H locs hu hP hD hS => ?_)
      replace hw := hw u53 hu
      have hP : va_P D vwCl (wS cI q u53.1 fl wa u53.2.1 u53.2.2.1 u53.2.2.2.1 u53.2.2.2.2.1 u53.2.2.2.2.2.1 u53.2.2.2.2.2.2.1 u53.2.2.2.2.2.2.2.1 u53.2.2.2.2.2.2.2.2.1 u53.2.2.2.2.2.2.2.2.2.1 u53.2.2.2.2.2.2.2.2.2.2 ++ wP cI q (nI n) il kn sp py bo) H := hP
      have hD : va_D A (wS cI q u53.1 fl wa u53.2.1 u53.2.2.1 u53.2.2.2.1 u53.2.2.2.2.1 u53.2.2.2.2.2.1 u53.2.2.2.2.2.2.1 u53.2.2.2.2.2.2.2.1 u53.2.2.2.2.2.2.2.2.1 u53.2.2.2.2.2.2.2.2.2.1 u53.2.2.2.2.2.2.2.2.2.2 ++ wP cI q (nI n) il kn sp py bo) := hD
      refine lv_aload_n hx hb dX2_placeIn_56 rfl (lv_at hl 0 rfl) ?_
      refine va_get (D := D) (ci := 2) (v := .ref (q 7)) (C := RX2) (T := TX2) (N := 14) hx hb hts hin2 hown hK hP 0 rfl rfl 2 (by decide) f15 (fun _ h9 => h9) rfl dX2_placeIn_57 ?_
      refine lv_iload_n hx hb dX2_placeIn_60 rfl (lv_at hl 1 rfl) ?_
      refine lv_dup2_11 hx hb dX2_placeIn_61 rfl rfl ?_
      obtain ⟨hv, hw⟩ := hw
      refine va_iald hx hb hK hP 2 0 rfl rfl hv dX2_placeIn_62 ?_
      refine lv_iconst (v := (1 : Int32)) hx hb dX2_placeIn_63 (by decide) ?_
      refine lv_iadd hx hb dX2_placeIn_64 ?_
      obtain ⟨hv, hw⟩ := hw
      refine va_iast hx hb hK hP hD hS 2 0 rfl rfl hv dX2_placeIn_65 (fun H locs hP hD hS => ?_)
      have hP : va_P D vwCl (wS cI q u53.1 fl wa u53.2.1 u53.2.2.1 u53.2.2.2.1 u53.2.2.2.2.1 u53.2.2.2.2.2.1 u53.2.2.2.2.2.2.1 (upd u53.2.2.2.2.2.2.2.1 a1.toNatClampNeg ((u53.2.2.2.2.2.2.2.1 a1.toNatClampNeg) + (1 : Int32))) u53.2.2.2.2.2.2.2.2.1 u53.2.2.2.2.2.2.2.2.2.1 u53.2.2.2.2.2.2.2.2.2.2 ++ wP cI q (nI n) il kn sp py bo) H := hP
      have hD : va_D A (wS cI q u53.1 fl wa u53.2.1 u53.2.2.1 u53.2.2.2.1 u53.2.2.2.2.1 u53.2.2.2.2.2.1 u53.2.2.2.2.2.2.1 (upd u53.2.2.2.2.2.2.2.1 a1.toNatClampNeg ((u53.2.2.2.2.2.2.2.1 a1.toNatClampNeg) + (1 : Int32))) u53.2.2.2.2.2.2.2.2.1 u53.2.2.2.2.2.2.2.2.2.1 u53.2.2.2.2.2.2.2.2.2.2 ++ wP cI q (nI n) il kn sp py bo) := hD
      refine lv_aload_n hx hb dX2_placeIn_66 rfl (lv_at hl 0 rfl) ?_
      refine lv_dup hx hb dX2_placeIn_67 rfl ?_
      refine va_get (D := D) (ci := 2) (v := .int u53.1) (C := RX2) (T := TX2) (N := 14) hx hb hts hin2 hown hK hP 0 rfl rfl 6 (by decide) f59 (fun _ h9 => h9) rfl dX2_placeIn_68 ?_
      refine lv_iconst (v := (1 : Int32)) hx hb dX2_placeIn_71 (by decide) ?_
      refine lv_iadd hx hb dX2_placeIn_72 ?_
      refine va_put (D := D) (ci := 2) (v := .int (u53.1 + (1 : Int32))) (ty := .int) (C := RX2) (T := TX2) (N := 14) hx hb hts hin2 tyX2 tyX2_ok nmX2 hown hK hP hD hS 0 rfl rfl 6 (by decide) f59 (fun _ h9 => h9) rfl (by decide +kernel) rfl rfl (Nat.le_of_ble_eq_true rfl) dX2_placeIn_73 (fun H locs hP hD hS => ?_)
      have hP : va_P D vwCl (wS cI q (u53.1 + (1 : Int32)) fl wa u53.2.1 u53.2.2.1 u53.2.2.2.1 u53.2.2.2.2.1 u53.2.2.2.2.2.1 u53.2.2.2.2.2.2.1 (upd u53.2.2.2.2.2.2.2.1 a1.toNatClampNeg ((u53.2.2.2.2.2.2.2.1 a1.toNatClampNeg) + (1 : Int32))) u53.2.2.2.2.2.2.2.2.1 u53.2.2.2.2.2.2.2.2.2.1 u53.2.2.2.2.2.2.2.2.2.2 ++ wP cI q (nI n) il kn sp py bo) H := hP
      have hD : va_D A (wS cI q (u53.1 + (1 : Int32)) fl wa u53.2.1 u53.2.2.1 u53.2.2.2.1 u53.2.2.2.2.1 u53.2.2.2.2.2.1 u53.2.2.2.2.2.2.1 (upd u53.2.2.2.2.2.2.2.1 a1.toNatClampNeg ((u53.2.2.2.2.2.2.2.1 a1.toNatClampNeg) + (1 : Int32))) u53.2.2.2.2.2.2.2.2.1 u53.2.2.2.2.2.2.2.2.2.1 u53.2.2.2.2.2.2.2.2.2.2 ++ wP cI q (nI n) il kn sp py bo) := hD
      exact hret (u53.1 + (1 : Int32), u53.2.1, u53.2.2.1, u53.2.2.2.1, u53.2.2.2.2.1, u53.2.2.2.2.2.1, u53.2.2.2.2.2.2.1, upd u53.2.2.2.2.2.2.2.1 a1.toNatClampNeg ((u53.2.2.2.2.2.2.2.1 a1.toNatClampNeg) + (1 : Int32)), u53.2.2.2.2.2.2.2.2.1, u53.2.2.2.2.2.2.2.2.2.1, u53.2.2.2.2.2.2.2.2.2.2) _ _ _ _ hw hP hD hS dX2_placeIn_76
    · replace hw := hw.1 hc
      exact hret (os, fo, sb, lp, fm, pn, tr, fs, sk, ct, nt) _ _ _ _ hw hP hD hS dX2_placeIn_21
set_option maxHeartbeats 4000000 in
set_option maxRecDepth 100000 in
theorem c_X2_placeFrom (d k : Nat) (l : Launch) (D : va_G) (cI cZ : ClassId) (q : Nat → Nat) (os : Int32) (fl : Int32) (wa : Int32) (fo : Int32) (sb : Int32) (lp : Int32) (fm : Int32) (pn : Int32) (tr : Nat → Int32) (fs : Nat → Int32) (sk : Nat → Int32) (ct : Nat → Int32) (nt : Nat → Int32) (n : Nat) (il : Int32) (kn : Nat → Int32) (sp : Nat → Int32) (py : Nat → Int32) (bo : Nat → Int32) (a1 : Int32) (hn : n ≤ 6) (hkd : k + d = n) (hF : k < n → ∀ (os fo sb lp fm pn : Int32) (tr fs sk ct nt : Nat → Int32) (v : Int32), v = nI (k + 1) → MV l yX2_placeFrom wsX2_placeFrom (rF (d - 1)) D cI cZ [.ref (q 5), .int v] (wS cI q os fl wa fo sb lp fm pn tr fs sk ct nt ++ wP cI q (nI n) il kn sp py bo) (fun u : PS => (wS cI q u.1 fl wa u.2.1 u.2.2.1 u.2.2.2.1 u.2.2.2.2.1 u.2.2.2.2.2.1 u.2.2.2.2.2.2.1 u.2.2.2.2.2.2.2.1 u.2.2.2.2.2.2.2.2.1 u.2.2.2.2.2.2.2.2.2.1 u.2.2.2.2.2.2.2.2.2.2 ++ wP cI q (nI n) il kn sp py bo)) (fun u => u = pf n il kn sp py bo fl wa (d - 1) (k + 1) (os, fo, sb, lp, fm, pn, tr, fs, sk, ct, nt))) (h0 : a1 = nI k) : MV l yX2_placeFrom wsX2_placeFrom ({ frames := 8 * d + 20, cells := 0, slots := 0, locals := 200 * d + 600 }) D cI cZ [.ref (q 5), .int a1] (wS cI q os fl wa fo sb lp fm pn tr fs sk ct nt ++ wP cI q (nI n) il kn sp py bo) (fun u : Int32 × Int32 × Int32 × Int32 × Int32 × Int32 × (Nat → Int32) × (Nat → Int32) × (Nat → Int32) × (Nat → Int32) × (Nat → Int32) => (wS cI q u.1 fl wa u.2.1 u.2.2.1 u.2.2.2.1 u.2.2.2.2.1 u.2.2.2.2.2.1 u.2.2.2.2.2.2.1 u.2.2.2.2.2.2.2.1 u.2.2.2.2.2.2.2.2.1 u.2.2.2.2.2.2.2.2.2.1 u.2.2.2.2.2.2.2.2.2.2 ++ wP cI q (nI n) il kn sp py bo)) (fun u => u = pf n il kn sp py bo fl wa d k (os, fo, sb, lp, fm, pn, tr, fs, sk, ct, nt)) := by
  refine MV_of (cc := cX2_placeFrom) (maxL := 3) (by decide) rfl (Nat.le_of_ble_eq_true rfl) (fun p e s m args below meth c A Q hx hb hml hown hts hK hN hA hret H locs ls hl hP hD hS => ?_)
  have hown : s.vm.findClass RX2 = some m.cls := hown
  have hl : lv_has ls 3 [(0, .ref (q 5)), (1, .int a1)] := hl
  have hin1 : ∀ w ∈ u_ws RX1 TX1 6, w ∈ wsX2_placeFrom := fun w h => List.mem_cons_of_mem _ (List.mem_append_right _ h)
  have hin2 : ∀ w ∈ u_ws RX2 TX2 14, w ∈ wsX2_placeFrom := fun w h => List.mem_cons_of_mem _ (List.mem_append_left _ (List.mem_append_right _ h))
  have f59 : (Cond.fieldLink RX2 59 "GlassBooths$Search" "openSeats" "I").before args s = true := hts _ (by decide +kernel)
  have f27 : (Cond.fieldLink RX2 27 "GlassBooths$Search" "people" "LGlassBooths$People;").before args s = true := hts _ (by decide +kernel)
  have f66 : (Cond.fieldLinkNest RX2 66 "GlassBooths$People" "size" "I" "GlassBooths").before args s = true := va_Nw.use rfl (hN _ (List.mem_of_getElem? (i := 1) rfl))
  have f9 : (Cond.fieldLink RX2 9 "GlassBooths$Search" "trial" "[I").before args s = true := hts _ (by decide +kernel)
  obtain ⟨K35, k35i, k35e⟩ := ex_K13 (fun (x1 : Int32) (x2 : Int32) (os_ : Int32) (fo_ : Int32) (sb_ : Int32) (lp_ : Int32) (fm_ : Int32) (pn_ : Int32) (tr_ : Nat → Int32) (fs_ : Nat → Int32) (sk_ : Nat → Int32) (ct_ : Nat → Int32) (nt_ : Nat → Int32) => ∀ (H : Heap) (locs : List Loc) (ls : Array Slot), lv_has ls 3 [(0, .ref (q 5)), (1, .int x1), (2, .int x2)] → va_P D vwCl (wS cI q os_ fl wa fo_ sb_ lp_ fm_ pn_ tr_ fs_ sk_ ct_ nt_ ++ wP cI q (nI n) il kn sp py bo) H → va_D A (wS cI q os_ fl wa fo_ sb_ lp_ fm_ pn_ tr_ fs_ sk_ ct_ nt_ ++ wP cI q (nI n) il kn sp py bo) → va_S A s.heap H locs → W p l e (headSpec wsX2_placeFrom ({ frames := 8 * d + 20, cells := 0, slots := 0, locals := 200 * d + 600 })).room s m args below meth c H locs 0 0 Q (F0 m 35 ls []))
  have R35 : ∀ x1 x2 os_ fo_ sb_ lp_ fm_ pn_ tr_ fs_ sk_ ct_ nt_, v_X2_placeFrom_35 d k n fl wa il kn sp py bo (fun u => u = pf n il kn sp py bo fl wa d k (os, fo, sb, lp, fm, pn, tr, fs, sk, ct, nt)) K35 x1 x2 os_ fo_ sb_ lp_ fm_ pn_ tr_ fs_ sk_ ct_ nt_ → K35 x1 x2 os_ fo_ sb_ lp_ fm_ pn_ tr_ fs_ sk_ ct_ nt_ := by
    intro x1 x2 os_ fo_ sb_ lp_ fm_ pn_ tr_ fs_ sk_ ct_ nt_ hw
    refine k35i _ _ _ _ _ _ _ _ _ _ _ _ _ ?_
    intro H locs ls hl hP hD hS
    unfold v_X2_placeFrom_35 at hw
    refine lv_iload_n hx hb dX2_placeFrom_35 rfl (lv_at hl 2 rfl) ?_
    refine lv_iconst (v := (5 : Int32)) hx hb dX2_placeFrom_36 (by decide) ?_
    refine lv_icmp_ge (tgt := 52) hx hb dX2_placeFrom_37 (by decide) (fun hc => ?_) (fun hc => ?_)
    · replace hw := hw.1 hc
      refine lv_aload_n hx hb dX2_placeFrom_52 rfl (lv_at hl 0 rfl) ?_
      refine va_get (D := D) (ci := 2) (v := .ref (q 6)) (C := RX2) (T := TX2) (N := 14) hx hb hts hin2 hown hK hP 0 rfl rfl 1 (by decide) f9 (fun _ h9 => h9) rfl dX2_placeFrom_53 ?_
      refine lv_iload_n hx hb dX2_placeFrom_56 rfl (lv_at hl 1 rfl) ?_
      refine lv_iconst (v := (5 : Int32)) hx hb dX2_placeFrom_57 (by decide) ?_
      obtain ⟨hv, hw⟩ := hw
      refine va_iast hx hb hK hP hD hS 1 0 rfl rfl hv dX2_placeFrom_58 (fun H locs hP hD hS => ?_)
      have hP : va_P D vwCl (wS cI q os_ fl wa fo_ sb_ lp_ fm_ pn_ (upd tr_ x1.toNatClampNeg (5 : Int32)) fs_ sk_ ct_ nt_ ++ wP cI q (nI n) il kn sp py bo) H := hP
      have hD : va_D A (wS cI q os_ fl wa fo_ sb_ lp_ fm_ pn_ (upd tr_ x1.toNatClampNeg (5 : Int32)) fs_ sk_ ct_ nt_ ++ wP cI q (nI n) il kn sp py bo) := hD
      refine lv_aload_n hx hb dX2_placeFrom_59 rfl (lv_at hl 0 rfl) ?_
      refine lv_iload_n hx hb dX2_placeFrom_60 rfl (lv_at hl 1 rfl) ?_
      refine lv_iconst (v := (1 : Int32)) hx hb dX2_placeFrom_61 (by decide) ?_
      refine lv_iadd hx hb dX2_placeFrom_62 ?_
      obtain ⟨hp0, hp1, hw⟩ := hw
      refine zc_v (fun u => (wS cI q u.1 fl wa u.2.1 u.2.2.1 u.2.2.2.1 u.2.2.2.2.1 u.2.2.2.2.2.1 u.2.2.2.2.2.2.1 u.2.2.2.2.2.2.2.1 u.2.2.2.2.2.2.2.2.1 u.2.2.2.2.2.2.2.2.2.1 u.2.2.2.2.2.2.2.2.2.2 ++ wP cI q (nI n) il kn sp py bo)) [0, 1, 2, 3, 4, 5, 6, 7, 8, 9, 10] [] [0, 1, 2, 3, 4, 5, 6, 7, 8, 9, 10] (va_runV (As := [.int (x1 + (1 : Int32))]) (rest := []) ⟨hx, hb, hml, hown, hts⟩ ((hF hp0 os_ fo_ sb_ lp_ fm_ pn_ (upd tr_ x1.toNatClampNeg (5 : Int32)) fs_ sk_ ct_ nt_ (x1 + (1 : Int32)) hp1) H.size) (cwV 1 hts gX2_placeFrom_X2_placeFrom rfl rfl rfl (by decide +kernel) ⟨by show 8 * (d - 1) + 20 + 1 ≤ 8 * d + 20; omega, by show 8 + (3 + 11) + (200 * (d - 1) + 600) ≤ 200 * d + 600; omega⟩) (pv_of hK hN hP hD [0, 1, 2, 3, 4, 5, 6, 7, 8, 9, 10] rfl rfl 2 0 rfl rfl) rfl rfl hl.1 rfl (lv_room (Nat.le_of_ble_eq_true rfl)) dX2_placeFrom_63 ⟨Nat.zero_le _, Nat.zero_le _⟩) hP hD hS hA rfl rfl rfl (by decide) (fun _ => rfl) rfl (fun u63 H locs hu hP hD hS => ?_)
      replace hw := hw u63 hu
      have hP : va_P D vwCl (wS cI q u63.1 fl wa u63.2.1 u63.2.2.1 u63.2.2.2.1 u63.2.2.2.2.1 u63.2.2.2.2.2.1 u63.2.2.2.2.2.2.1 u63.2.2.2.2.2.2.2.1 u63.2.2.2.2.2.2.2.2.1 u63.2.2.2.2.2.2.2.2.2.1 u63.2.2.2.2.2.2.2.2.2.2 ++ wP cI q (nI n) il kn sp py bo) H := hP
      have hD : va_D A (wS cI q u63.1 fl wa u63.2.1 u63.2.2.1 u63.2.2.2.1 u63.2.2.2.2.1 u63.2.2.2.2.2.1 u63.2.2.2.2.2.2.1 u63.2.2.2.2.2.2.2.1 u63.2.2.2.2.2.2.2.2.1 u63.2.2.2.2.2.2.2.2.2.1 u63.2.2.2.2.2.2.2.2.2.2 ++ wP cI q (nI n) il kn sp py bo) := hD
      exact hret (u63.1, u63.2.1, u63.2.2.1, u63.2.2.2.1, u63.2.2.2.2.1, u63.2.2.2.2.2.1, u63.2.2.2.2.2.2.1, u63.2.2.2.2.2.2.2.1, u63.2.2.2.2.2.2.2.2.1, u63.2.2.2.2.2.2.2.2.2.1, u63.2.2.2.2.2.2.2.2.2.2) _ _ _ _ hw hP hD hS dX2_placeFrom_66
    · replace hw := hw.2 hc
      refine lv_aload_n hx hb dX2_placeFrom_40 rfl (lv_at hl 0 rfl) ?_
      refine lv_iload_n hx hb dX2_placeFrom_41 rfl (lv_at hl 2 rfl) ?_
      refine lv_iload_n hx hb dX2_placeFrom_42 rfl (lv_at hl 1 rfl) ?_
      obtain ⟨hp0, hp1, hp2, hw⟩ := hw
      refine zc_v (fun u => (wS cI q u.1 fl wa u.2.1 u.2.2.1 u.2.2.2.1 u.2.2.2.2.1 u.2.2.2.2.2.1 u.2.2.2.2.2.2.1 u.2.2.2.2.2.2.2.1 u.2.2.2.2.2.2.2.2.1 u.2.2.2.2.2.2.2.2.2.1 u.2.2.2.2.2.2.2.2.2.2 ++ wP cI q (nI n) il kn sp py bo)) [0, 1, 2, 3, 4, 5, 6, 7, 8, 9, 10] [] [0, 1, 2, 3, 4, 5, 6, 7, 8, 9, 10] (va_runV (As := [.int x2, .int x1]) (rest := []) ⟨hx, hb, hml, hown, hts⟩ ((c_X2_placeIn d k l D cI cZ q os_ fl wa fo_ sb_ lp_ fm_ pn_ tr_ fs_ sk_ ct_ nt_ n il kn sp py bo x2 x1 hn hkd hF hp0 hp1 hp2) H.size) (cwV 2 hts gX2_placeFrom_X2_placeIn rfl rfl rfl (by decide +kernel) ⟨by show 8 * d + 16 + 1 ≤ 8 * d + 20; omega, by show 8 + (3 + 11) + (200 * d + 500) ≤ 200 * d + 600; omega⟩) (pv_of hK hN hP hD [0, 1, 2, 3, 4, 5, 6, 7, 8, 9, 10] rfl rfl 2 0 rfl rfl) rfl rfl hl.1 rfl (lv_room (Nat.le_of_ble_eq_true rfl)) dX2_placeFrom_43 ⟨Nat.zero_le _, Nat.zero_le _⟩) hP hD hS hA rfl rfl rfl (by decide) (fun _ => rfl) rfl (fun u43 H locs hu hP hD hS => ?_)
      replace hw := hw u43 hu
      have hP : va_P D vwCl (wS cI q u43.1 fl wa u43.2.1 u43.2.2.1 u43.2.2.2.1 u43.2.2.2.2.1 u43.2.2.2.2.2.1 u43.2.2.2.2.2.2.1 u43.2.2.2.2.2.2.2.1 u43.2.2.2.2.2.2.2.2.1 u43.2.2.2.2.2.2.2.2.2.1 u43.2.2.2.2.2.2.2.2.2.2 ++ wP cI q (nI n) il kn sp py bo) H := hP
      have hD : va_D A (wS cI q u43.1 fl wa u43.2.1 u43.2.2.1 u43.2.2.2.1 u43.2.2.2.2.1 u43.2.2.2.2.2.1 u43.2.2.2.2.2.2.1 u43.2.2.2.2.2.2.2.1 u43.2.2.2.2.2.2.2.2.1 u43.2.2.2.2.2.2.2.2.2.1 u43.2.2.2.2.2.2.2.2.2.2 ++ wP cI q (nI n) il kn sp py bo) := hD
      refine lv_iinc (v := x2 + 1) (lv' := [(2, .int (x2 + 1)), (0, .ref (q 5)), (1, .int x1)]) hx hb dX2_placeFrom_46 hl (k := 2) rfl rfl (by decide) rfl (fun ls hl => ?_)
      refine lv_goto (tgt := 35) hx hb dX2_placeFrom_49 (by decide) ?_
      exact k35e _ _ _ _ _ _ _ _ _ _ _ _ _ hw _ _ _ (lv_sub hl [1, 2, 0] rfl) hP hD hS
  have hw := h_X2_placeFrom d k n fl wa il kn sp py bo os fo sb lp fm pn tr fs sk ct nt a1 hn hkd h0 K35 R35
  unfold v_X2_placeFrom_0 at hw
  refine lv_aload_n hx hb dX2_placeFrom_0 rfl (lv_at hl 0 rfl) ?_
  refine va_get (D := D) (ci := 2) (v := .int os) (C := RX2) (T := TX2) (N := 14) hx hb hts hin2 hown hK hP 0 rfl rfl 6 (by decide) f59 (fun _ h9 => h9) rfl dX2_placeFrom_1 ?_
  refine lv_aload_n hx hb dX2_placeFrom_4 rfl (lv_at hl 0 rfl) ?_
  refine va_get (D := D) (ci := 2) (v := .ref (q 0)) (C := RX2) (T := TX2) (N := 14) hx hb hts hin2 hown hK hP 0 rfl rfl 0 (by decide) f27 (fun _ h9 => h9) rfl dX2_placeFrom_5 ?_
  refine va_getN (D := D) (ci := 1) (v := .int (nI n)) (C := RX1) (T := TX1) (N := 6) hx hb hts hin1 hown hK hP 6 rfl rfl 4 (by decide) f66 (fun _ h9 => h9) rfl dX2_placeFrom_8 ?_
  refine lv_iload_n hx hb dX2_placeFrom_11 rfl (lv_at hl 1 rfl) ?_
  refine lv_isub hx hb dX2_placeFrom_12 ?_
  refine lv_icmp_le (tgt := 17) hx hb dX2_placeFrom_13 (by decide) (fun hc => ?_) (fun hc => ?_)
  · replace hw := hw.1 hc
    refine lv_aload_n hx hb dX2_placeFrom_17 rfl (lv_at hl 0 rfl) ?_
    refine va_get (D := D) (ci := 2) (v := .ref (q 0)) (C := RX2) (T := TX2) (N := 14) hx hb hts hin2 hown hK hP 0 rfl rfl 0 (by decide) f27 (fun _ h9 => h9) rfl dX2_placeFrom_18 ?_
    refine lv_iload_n hx hb dX2_placeFrom_21 rfl (lv_at hl 1 rfl) ?_
    refine zc_i (fun u => (wS cI q os fl wa fo sb lp fm pn tr fs sk ct nt ++ wP cI q (nI n) il kn sp py bo)) [6, 7, 8, 9, 10] [0, 1, 2, 3, 4, 5] [0, 1, 2, 3, 4, 5, 6, 7, 8, 9, 10] (va_runV (As := [.int a1]) (rest := []) ⟨hx, hb, hml, hown, hts⟩ ((c_X1_has l D cI cZ q n il kn sp py bo a1 hn ) H.size) (cwV 1 hts gX2_placeFrom_X1_has rfl rfl rfl (by decide +kernel) ⟨by show 2 + 1 ≤ 8 * d + 20; omega, by show 8 + (2 + 11) + (64) ≤ 200 * d + 600; omega⟩) (pv_of hK hN hP hD [6, 7, 8, 9, 10] rfl rfl 1 0 rfl rfl) rfl rfl hl.1 rfl (lv_room (Nat.le_of_ble_eq_true rfl)) dX2_placeFrom_22 ⟨Nat.zero_le _, Nat.zero_le _⟩) hP hD hS hA rfl rfl rfl (by decide) (fun _ => rfl) rfl (fun r u H locs hu hP hD hS => ?_)
    subst hu
    have hP : va_P D vwCl (wS cI q os fl wa fo sb lp fm pn tr fs sk ct nt ++ wP cI q (nI n) il kn sp py bo) H := hP
    have hD : va_D A (wS cI q os fl wa fo sb lp fm pn tr fs sk ct nt ++ wP cI q (nI n) il kn sp py bo) := hD
    refine lv_if_ne (tgt := 33) hx hb dX2_placeFrom_25 (by decide) (fun hc => ?_) (fun hc => ?_)
    · replace hw := hw.2 hc
      refine lv_iconst (v := (0 : Int32)) hx hb dX2_placeFrom_33 (by decide) ?_
      refine lv_istore_n (lv' := [(2, .int (0 : Int32)), (0, .ref (q 5)), (1, .int a1)]) hx hb dX2_placeFrom_34 rfl hl (by decide) rfl (fun ls hl => ?_)
      exact k35e _ _ _ _ _ _ _ _ _ _ _ _ _ hw _ _ _ (lv_sub hl [1, 2, 0] rfl) hP hD hS
    · replace hw := hw.1 hc
      refine lv_aload_n hx hb dX2_placeFrom_28 rfl (lv_at hl 0 rfl) ?_
      refine zc_v (fun u => (wS cI q os fl wa u.1 u.2.1 u.2.2.1 u.2.2.2.1 u.2.2.2.2.1 tr fs u.2.2.2.2.2.1 u.2.2.2.2.2.2.1 u.2.2.2.2.2.2.2 ++ wP cI q (nI n) il kn sp py bo)) [0, 1, 2, 3, 4, 5, 6, 7, 8, 9, 10] [] [0, 1, 2, 3, 4, 5, 6, 7, 8, 9, 10] (va_runV (As := []) (rest := []) ⟨hx, hb, hml, hown, hts⟩ ((c_X2_weighIfWhole l D cI cZ q os fl wa fo sb lp fm pn tr fs sk ct nt n il kn sp py bo hn ) H.size) (cwV 0 hts gX2_placeFrom_X2_weighIfWhole rfl rfl rfl (by decide +kernel) ⟨by show 8 + 1 ≤ 8 * d + 20; omega, by show 8 + (2 + 11) + (320) ≤ 200 * d + 600; omega⟩) (pv_of hK hN hP hD [0, 1, 2, 3, 4, 5, 6, 7, 8, 9, 10] rfl rfl 2 0 rfl rfl) rfl rfl hl.1 rfl (lv_room (Nat.le_of_ble_eq_true rfl)) dX2_placeFrom_29 ⟨Nat.zero_le _, Nat.zero_le _⟩) hP hD hS hA rfl rfl rfl (by decide) (fun _ => rfl) rfl (fun u29 H locs hu hP hD hS => ?_)
      replace hw := hw u29 hu
      have hP : va_P D vwCl (wS cI q os fl wa u29.1 u29.2.1 u29.2.2.1 u29.2.2.2.1 u29.2.2.2.2.1 tr fs u29.2.2.2.2.2.1 u29.2.2.2.2.2.2.1 u29.2.2.2.2.2.2.2 ++ wP cI q (nI n) il kn sp py bo) H := hP
      have hD : va_D A (wS cI q os fl wa u29.1 u29.2.1 u29.2.2.1 u29.2.2.2.1 u29.2.2.2.2.1 tr fs u29.2.2.2.2.2.1 u29.2.2.2.2.2.2.1 u29.2.2.2.2.2.2.2 ++ wP cI q (nI n) il kn sp py bo) := hD
      exact hret (os, u29.1, u29.2.1, u29.2.2.1, u29.2.2.2.1, u29.2.2.2.2.1, tr, fs, u29.2.2.2.2.2.1, u29.2.2.2.2.2.2.1, u29.2.2.2.2.2.2.2) _ _ _ _ hw hP hD hS dX2_placeFrom_32
  · replace hw := hw.2 hc
    exact hret (os, fo, sb, lp, fm, pn, tr, fs, sk, ct, nt) _ _ _ _ hw hP hD hS dX2_placeFrom_16
