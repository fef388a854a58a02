set_option maxRecDepth 20000 in
theorem ggX0_isFresher_X1_has : GoodIn wsX0_isFresher wsX1_has := goodIn_r _ [7, 8, 15, 16, 17, 18, 19, 20] (by decide +kernel) (by decide +kernel)
set_option maxRecDepth 20000 in
theorem gX0_isFresher_X1_has : GoodIn wsX0_isFresher (wsV RX0 85 RX1 yX1_has wsX1_has) := goodIn_app (goodIn_of _ (by decide +kernel)) ggX0_isFresher_X1_has
set_option maxRecDepth 20000 in
theorem ggX0_wayFrom_X1_knownBy : GoodIn wsX0_wayFrom wsX1_knownBy := goodIn_r _ [7, 8, 9, 10, 11, 6, 12, 13, 23, 24, 25, 26, 27, 28] (by decide +kernel) (by decide +kernel)
set_option maxRecDepth 20000 in
theorem gX0_wayFrom_X1_knownBy : GoodIn wsX0_wayFrom (wsV RX0 88 RX1 yX1_knownBy wsX1_knownBy) := goodIn_app (goodIn_of _ (by decide +kernel)) ggX0_wayFrom_X1_knownBy
set_option maxRecDepth 20000 in
theorem ggX0_wayFrom_X3_holds : GoodIn wsX0_wayFrom wsX3_holds := goodIn_r _ [16] (by decide +kernel) (by decide +kernel)
set_option maxRecDepth 20000 in
theorem gX0_wayFrom_X3_holds_n91 : GoodIn wsX0_wayFrom (wsX3_holds) := ggX0_wayFrom_X3_holds
set_option maxRecDepth 20000 in
theorem ggX0_tire_X0_isTurning : GoodIn wsX0_tire wsX0_isTurning := goodIn_r _ [11, 1, 12, 13, 14, 15, 16, 17, 18, 19, 20, 21, 22, 23, 24, 25, 26, 27, 28, 29, 30, 31, 32, 33, 34, 35, 36, 37, 38, 39] (by decide +kernel) (by decide +kernel)
set_option maxRecDepth 20000 in
theorem gX0_tire_X0_isTurning : GoodIn wsX0_tire (wsV RX0 94 RX0 yX0_isTurning wsX0_isTurning) := goodIn_app (goodIn_of _ (by decide +kernel)) ggX0_tire_X0_isTurning
set_option maxRecDepth 20000 in
theorem ggX0_isTurning_X1_boothOf : GoodIn wsX0_isTurning wsX1_boothOf := goodIn_r _ [8, 9, 10, 11, 12, 7, 13, 14, 24, 25, 26, 27, 28, 29] (by decide +kernel) (by decide +kernel)
set_option maxRecDepth 20000 in
theorem gX0_isTurning_X1_boothOf : GoodIn wsX0_isTurning (wsV RX0 75 RX1 yX1_boothOf wsX1_boothOf) := goodIn_app (goodIn_of _ (by decide +kernel)) ggX0_isTurning_X1_boothOf
set_option maxRecDepth 20000 in
theorem ggX0_isTurning_X3_isTongue : GoodIn wsX0_isTurning wsX3_isTongue := goodIn_r _ [17] (by decide +kernel) (by decide +kernel)
set_option maxRecDepth 20000 in
theorem gX0_isTurning_X3_isTongue_n78 : GoodIn wsX0_isTurning (wsX3_isTongue) := ggX0_isTurning_X3_isTongue
set_option maxRecDepth 20000 in
theorem ggX0_lateIn_X3_isHalf : GoodIn wsX0_lateIn wsX3_isHalf := goodIn_r _ [5] (by decide +kernel) (by decide +kernel)
set_option maxRecDepth 20000 in
theorem gX0_lateIn_X3_isHalf_n37 : GoodIn wsX0_lateIn (wsX3_isHalf) := ggX0_lateIn_X3_isHalf
set_option maxRecDepth 20000 in
theorem ggX0_lateIn_X3_isTongue : GoodIn wsX0_lateIn wsX3_isTongue := goodIn_r _ [7] (by decide +kernel) (by decide +kernel)
set_option maxRecDepth 20000 in
theorem gX0_lateIn_X3_isTongue_n78 : GoodIn wsX0_lateIn (wsX3_isTongue) := ggX0_lateIn_X3_isTongue
set_option maxRecDepth 20000 in
theorem ggX1_isIll_X3_holds : GoodIn wsX1_isIll wsX3_holds := goodIn_r _ [4] (by decide +kernel) (by decide +kernel)
set_option maxRecDepth 20000 in
theorem gX1_isIll_X3_holds_n31 : GoodIn wsX1_isIll (wsX3_holds) := ggX1_isIll_X3_holds
set_option maxRecDepth 20000 in
theorem ggX1_payOf_X1_has : GoodIn wsX1_payOf wsX1_has := goodIn_r _ [6, 7, 8, 9, 10, 11, 12, 13] (by decide +kernel) (by decide +kernel)
set_option maxRecDepth 20000 in
theorem gX1_payOf_X1_has : GoodIn wsX1_payOf (wsV RX1 35 RX1 yX1_has wsX1_has) := goodIn_app (goodIn_of _ (by decide +kernel)) ggX1_payOf_X1_has
set_option maxRecDepth 20000 in
theorem ggX1_knownBy_X1_has : GoodIn wsX1_knownBy wsX1_has := goodIn_r _ [6, 7, 8, 9, 10, 11, 12, 13] (by decide +kernel) (by decide +kernel)
set_option maxRecDepth 20000 in
theorem gX1_knownBy_X1_has : GoodIn wsX1_knownBy (wsV RX1 35 RX1 yX1_has wsX1_has) := goodIn_app (goodIn_of _ (by decide +kernel)) ggX1_knownBy_X1_has
set_option maxRecDepth 20000 in
theorem ggX1_boothOf_X1_has : GoodIn wsX1_boothOf wsX1_has := goodIn_r _ [6, 7, 8, 9, 10, 11, 12, 13] (by decide +kernel) (by decide +kernel)
set_option maxRecDepth 20000 in
theorem gX1_boothOf_X1_has : GoodIn wsX1_boothOf (wsV RX1 35 RX1 yX1_has wsX1_has) := goodIn_app (goodIn_of _ (by decide +kernel)) ggX1_boothOf_X1_has
set_option maxRecDepth 20000 in
theorem ggX1_canTurnInto_X1_has : GoodIn wsX1_canTurnInto wsX1_has := goodIn_r _ [6, 7, 16, 17, 18, 19, 20, 21] (by decide +kernel) (by decide +kernel)
set_option maxRecDepth 20000 in
theorem gX1_canTurnInto_X1_has : GoodIn wsX1_canTurnInto (wsV RX1 35 RX1 yX1_has wsX1_has) := goodIn_app (goodIn_of _ (by decide +kernel)) ggX1_canTurnInto_X1_has
set_option maxRecDepth 20000 in
theorem ggX1_canTurnInto_X1_isIll : GoodIn wsX1_canTurnInto wsX1_isIll := goodIn_r _ [11, 12, 13, 14, 15, 16, 17, 18, 19, 20, 21] (by decide +kernel) (by decide +kernel)
set_option maxRecDepth 20000 in
theorem gX1_canTurnInto_X1_isIll : GoodIn wsX1_canTurnInto (wsV RX1 39 RX1 yX1_isIll wsX1_isIll) := goodIn_app (goodIn_of _ (by decide +kernel)) ggX1_canTurnInto_X1_isIll
set_option maxRecDepth 20000 in
theorem ggX1_canTurnInto_X3_holds : GoodIn wsX1_canTurnInto wsX3_holds := goodIn_r _ [15] (by decide +kernel) (by decide +kernel)
set_option maxRecDepth 20000 in
theorem gX1_canTurnInto_X3_holds_n31 : GoodIn wsX1_canTurnInto (wsX3_holds) := ggX1_canTurnInto_X3_holds
set_option maxRecDepth 20000 in
theorem ggX1_ableToTurnInto_X1_canTurnInto : GoodIn wsX1_ableToTurnInto wsX1_canTurnInto := goodIn_r _ [6, 7, 8, 9, 10, 5, 11, 1, 12, 13, 14, 15, 16, 17, 18, 19, 20, 21, 22, 23, 24, 25] (by decide +kernel) (by decide +kernel)
set_option maxRecDepth 20000 in
theorem gX1_ableToTurnInto_X1_canTurnInto : GoodIn wsX1_ableToTurnInto (wsV RX1 42 RX1 yX1_canTurnInto wsX1_canTurnInto) := goodIn_app (goodIn_of _ (by decide +kernel)) ggX1_ableToTurnInto_X1_canTurnInto
set_option maxRecDepth 20000 in
theorem ggX1_seated_X1_boothOf : GoodIn wsX1_seated wsX1_boothOf := goodIn_r _ [6, 7, 8, 9, 10, 5, 11, 1, 12, 13, 14, 15, 16, 17] (by decide +kernel) (by decide +kernel)
set_option maxRecDepth 20000 in
theorem gX1_seated_X1_boothOf : GoodIn wsX1_seated (wsV RX1 45 RX1 yX1_boothOf wsX1_boothOf) := goodIn_app (goodIn_of _ (by decide +kernel)) ggX1_seated_X1_boothOf
set_option maxRecDepth 20000 in
theorem ggX1_unseatAll_J7_fill_53178 : GoodIn wsX1_unseatAll wsJ7_fill_53178 := goodIn_r _ [5] (by decide +kernel) (by decide +kernel)
set_option maxRecDepth 20000 in
theorem gX1_unseatAll_J7_fill_53178 : GoodIn wsX1_unseatAll (va_wsS RX1 49 yJ7_fill_53178 wsJ7_fill_53178) := goodIn_app (goodIn_of _ (by decide +kernel)) ggX1_unseatAll_J7_fill_53178
set_option maxRecDepth 20000 in
theorem ggX2_init_J7_fill_53178 : GoodIn wsX2_init wsJ7_fill_53178 := goodIn_r _ [14] (by decide +kernel) (by decide +kernel)
set_option maxRecDepth 20000 in
theorem gX2_init_J7_fill_53178 : GoodIn wsX2_init (va_wsS RX2 31 yJ7_fill_53178 wsJ7_fill_53178) := goodIn_app (goodIn_of _ (by decide +kernel)) ggX2_init_J7_fill_53178
set_option maxRecDepth 20000 in
theorem ggX2_prepare_X3_holds : GoodIn wsX2_prepare wsX3_holds := goodIn_r _ [12] (by decide +kernel) (by decide +kernel)
set_option maxRecDepth 20000 in
theorem gX2_prepare_X3_holds_n62 : GoodIn wsX2_prepare (wsX3_holds) := ggX2_prepare_X3_holds
set_option maxRecDepth 20000 in
theorem ggX2_placeFrom_X1_has : GoodIn wsX2_placeFrom wsX1_has := goodIn_r _ [8, 9, 106, 107, 108, 109, 110, 111] (by decide +kernel) (by decide +kernel)
set_option maxRecDepth 20000 in
theorem gX2_placeFrom_X1_has : GoodIn wsX2_placeFrom (wsV RX2 71 RX1 yX1_has wsX1_has) := goodIn_app (goodIn_of _ (by decide +kernel)) ggX2_placeFrom_X1_has
