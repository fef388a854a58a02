set_option maxRecDepth 20000 in
theorem ggX2_placeFrom_X2_weighIfWhole : GoodIn wsX2_placeFrom wsX2_weighIfWhole := goodIn_r _ [14, 15, 16, 17, 18, 13, 19, 20, 2, 3, 21, 22, 23, 24, 25, 26, 27, 28, 29, 30, 7, 31, 32, 33, 5, 6, 8, 9, 34, 35, 36, 37, 38, 39, 40, 41, 42, 43, 44, 45, 46, 47, 48, 49, 50, 51, 52, 53, 54, 55, 56, 57, 58, 59, 60, 61, 62, 63, 64, 65, 66, 67, 68, 69, 70, 71, 72, 73, 92, 93, 94, 95, 96, 97, 98, 99, 100, 101, 102, 103, 104, 105, 106, 107, 108, 109, 110, 111] (by decide +kernel) (by decide +kernel)
set_option maxRecDepth 20000 in
theorem gX2_placeFrom_X2_weighIfWhole : GoodIn wsX2_placeFrom (wsV RX2 75 RX2 yX2_weighIfWhole wsX2_weighIfWhole) := goodIn_app (goodIn_of _ (by decide +kernel)) ggX2_placeFrom_X2_weighIfWhole
set_option maxRecDepth 20000 in
theorem ggX2_placeFrom_X2_placeIn : GoodIn wsX2_placeFrom wsX2_placeIn := goodIn_r _ [80, 81, 2, 3, 1, 82, 83, 84, 7, 85, 86, 33, 5, 6, 8, 9, 87, 88, 89, 90, 91, 34, 26, 35, 77, 78, 79, 13, 0, 4, 10, 11, 12, 14, 15, 16, 17, 18, 19, 20, 21, 22, 23, 24, 25, 27, 28, 29, 30, 31, 32, 36, 37, 38, 39, 40, 41, 42, 43, 44, 45, 46, 47, 48, 49, 50, 51, 52, 53, 54, 55, 56, 57, 58, 59, 60, 61, 62, 63, 64, 65, 66, 67, 68, 69, 70, 71, 72, 73, 74, 75, 76, 92, 93, 94, 95, 96, 97, 98, 99, 100, 101, 102, 103, 104, 105, 106, 107, 108, 109, 110, 111] (by decide +kernel) (by decide +kernel)
set_option maxRecDepth 20000 in
theorem gX2_placeFrom_X2_placeIn : GoodIn wsX2_placeFrom (wsV RX2 78 RX2 yX2_placeIn wsX2_placeIn) := goodIn_app (goodIn_of _ (by decide +kernel)) ggX2_placeFrom_X2_placeIn
set_option maxRecDepth 20000 in
theorem ggX2_placeFrom_X2_placeFrom : GoodIn wsX2_placeFrom wsX2_placeFrom := goodIn_r _ [0, 1, 2, 3, 4, 5, 6, 7, 8, 9, 10, 11, 12, 13, 14, 15, 16, 17, 18, 19, 20, 21, 22, 23, 24, 25, 26, 27, 28, 29, 30, 31, 32, 33, 34, 35, 36, 37, 38, 39, 40, 41, 42, 43, 44, 45, 46, 47, 48, 49, 50, 51, 52, 53, 54, 55, 56, 57, 58, 59, 60, 61, 62, 63, 64, 65, 66, 67, 68, 69, 70, 71, 72, 73, 74, 75, 76, 77, 78, 79, 80, 81, 82, 83, 84, 85, 86, 87, 88, 89, 90, 91, 92, 93, 94, 95, 96, 97, 98, 99, 100, 101, 102, 103, 104, 105, 106, 107, 108, 109, 110, 111] (by decide +kernel) (by decide +kernel)
set_option maxRecDepth 20000 in
theorem gX2_placeFrom_X2_placeFrom : GoodIn wsX2_placeFrom (wsV RX2 82 RX2 yX2_placeFrom wsX2_placeFrom) := goodIn_app (goodIn_of _ (by decide +kernel)) ggX2_placeFrom_X2_placeFrom
set_option maxRecDepth 20000 in
theorem ggX2_placeIn_X1_canTurnInto : GoodIn wsX2_placeIn wsX1_canTurnInto := goodIn_r _ [9, 10, 11, 12, 13, 8, 14, 15, 16, 17, 18, 19, 20, 21, 22, 23, 106, 107, 108, 109, 110, 111] (by decide +kernel) (by decide +kernel)
set_option maxRecDepth 20000 in
theorem gX2_placeIn_X1_canTurnInto : GoodIn wsX2_placeIn (wsV RX2 86 RX1 yX1_canTurnInto wsX1_canTurnInto) := goodIn_app (goodIn_of _ (by decide +kernel)) ggX2_placeIn_X1_canTurnInto
set_option maxRecDepth 20000 in
theorem ggX2_placeIn_X2_placeFrom : GoodIn wsX2_placeIn wsX2_placeFrom := goodIn_r _ [28, 4, 2, 3, 29, 12, 13, 8, 14, 15, 30, 31, 32, 27, 33, 34, 35, 36, 37, 38, 39, 40, 41, 42, 43, 44, 22, 45, 46, 47, 48, 49, 50, 11, 21, 23, 51, 52, 53, 54, 55, 56, 57, 58, 59, 60, 61, 62, 63, 64, 65, 66, 67, 68, 69, 70, 71, 72, 73, 74, 75, 76, 77, 78, 79, 80, 81, 82, 83, 84, 85, 86, 87, 88, 89, 90, 91, 24, 25, 26, 0, 1, 5, 6, 7, 9, 10, 16, 17, 18, 19, 20, 92, 93, 94, 95, 96, 97, 98, 99, 100, 101, 102, 103, 104, 105, 106, 107, 108, 109, 110, 111] (by decide +kernel) (by decide +kernel)
set_option maxRecDepth 20000 in
theorem gX2_placeIn_X2_placeFrom : GoodIn wsX2_placeIn (wsV RX2 82 RX2 yX2_placeFrom wsX2_placeFrom) := goodIn_app (goodIn_of _ (by decide +kernel)) ggX2_placeIn_X2_placeFrom
set_option maxRecDepth 20000 in
theorem ggX2_weighIfWhole_X2_shareKnown : GoodIn wsX2_weighIfWhole wsX2_shareKnown := goodIn_r _ [6, 7, 8, 9, 10, 11, 12, 13, 14, 15, 16, 17, 18, 19, 20, 21, 22, 23, 24, 25, 26, 27, 68, 69, 70, 71, 72, 73, 74, 75, 76, 77, 78, 79, 80, 81, 82, 83, 84, 85, 86, 87] (by decide +kernel) (by decide +kernel)
set_option maxRecDepth 20000 in
theorem gX2_weighIfWhole_X2_shareKnown : GoodIn wsX2_weighIfWhole (wsV RX2 89 RX2 yX2_shareKnown wsX2_shareKnown) := goodIn_app (goodIn_of _ (by decide +kernel)) ggX2_weighIfWhole_X2_shareKnown
set_option maxRecDepth 20000 in
theorem ggX2_weighIfWhole_X3_holds : GoodIn wsX2_weighIfWhole wsX3_holds := goodIn_r _ [29] (by decide +kernel) (by decide +kernel)
set_option maxRecDepth 20000 in
theorem gX2_weighIfWhole_X3_holds_n62 : GoodIn wsX2_weighIfWhole (wsX3_holds) := ggX2_weighIfWhole_X3_holds
set_option maxRecDepth 20000 in
theorem ggX2_weighIfWhole_X2_reachesFloors : GoodIn wsX2_weighIfWhole wsX2_reachesFloors := goodIn_r _ [33, 7, 1, 34, 28, 15, 29, 68, 69, 70, 71, 72, 73, 74, 75, 76, 77, 78, 79, 80, 81] (by decide +kernel) (by decide +kernel)
set_option maxRecDepth 20000 in
theorem gX2_weighIfWhole_X2_reachesFloors : GoodIn wsX2_weighIfWhole (wsV RX2 92 RX2 yX2_reachesFloors wsX2_reachesFloors) := goodIn_app (goodIn_of _ (by decide +kernel)) ggX2_weighIfWhole_X2_reachesFloors
set_option maxRecDepth 20000 in
theorem ggX2_weighIfWhole_X2_weigh : GoodIn wsX2_weighIfWhole wsX2_weigh := goodIn_r _ [38, 8, 9, 39, 40, 41, 42, 43, 20, 44, 45, 23, 24, 25, 26, 27, 46, 47, 48, 49, 50, 51, 52, 53, 5, 54, 55, 56, 57, 58, 59, 60, 61, 62, 63, 64, 65, 66, 67, 68, 69, 70, 71, 72, 73, 74, 75, 76, 77, 78, 79, 80, 81, 82, 83, 84, 85, 86, 87] (by decide +kernel) (by decide +kernel)
set_option maxRecDepth 20000 in
theorem gX2_weighIfWhole_X2_weigh : GoodIn wsX2_weighIfWhole (wsV RX2 95 RX2 yX2_weigh wsX2_weigh) := goodIn_app (goodIn_of _ (by decide +kernel)) ggX2_weighIfWhole_X2_weigh
set_option maxRecDepth 20000 in
theorem ggX2_shareKnown_J7_fill_53178 : GoodIn wsX2_shareKnown wsJ7_fill_53178 := goodIn_r _ [7] (by decide +kernel) (by decide +kernel)
set_option maxRecDepth 20000 in
theorem gX2_shareKnown_J7_fill_53178 : GoodIn wsX2_shareKnown (va_wsS RX2 31 yJ7_fill_53178 wsJ7_fill_53178) := goodIn_app (goodIn_of _ (by decide +kernel)) ggX2_shareKnown_J7_fill_53178
set_option maxRecDepth 20000 in
theorem ggX2_shareKnown_X3_isTongue : GoodIn wsX2_shareKnown wsX3_isTongue := goodIn_r _ [10] (by decide +kernel) (by decide +kernel)
set_option maxRecDepth 20000 in
theorem gX2_shareKnown_X3_isTongue_n98 : GoodIn wsX2_shareKnown (wsX3_isTongue) := ggX2_shareKnown_X3_isTongue
set_option maxRecDepth 20000 in
theorem ggX2_shareKnown_X1_knownBy : GoodIn wsX2_shareKnown wsX1_knownBy := goodIn_r _ [15, 16, 17, 18, 19, 14, 20, 21, 36, 37, 38, 39, 40, 41] (by decide +kernel) (by decide +kernel)
set_option maxRecDepth 20000 in
theorem gX2_shareKnown_X1_knownBy : GoodIn wsX2_shareKnown (wsV RX2 101 RX1 yX1_knownBy wsX1_knownBy) := goodIn_app (goodIn_of _ (by decide +kernel)) ggX2_shareKnown_X1_knownBy
set_option maxRecDepth 20000 in
theorem ggX2_reachesFloors_X3_holds : GoodIn wsX2_reachesFloors wsX3_holds := goodIn_r _ [6] (by decide +kernel) (by decide +kernel)
set_option maxRecDepth 20000 in
theorem gX2_reachesFloors_X3_holds_n62 : GoodIn wsX2_reachesFloors (wsX3_holds) := ggX2_reachesFloors_X3_holds
set_option maxRecDepth 20000 in
theorem ggX2_weigh_X1_payOf : GoodIn wsX2_weigh wsX1_payOf := goodIn_r _ [9, 10, 11, 12, 13, 8, 14, 15, 53, 54, 55, 56, 57, 58] (by decide +kernel) (by decide +kernel)
set_option maxRecDepth 20000 in
theorem gX2_weigh_X1_payOf : GoodIn wsX2_weigh (wsV RX2 105 RX1 yX1_payOf wsX1_payOf) := goodIn_app (goodIn_of _ (by decide +kernel)) ggX2_weigh_X1_payOf
set_option maxRecDepth 20000 in
theorem ggX2_weigh_X1_boothOf : GoodIn wsX2_weigh wsX1_boothOf := goodIn_r _ [19, 20, 11, 12, 13, 8, 14, 15, 53, 54, 55, 56, 57, 58] (by decide +kernel) (by decide +kernel)
set_option maxRecDepth 20000 in
theorem gX2_weigh_X1_boothOf : GoodIn wsX2_weigh (wsV RX2 108 RX1 yX1_boothOf wsX1_boothOf) := goodIn_app (goodIn_of _ (by decide +kernel)) ggX2_weigh_X1_boothOf
set_option maxRecDepth 20000 in
theorem ggX2_weigh_X2_keepIfCheaper : GoodIn wsX2_weigh wsX2_keepIfCheaper := goodIn_r _ [25, 4, 26, 2, 27, 28, 29, 30, 31, 39, 40, 41, 42, 43, 44, 45, 46, 47, 48, 49, 50, 51, 52] (by decide +kernel) (by decide +kernel)
set_option maxRecDepth 20000 in
theorem gX2_weigh_X2_keepIfCheaper : GoodIn wsX2_weigh (wsV RX2 111 RX2 yX2_keepIfCheaper wsX2_keepIfCheaper) := goodIn_app (goodIn_of _ (by decide +kernel)) ggX2_weigh_X2_keepIfCheaper
set_option maxRecDepth 20000 in
theorem ggX2_weigh_X2_keepIfNearer : GoodIn wsX2_weigh wsX2_keepIfNearer := goodIn_r _ [35, 4, 36, 37, 2, 38, 28, 29, 30, 31, 39, 40, 41, 42, 43, 44, 45, 46, 47, 48, 49, 50, 51, 52] (by decide +kernel) (by decide +kernel)
set_option maxRecDepth 20000 in
theorem gX2_weigh_X2_keepIfNearer : GoodIn wsX2_weigh (wsV RX2 114 RX2 yX2_keepIfNearer wsX2_keepIfNearer) := goodIn_app (goodIn_of _ (by decide +kernel)) ggX2_weigh_X2_keepIfNearer
set_option maxRecDepth 20000 in
theorem ggX3_init_X1_init : GoodIn wsX3_init wsX1_init := goodIn_r _ [22, 23, 2, 3, 16, 24, 25, 26, 27, 53, 54, 55, 56, 57, 58] (by decide +kernel) (by decide +kernel)
set_option maxRecDepth 20000 in
theorem gX3_init_X1_init_n9 : GoodIn wsX3_init (wsX1_init) := ggX3_init_X1_init
set_option maxRecDepth 20000 in
theorem ggX3_init_X2_init : GoodIn wsX3_init wsX2_init := goodIn_r _ [30, 31, 2, 3, 16, 32, 33, 34, 35, 36, 37, 38, 39, 40, 41, 66, 67, 68, 69, 70, 71, 72, 73, 74, 75, 76, 77, 78, 79] (by decide +kernel) (by decide +kernel)
set_option maxRecDepth 20000 in
theorem gX3_init_X2_init : GoodIn wsX3_init (wsX2_init) := ggX3_init_X2_init
set_option maxRecDepth 20000 in
theorem ggX3_init_X0_init : GoodIn wsX3_init wsX0_init := goodIn_r _ [44, 45, 2, 3, 16, 46, 47, 48, 49, 50, 51, 52, 39, 40, 41, 80, 81, 82, 83, 84, 85] (by decide +kernel) (by decide +kernel)
set_option maxRecDepth 20000 in
theorem gX3_init_X0_init : GoodIn wsX3_init (wsX0_init) := ggX3_init_X0_init
set_option maxRecDepth 20000 in
theorem ggX3_person_X3_areTongues : GoodIn wsX3_person wsX3_areTongues := goodIn_r _ [5] (by decide +kernel) (by decide +kernel)
set_option maxRecDepth 20000 in
theorem gX3_person_X3_areTongues : GoodIn wsX3_person (va_wsS RX3 46 yX3_areTongues wsX3_areTongues) := goodIn_app (goodIn_of _ (by decide +kernel)) ggX3_person_X3_areTongues
