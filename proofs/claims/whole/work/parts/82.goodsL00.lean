set_option maxRecDepth 20000 in
theorem ggL_law_X3_init : GoodIn wsL_law wsX3_init := goodIn_r _ [8, 9, 10, 11, 12, 13, 14, 15, 16, 17, 18, 19, 20, 21, 22, 23, 24, 25, 26, 27, 28, 29, 30, 31, 32, 33, 34, 35, 36, 37, 38, 39, 40, 41, 42, 43, 44, 45, 46, 47, 48, 49, 50, 51, 52, 53, 54, 55, 56, 57, 58, 59, 60, 543, 544, 545, 546, 547, 548, 511, 512, 513, 514, 515, 516, 517, 549, 550, 551, 552, 553, 554, 555, 556, 557, 558, 559, 560, 561, 562, 563, 564, 565, 566, 567, 568] (by decide +kernel) (by decide +kernel)
set_option maxRecDepth 20000 in
theorem gL_law_X3_init : GoodIn wsL_law (wsX3_init) := ggL_law_X3_init
set_option maxRecDepth 20000 in
theorem ggL_law_X4_init : GoodIn wsL_law wsX4_init := goodIn_r _ [63, 64, 10, 11, 24, 65, 66, 67, 68, 69, 70, 71, 72, 73, 74, 75, 76, 77, 78, 79, 80, 81, 82, 83, 518, 519, 520, 521, 522, 523, 524, 525, 526, 527, 528, 529, 530, 531, 532, 533, 534, 535, 536, 537, 538, 539, 540, 541, 542] (by decide +kernel) (by decide +kernel)
set_option maxRecDepth 20000 in
theorem gL_law_X4_init : GoodIn wsL_law (wsX4_init) := ggL_law_X4_init
set_option maxRecDepth 20000 in
theorem ggL_law_X3_person : GoodIn wsL_law wsX3_person := goodIn_r _ [87, 15, 88, 89, 2, 90, 91, 92, 93, 14, 94, 95, 32, 33, 34, 35, 511, 512, 513, 514, 515, 516, 517, 543, 544, 545, 546, 547, 548] (by decide +kernel) (by decide +kernel)
set_option maxRecDepth 20000 in
theorem gL_law_X3_person : GoodIn wsL_law (wsV RL 13 RX3 yX3_person wsX3_person) := goodIn_app (goodIn_of _ (by decide +kernel)) ggL_law_X3_person
set_option maxRecDepth 20000 in
theorem ggL_law_X4_person : GoodIn wsL_law wsX4_person := goodIn_r _ [99, 100, 65, 66, 67, 101, 102, 5, 103, 518, 519, 520, 521, 522, 523, 524, 525, 526, 527, 528, 529, 530, 531, 532, 533, 534, 535, 536, 537, 538, 539, 540, 541, 542] (by decide +kernel) (by decide +kernel)
set_option maxRecDepth 20000 in
theorem gL_law_X4_person : GoodIn wsL_law (wsV RL 17 RX4 yX4_person wsX4_person) := goodIn_app (goodIn_of _ (by decide +kernel)) ggL_law_X4_person
set_option maxRecDepth 20000 in
theorem ggL_law_X3_ill : GoodIn wsL_law wsX3_ill := goodIn_r _ [107, 15, 108, 109, 110, 14, 111, 95, 112, 113, 114, 115, 116, 117, 2, 118, 119, 120, 121, 122, 511, 512, 513, 514, 515, 516, 517, 543, 544, 545, 546, 547, 548] (by decide +kernel) (by decide +kernel)
set_option maxRecDepth 20000 in
theorem gL_law_X3_ill : GoodIn wsL_law (wsV RL 18 RX3 yX3_ill wsX3_ill) := goodIn_app (goodIn_of _ (by decide +kernel)) ggL_law_X3_ill
set_option maxRecDepth 20000 in
theorem ggL_law_X4_ill : GoodIn wsL_law wsX4_ill := goodIn_r _ [126, 69, 127, 128, 129, 5, 130, 100, 101, 102, 103, 518, 519, 520, 521, 522, 523, 524, 525, 526, 527, 528, 529, 530, 531, 532, 533, 534, 535, 536, 537, 538, 539, 540, 541, 542] (by decide +kernel) (by decide +kernel)
set_option maxRecDepth 20000 in
theorem gL_law_X4_ill : GoodIn wsL_law (wsV RL 22 RX4 yX4_ill wsX4_ill) := goodIn_app (goodIn_of _ (by decide +kernel)) ggL_law_X4_ill
