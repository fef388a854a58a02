set_option maxRecDepth 20000 in
theorem ggL_law_X3_leave : GoodIn wsL_law wsX3_leave := goodIn_r _ [290, 15, 291, 292, 293, 14, 294, 95, 295, 205, 206, 207, 35, 191, 109, 110, 111, 296, 297, 298, 299, 300, 47, 48, 49, 511, 512, 513, 514, 515, 516, 517, 543, 544, 545, 546, 547, 548] (by decide +kernel) (by decide +kernel)
set_option maxRecDepth 20000 in
theorem gL_law_X3_leave : GoodIn wsL_law (wsV RL 49 RX3 yX3_leave wsX3_leave) := goodIn_app (goodIn_of _ (by decide +kernel)) ggL_law_X3_leave
set_option maxRecDepth 20000 in
theorem ggL_law_X4_leave : GoodIn wsL_law wsX4_leave := goodIn_r _ [304, 73, 305, 306, 307, 5, 308, 100, 518, 519, 520, 521, 522, 523, 524, 525, 526, 527, 528, 529, 530, 531, 532, 533, 534, 535, 536, 537, 538, 539, 540, 541, 542] (by decide +kernel) (by decide +kernel)
set_option maxRecDepth 20000 in
theorem gL_law_X4_leave : GoodIn wsL_law (wsV RL 53 RX4 yX4_leave wsX4_leave) := goodIn_app (goodIn_of _ (by decide +kernel)) ggL_law_X4_leave
set_option maxRecDepth 20000 in
theorem ggL_law_X3_booth : GoodIn wsL_law wsX3_booth := goodIn_r _ [312, 15, 108, 109, 110, 14, 111, 95, 313, 205, 206, 207, 35, 191, 511, 512, 513, 514, 515, 516, 517, 543, 544, 545, 546, 547, 548] (by decide +kernel) (by decide +kernel)
set_option maxRecDepth 20000 in
theorem gL_law_X3_booth : GoodIn wsL_law (wsV RL 54 RX3 yX3_booth wsX3_booth) := goodIn_app (goodIn_of _ (by decide +kernel)) ggL_law_X3_booth
set_option maxRecDepth 20000 in
theorem ggL_law_X4_booth : GoodIn wsL_law wsX4_booth := goodIn_r _ [317, 73, 127, 128, 129, 5, 130, 100, 101, 102, 103, 518, 519, 520, 521, 522, 523, 524, 525, 526, 527, 528, 529, 530, 531, 532, 533, 534, 535, 536, 537, 538, 539, 540, 541, 542] (by decide +kernel) (by decide +kernel)
set_option maxRecDepth 20000 in
theorem gL_law_X4_booth : GoodIn wsL_law (wsV RL 57 RX4 yX4_booth wsX4_booth) := goodIn_app (goodIn_of _ (by decide +kernel)) ggL_law_X4_booth
set_option maxRecDepth 20000 in
theorem ggL_law_X3_lacking : GoodIn wsL_law wsX3_lacking := goodIn_r _ [321, 26, 15, 27, 135, 136, 2, 137, 322, 117, 118, 323, 324, 325, 14, 326, 95, 327, 226, 227, 228, 33, 191, 109, 110, 111, 229, 113, 114, 115, 116, 511, 512, 513, 514, 515, 516, 517, 543, 544, 545, 546, 547, 548] (by decide +kernel) (by decide +kernel)
set_option maxRecDepth 20000 in
theorem gL_law_X3_lacking : GoodIn wsL_law (wsV RL 58 RX3 yX3_lacking wsX3_lacking) := goodIn_app (goodIn_of _ (by decide +kernel)) ggL_law_X3_lacking
set_option maxRecDepth 20000 in
theorem ggL_law_X4_lacking : GoodIn wsL_law wsX4_lacking := goodIn_r _ [331, 100, 69, 66, 71, 72, 142, 143, 5, 144, 101, 102, 103, 247, 248, 249, 518, 519, 520, 521, 522, 523, 524, 525, 526, 527, 528, 529, 530, 531, 532, 533, 534, 535, 536, 537, 538, 539, 540, 541, 542] (by decide +kernel) (by decide +kernel)
set_option maxRecDepth 20000 in
theorem gL_law_X4_lacking : GoodIn wsL_law (wsV RL 61 RX4 yX4_lacking wsX4_lacking) := goodIn_app (goodIn_of _ (by decide +kernel)) ggL_law_X4_lacking
