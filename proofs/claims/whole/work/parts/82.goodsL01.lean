set_option maxRecDepth 20000 in
theorem ggL_law_X3_session : GoodIn wsL_law wsX3_session := goodIn_r _ [134, 25, 26, 135, 136, 2, 137, 88, 89, 90, 511, 512, 513, 514, 515, 516, 517] (by decide +kernel) (by decide +kernel)
set_option maxRecDepth 20000 in
theorem gL_law_X3_session : GoodIn wsL_law (wsV RL 23 RX3 yX3_session wsX3_session) := goodIn_app (goodIn_of _ (by decide +kernel)) ggL_law_X3_session
set_option maxRecDepth 20000 in
theorem ggL_law_X4_session : GoodIn wsL_law wsX4_session := goodIn_r _ [141, 70, 71, 142, 143, 5, 144, 101, 102, 103, 518, 519, 520, 521, 522, 523, 524, 525, 526, 527, 528, 529, 530, 531, 532, 533, 534, 535, 536, 537, 538, 539, 540, 541, 542] (by decide +kernel) (by decide +kernel)
set_option maxRecDepth 20000 in
theorem gL_law_X4_session : GoodIn wsL_law (wsV RL 26 RX4 yX4_session wsX4_session) := goodIn_app (goodIn_of _ (by decide +kernel)) ggL_law_X4_session
set_option maxRecDepth 20000 in
theorem ggL_law_X3_seats : GoodIn wsL_law wsX3_seats := goodIn_r _ [148, 27, 511, 512, 513, 514, 515, 516, 517] (by decide +kernel) (by decide +kernel)
set_option maxRecDepth 20000 in
theorem gL_law_X3_seats : GoodIn wsL_law (wsV RL 27 RX3 yX3_seats wsX3_seats) := goodIn_app (goodIn_of _ (by decide +kernel)) ggL_law_X3_seats
set_option maxRecDepth 20000 in
theorem ggL_law_X4_seats : GoodIn wsL_law wsX4_seats := goodIn_r _ [152, 72, 101, 102, 5, 103, 518, 519, 520, 521, 522, 523, 524, 525, 526, 527, 528, 529, 530, 531, 532, 533, 534, 535, 536, 537, 538, 539, 540, 541, 542] (by decide +kernel) (by decide +kernel)
set_option maxRecDepth 20000 in
theorem gL_law_X4_seats : GoodIn wsL_law (wsV RL 31 RX4 yX4_seats wsX4_seats) := goodIn_app (goodIn_of _ (by decide +kernel)) ggL_law_X4_seats
set_option maxRecDepth 20000 in
theorem ggL_law_X3_whole : GoodIn wsL_law wsX3_whole := goodIn_r _ [156, 19, 135, 136, 2, 137, 157, 158, 159, 160, 25, 26, 27, 161, 162, 163, 18, 164, 165, 166, 167, 168, 169, 170, 171, 172, 41, 117, 118, 173, 174, 175, 45, 40, 176, 109, 110, 14, 111, 95, 177, 178, 179, 180, 181, 182, 183, 184, 42, 46, 47, 48, 49, 185, 186, 187, 188, 189, 190, 32, 191, 192, 193, 194, 195, 196, 197, 198, 199, 200, 201, 202, 203, 34, 204, 205, 206, 207, 35, 208, 209, 210, 211, 43, 212, 213, 214, 215, 216, 217, 218, 219, 44, 220, 221, 222, 223, 224, 225, 226, 227, 228, 33, 229, 113, 114, 115, 116, 511, 512, 513, 514, 515, 516, 517, 549, 550, 551, 552, 553, 554, 555, 556, 557, 558, 559, 560, 561, 562, 543, 544, 545, 546, 547, 548] (by decide +kernel) (by decide +kernel)
set_option maxRecDepth 20000 in
theorem gL_law_X3_whole : GoodIn wsL_law (wsV RL 32 RX3 yX3_whole wsX3_whole) := goodIn_app (goodIn_of _ (by decide +kernel)) ggL_law_X3_whole
set_option maxRecDepth 20000 in
theorem ggL_law_X4_whole : GoodIn wsL_law wsX4_whole := goodIn_r _ [233, 234, 142, 143, 5, 144, 101, 102, 103, 235, 236, 237, 238, 239, 240, 241, 100, 77, 67, 73, 242, 78, 79, 243, 244, 245, 246, 71, 66, 69, 72, 247, 248, 249, 250, 251, 252, 253, 70, 254, 255, 256, 257, 65, 518, 519, 520, 521, 522, 523, 524, 525, 526, 527, 528, 529, 530, 531, 532, 533, 534, 535, 536, 537, 538, 539, 540, 541, 542] (by decide +kernel) (by decide +kernel)
set_option maxRecDepth 20000 in
theorem gL_law_X4_whole : GoodIn wsL_law (wsV RL 35 RX4 yX4_whole wsX4_whole) := goodIn_app (goodIn_of _ (by decide +kernel)) ggL_law_X4_whole
