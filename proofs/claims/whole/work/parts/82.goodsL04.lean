set_option maxRecDepth 20000 in
theorem ggL_law_X3_needed : GoodIn wsL_law wsX3_needed := goodIn_r _ [335, 15, 19, 108, 109, 110, 14, 111, 95, 135, 136, 2, 137, 157, 158, 159, 160, 25, 26, 27, 161, 162, 163, 18, 164, 165, 166, 167, 168, 169, 170, 171, 172, 41, 117, 118, 173, 174, 175, 45, 40, 176, 177, 178, 179, 180, 181, 182, 183, 184, 42, 46, 47, 48, 49, 185, 186, 187, 188, 189, 190, 32, 191, 192, 193, 194, 195, 196, 197, 198, 199, 200, 201, 202, 203, 34, 204, 205, 206, 207, 35, 208, 209, 210, 211, 43, 212, 213, 214, 215, 216, 217, 218, 219, 44, 220, 221, 222, 223, 224, 225, 226, 227, 228, 33, 229, 113, 114, 115, 116, 322, 511, 512, 513, 514, 515, 516, 517, 549, 550, 551, 552, 553, 554, 555, 556, 557, 558, 559, 560, 561, 562, 543, 544, 545, 546, 547, 548] (by decide +kernel) (by decide +kernel)
set_option maxRecDepth 20000 in
theorem gL_law_X3_needed : GoodIn wsL_law (wsV RL 62 RX3 yX3_needed wsX3_needed) := goodIn_app (goodIn_of _ (by decide +kernel)) ggL_law_X3_needed
set_option maxRecDepth 20000 in
theorem ggL_law_X4_needed : GoodIn wsL_law wsX4_needed := goodIn_r _ [339, 234, 241, 127, 128, 129, 5, 130, 100, 101, 102, 103, 142, 143, 144, 235, 236, 237, 238, 239, 240, 77, 67, 73, 242, 78, 79, 243, 244, 245, 246, 71, 66, 69, 72, 247, 248, 249, 250, 251, 252, 253, 70, 254, 255, 256, 257, 65, 518, 519, 520, 521, 522, 523, 524, 525, 526, 527, 528, 529, 530, 531, 532, 533, 534, 535, 536, 537, 538, 539, 540, 541, 542] (by decide +kernel) (by decide +kernel)
set_option maxRecDepth 20000 in
theorem gL_law_X4_needed : GoodIn wsL_law (wsV RL 65 RX4 yX4_needed wsX4_needed) := goodIn_app (goodIn_of _ (by decide +kernel)) ggL_law_X4_needed
set_option maxRecDepth 20000 in
theorem ggL_law_X3_speak : GoodIn wsL_law wsX3_speak := goodIn_r _ [343, 23, 344, 345, 2, 346, 347, 185, 186, 348, 349, 350, 22, 351, 54, 55, 511, 512, 513, 514, 515, 516, 517, 563, 564, 565, 566, 567, 568] (by decide +kernel) (by decide +kernel)
set_option maxRecDepth 20000 in
theorem gL_law_X3_speak : GoodIn wsL_law (wsV RL 66 RX3 yX3_speak wsX3_speak) := goodIn_app (goodIn_of _ (by decide +kernel)) ggL_law_X3_speak
set_option maxRecDepth 20000 in
theorem ggL_law_X4_speak : GoodIn wsL_law wsX4_speak := goodIn_r _ [355, 74, 75, 356, 357, 5, 358, 101, 102, 103, 359, 360, 361, 518, 519, 520, 521, 522, 523, 524, 525, 526, 527, 528, 529, 530, 531, 532, 533, 534, 535, 536, 537, 538, 539, 540, 541, 542] (by decide +kernel) (by decide +kernel)
set_option maxRecDepth 20000 in
theorem gL_law_X4_speak : GoodIn wsL_law (wsV RL 69 RX4 yX4_speak wsX4_speak) := goodIn_app (goodIn_of _ (by decide +kernel)) ggL_law_X4_speak
set_option maxRecDepth 20000 in
theorem ggL_law_X3_silence : GoodIn wsL_law wsX3_silence := goodIn_r _ [365, 23, 344, 345, 2, 346, 366, 367, 368, 22, 369, 54, 370, 371, 372, 373, 374, 349, 350, 351, 55, 511, 512, 513, 514, 515, 516, 517, 563, 564, 565, 566, 567, 568] (by decide +kernel) (by decide +kernel)
set_option maxRecDepth 20000 in
theorem gL_law_X3_silence : GoodIn wsL_law (wsV RL 70 RX3 yX3_silence wsX3_silence) := goodIn_app (goodIn_of _ (by decide +kernel)) ggL_law_X3_silence
set_option maxRecDepth 20000 in
theorem ggL_law_X4_silence : GoodIn wsL_law wsX4_silence := goodIn_r _ [378, 74, 356, 357, 5, 358, 101, 102, 103, 518, 519, 520, 521, 522, 523, 524, 525, 526, 527, 528, 529, 530, 531, 532, 533, 534, 535, 536, 537, 538, 539, 540, 541, 542] (by decide +kernel) (by decide +kernel)
set_option maxRecDepth 20000 in
theorem gL_law_X4_silence : GoodIn wsL_law (wsV RL 73 RX4 yX4_silence wsX4_silence) := goodIn_app (goodIn_of _ (by decide +kernel)) ggL_law_X4_silence
