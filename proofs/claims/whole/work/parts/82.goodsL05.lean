set_option maxRecDepth 20000 in
theorem ggL_law_X3_limit : GoodIn wsL_law wsX3_limit := goodIn_r _ [382, 28, 511, 512, 513, 514, 515, 516, 517] (by decide +kernel) (by decide +kernel)
set_option maxRecDepth 20000 in
theorem gL_law_X3_limit : GoodIn wsL_law (wsV RL 74 RX3 yX3_limit wsX3_limit) := goodIn_app (goodIn_of _ (by decide +kernel)) ggL_law_X3_limit
set_option maxRecDepth 20000 in
theorem ggL_law_X4_limit : GoodIn wsL_law wsX4_limit := goodIn_r _ [386, 76, 101, 102, 5, 103, 518, 519, 520, 521, 522, 523, 524, 525, 526, 527, 528, 529, 530, 531, 532, 533, 534, 535, 536, 537, 538, 539, 540, 541, 542] (by decide +kernel) (by decide +kernel)
set_option maxRecDepth 20000 in
theorem gL_law_X4_limit : GoodIn wsL_law (wsV RL 77 RX4 yX4_limit wsX4_limit) := goodIn_app (goodIn_of _ (by decide +kernel)) ggL_law_X4_limit
set_option maxRecDepth 20000 in
theorem ggL_law_X3_on : GoodIn wsL_law wsX3_on := goodIn_r _ [390, 23, 347, 185, 2, 186, 344, 345, 346, 391, 392, 393, 22, 394, 56, 60, 47, 48, 49, 395, 396, 397, 398, 58, 54, 55, 399, 400, 401, 402, 57, 59, 403, 205, 206, 14, 207, 35, 191, 109, 110, 111, 95, 404, 405, 406, 407, 408, 409, 410, 411, 412, 413, 188, 189, 190, 32, 117, 118, 414, 415, 416, 417, 418, 419, 420, 421, 422, 423, 424, 425, 511, 512, 513, 514, 515, 516, 517, 563, 564, 565, 566, 567, 568, 543, 544, 545, 546, 547, 548] (by decide +kernel) (by decide +kernel)
set_option maxRecDepth 20000 in
theorem gL_law_X3_on : GoodIn wsL_law (wsV RL 78 RX3 yX3_on wsX3_on) := goodIn_app (goodIn_of _ (by decide +kernel)) ggL_law_X3_on
set_option maxRecDepth 20000 in
theorem ggL_law_X4_on : GoodIn wsL_law wsX4_on := goodIn_r _ [429, 81, 359, 360, 5, 361, 101, 102, 103, 356, 357, 358, 430, 431, 432, 433, 434, 80, 83, 100, 82, 75, 76, 435, 436, 437, 438, 73, 74, 65, 439, 440, 441, 442, 247, 248, 249, 518, 519, 520, 521, 522, 523, 524, 525, 526, 527, 528, 529, 530, 531, 532, 533, 534, 535, 536, 537, 538, 539, 540, 541, 542] (by decide +kernel) (by decide +kernel)
set_option maxRecDepth 20000 in
theorem gL_law_X4_on : GoodIn wsL_law (wsV RL 81 RX4 yX4_on wsX4_on) := goodIn_app (goodIn_of _ (by decide +kernel)) ggL_law_X4_on
set_option maxRecDepth 20000 in
theorem ggL_law_X3_heard : GoodIn wsL_law wsX3_heard := goodIn_r _ [446, 23, 347, 185, 2, 186, 344, 345, 346, 391, 392, 393, 22, 394, 56, 60, 47, 48, 49, 395, 396, 397, 398, 58, 54, 55, 399, 400, 401, 402, 57, 59, 403, 205, 206, 14, 207, 35, 191, 109, 110, 111, 95, 404, 405, 406, 407, 408, 409, 410, 411, 412, 413, 188, 189, 190, 32, 117, 118, 414, 415, 416, 417, 418, 419, 420, 421, 422, 423, 424, 425, 511, 512, 513, 514, 515, 516, 517, 563, 564, 565, 566, 567, 568, 543, 544, 545, 546, 547, 548] (by decide +kernel) (by decide +kernel)
set_option maxRecDepth 20000 in
theorem gL_law_X3_heard : GoodIn wsL_law (wsV RL 82 RX3 yX3_heard wsX3_heard) := goodIn_app (goodIn_of _ (by decide +kernel)) ggL_law_X3_heard
set_option maxRecDepth 20000 in
theorem ggL_law_X4_heard : GoodIn wsL_law wsX4_heard := goodIn_r _ [450, 82, 359, 360, 5, 361, 101, 102, 103, 356, 357, 358, 430, 431, 432, 433, 434, 80, 83, 100, 81, 75, 76, 435, 436, 437, 438, 73, 74, 65, 439, 440, 441, 442, 247, 248, 249, 518, 519, 520, 521, 522, 523, 524, 525, 526, 527, 528, 529, 530, 531, 532, 533, 534, 535, 536, 537, 538, 539, 540, 541, 542] (by decide +kernel) (by decide +kernel)
set_option maxRecDepth 20000 in
theorem gL_law_X4_heard : GoodIn wsL_law (wsV RL 85 RX4 yX4_heard wsX4_heard) := goodIn_app (goodIn_of _ (by decide +kernel)) ggL_law_X4_heard
