set_option maxRecDepth 20000 in
theorem ggL_law_X3_tired : GoodIn wsL_law wsX3_tired := goodIn_r _ [454, 15, 23, 108, 109, 110, 14, 111, 95, 344, 345, 2, 346, 391, 392, 393, 22, 394, 56, 60, 47, 48, 49, 395, 396, 397, 398, 58, 54, 55, 399, 400, 401, 402, 57, 59, 403, 205, 206, 207, 35, 191, 185, 186, 404, 405, 406, 407, 408, 409, 410, 411, 412, 413, 188, 189, 190, 32, 117, 118, 414, 415, 416, 417, 418, 419, 420, 421, 422, 423, 424, 425, 511, 512, 513, 514, 515, 516, 517, 563, 564, 565, 566, 567, 568, 543, 544, 545, 546, 547, 548] (by decide +kernel) (by decide +kernel)
set_option maxRecDepth 20000 in
theorem gL_law_X3_tired : GoodIn wsL_law (wsV RL 86 RX3 yX3_tired wsX3_tired) := goodIn_app (goodIn_of _ (by decide +kernel)) ggL_law_X3_tired
set_option maxRecDepth 20000 in
theorem ggL_law_X4_tired : GoodIn wsL_law wsX4_tired := goodIn_r _ [458, 80, 127, 128, 129, 5, 130, 100, 101, 102, 103, 356, 357, 358, 430, 431, 432, 433, 434, 83, 81, 82, 75, 76, 435, 436, 437, 438, 73, 74, 65, 439, 440, 441, 442, 247, 248, 249, 518, 519, 520, 521, 522, 523, 524, 525, 526, 527, 528, 529, 530, 531, 532, 533, 534, 535, 536, 537, 538, 539, 540, 541, 542] (by decide +kernel) (by decide +kernel)
set_option maxRecDepth 20000 in
theorem gL_law_X4_tired : GoodIn wsL_law (wsV RL 89 RX4 yX4_tired wsX4_tired) := goodIn_app (goodIn_of _ (by decide +kernel)) ggL_law_X4_tired
set_option maxRecDepth 20000 in
theorem ggL_law_X3_late : GoodIn wsL_law wsX3_late := goodIn_r _ [462, 23, 347, 185, 2, 186, 463, 464, 465, 22, 466, 56, 60, 47, 48, 49, 395, 396, 397, 398, 58, 54, 55, 345, 346, 399, 400, 401, 402, 57, 59, 403, 205, 206, 14, 207, 35, 191, 109, 110, 111, 95, 404, 405, 406, 407, 408, 409, 410, 411, 412, 413, 188, 189, 190, 32, 117, 118, 414, 415, 416, 417, 418, 419, 420, 421, 422, 423, 424, 425, 467, 468, 469, 470, 511, 512, 513, 514, 515, 516, 517, 563, 564, 565, 566, 567, 568, 543, 544, 545, 546, 547, 548] (by decide +kernel) (by decide +kernel)
set_option maxRecDepth 20000 in
theorem gL_law_X3_late : GoodIn wsL_law (wsV RL 90 RX3 yX3_late wsX3_late) := goodIn_app (goodIn_of _ (by decide +kernel)) ggL_law_X3_late
set_option maxRecDepth 20000 in
theorem ggL_law_X4_late : GoodIn wsL_law wsX4_late := goodIn_r _ [474, 83, 359, 360, 5, 361, 101, 102, 103, 430, 431, 432, 433, 434, 80, 100, 81, 82, 75, 76, 435, 436, 437, 438, 73, 74, 65, 439, 440, 441, 442, 247, 248, 249, 518, 519, 520, 521, 522, 523, 524, 525, 526, 527, 528, 529, 530, 531, 532, 533, 534, 535, 536, 537, 538, 539, 540, 541, 542] (by decide +kernel) (by decide +kernel)
set_option maxRecDepth 20000 in
theorem gL_law_X4_late : GoodIn wsL_law (wsV RL 93 RX4 yX4_late wsX4_late) := goodIn_app (goodIn_of _ (by decide +kernel)) ggL_law_X4_late
set_option maxRecDepth 20000 in
theorem ggL_law_X3_worn : GoodIn wsL_law wsX3_worn := goodIn_r _ [478, 23, 28, 479, 480, 481, 22, 482, 56, 60, 47, 48, 49, 395, 396, 397, 398, 58, 54, 55, 345, 2, 346, 399, 400, 401, 402, 57, 59, 403, 205, 206, 14, 207, 35, 191, 109, 110, 111, 95, 185, 186, 404, 405, 406, 407, 408, 409, 410, 411, 412, 413, 188, 189, 190, 32, 117, 118, 414, 415, 416, 417, 418, 419, 420, 421, 422, 423, 424, 425, 483, 484, 485, 486, 511, 512, 513, 514, 515, 516, 517, 563, 564, 565, 566, 567, 568, 543, 544, 545, 546, 547, 548] (by decide +kernel) (by decide +kernel)
set_option maxRecDepth 20000 in
theorem gL_law_X3_worn : GoodIn wsL_law (wsV RL 94 RX3 yX3_worn wsX3_worn) := goodIn_app (goodIn_of _ (by decide +kernel)) ggL_law_X3_worn
set_option maxRecDepth 20000 in
theorem ggL_law_X4_worn : GoodIn wsL_law wsX4_worn := goodIn_r _ [490, 434, 430, 431, 432, 5, 433, 80, 83, 100, 81, 82, 75, 76, 435, 436, 437, 438, 73, 74, 65, 439, 440, 441, 442, 247, 248, 249, 518, 519, 520, 521, 522, 523, 524, 525, 526, 527, 528, 529, 530, 531, 532, 533, 534, 535, 536, 537, 538, 539, 540, 541, 542] (by decide +kernel) (by decide +kernel)
set_option maxRecDepth 20000 in
theorem gL_law_X4_worn : GoodIn wsL_law (wsV RL 97 RX4 yX4_worn wsX4_worn) := goodIn_app (goodIn_of _ (by decide +kernel)) ggL_law_X4_worn
