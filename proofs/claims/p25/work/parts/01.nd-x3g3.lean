set_option maxRecDepth 20000 in
theorem ggL_law_X3_passed : GoodIn wsL_law wsX3_passed := goodIn_r _ [368, 359, 536, 537, 538, 539, 540, 541, 542, 543, 544, 545, 546, 547, 548, 549, 550, 551, 552, 553, 554, 555, 556, 557, 558] rfl (by decide +kernel)
set_option maxRecDepth 20000 in
theorem gL_law_X3_passed : GoodIn wsL_law (wsV RL 92 RX3 yX3_passed wsX3_passed) := goodIn_app (goodIn_r _ [365, 366, 367, 5] rfl (by decide +kernel)) ggL_law_X3_passed
set_option maxRecDepth 20000 in
theorem ggL_law_X2_leaves : GoodIn wsL_law wsX2_leaves := goodIn_r _ [372, 14, 19, 18, 373, 62, 63, 2, 64, 374, 375, 376, 377, 378, 379, 380, 381, 382, 21, 302, 383, 384, 385, 386, 387, 388, 389, 390, 391, 392, 393, 394, 395, 396, 130, 397, 398, 399, 17, 400, 401, 27, 28, 30, 402, 403, 404, 405, 161, 260, 157, 248, 249, 250, 61, 251, 234, 235, 236, 406, 407, 408, 527, 528, 529, 530, 531, 532, 533, 534, 535, 559, 560, 561, 562, 563, 564, 565, 566, 567, 568] rfl (by decide +kernel)
set_option maxRecDepth 20000 in
theorem gL_law_X2_leaves : GoodIn wsL_law (wsV RL 93 RX2 yX2_leaves wsX2_leaves) := goodIn_app (goodIn_r _ [369, 370, 371, 2] rfl (by decide +kernel)) ggL_law_X2_leaves
set_option maxRecDepth 20000 in
theorem ggL_law_X3_leaves : GoodIn wsL_law wsX3_leaves := goodIn_r _ [412, 35, 413, 414, 45, 49, 46, 50, 47, 51, 80, 81, 5, 82, 83, 84, 85, 86, 415, 416, 417, 418, 419, 48, 420, 36, 38, 91, 92, 93, 94, 95, 96, 421, 422, 423, 424, 425, 426, 427, 428, 39, 41, 101, 429, 430, 431, 432, 536, 537, 538, 539, 540, 541, 542, 543, 544, 545, 546, 547, 548, 549, 550, 551, 552, 553, 554, 555, 556, 557, 558] rfl (by decide +kernel)
set_option maxRecDepth 20000 in
theorem gL_law_X3_leaves : GoodIn wsL_law (wsV RL 96 RX3 yX3_leaves wsX3_leaves) := goodIn_app (goodIn_r _ [409, 410, 411, 5] rfl (by decide +kernel)) ggL_law_X3_leaves
set_option maxRecDepth 20000 in
theorem ggL_law_X2_leaf : GoodIn wsL_law wsX2_leaf := goodIn_r _ [436, 18, 155, 437, 438, 439, 440, 441, 442, 17, 443, 401, 527, 528, 529, 530, 531, 532, 533, 534, 535, 559, 560, 561, 562] rfl (by decide +kernel)
set_option maxRecDepth 20000 in
theorem gL_law_X2_leaf : GoodIn wsL_law (wsV RL 97 RX2 yX2_leaf wsX2_leaf) := goodIn_app (goodIn_r _ [433, 434, 435, 2] rfl (by decide +kernel)) ggL_law_X2_leaf
set_option maxRecDepth 20000 in
theorem ggL_law_X3_leaf : GoodIn wsL_law wsX3_leaf := goodIn_r _ [447, 414, 297, 101, 45, 46, 47, 84, 85, 5, 86, 536, 537, 538, 539, 540, 541, 542, 543, 544, 545, 546, 547, 548, 549, 550, 551, 552, 553, 554, 555, 556, 557, 558] rfl (by decide +kernel)
set_option maxRecDepth 20000 in
theorem gL_law_X3_leaf : GoodIn wsL_law (wsV RL 100 RX3 yX3_leaf wsX3_leaf) := goodIn_app (goodIn_r _ [444, 445, 446, 5] rfl (by decide +kernel)) ggL_law_X3_leaf
set_option maxRecDepth 20000 in
theorem ggL_law_X2_alter : GoodIn wsL_law wsX2_alter := goodIn_r _ [451, 18, 438, 439, 440, 441, 442, 17, 443, 401, 527, 528, 529, 530, 531, 532, 533, 534, 535, 559, 560, 561, 562] rfl (by decide +kernel)
set_option maxRecDepth 20000 in
theorem gL_law_X2_alter : GoodIn wsL_law (wsV RL 101 RX2 yX2_alter wsX2_alter) := goodIn_app (goodIn_r _ [448, 449, 450, 2] rfl (by decide +kernel)) ggL_law_X2_alter
set_option maxRecDepth 20000 in
theorem ggL_law_X3_alter : GoodIn wsL_law wsX3_alter := goodIn_r _ [455, 414, 46, 47, 84, 85, 5, 86, 536, 537, 538, 539, 540, 541, 542, 543, 544, 545, 546, 547, 548, 549, 550, 551, 552, 553, 554, 555, 556, 557, 558] rfl (by decide +kernel)
set_option maxRecDepth 20000 in
theorem gL_law_X3_alter : GoodIn wsL_law (wsV RL 105 RX3 yX3_alter wsX3_alter) := goodIn_app (goodIn_r _ [452, 453, 454, 5] rfl (by decide +kernel)) ggL_law_X3_alter
set_option maxRecDepth 20000 in
theorem ggL_law_X2_back : GoodIn wsL_law wsX2_back := goodIn_r _ [459, 18, 373, 14, 22, 460, 62, 63, 2, 64, 461, 462, 463, 464, 438, 439, 13, 60, 61, 465, 466, 467, 17, 468, 401, 28, 30, 189, 190, 192, 193, 161, 194, 195, 196, 197, 198, 199, 200, 201, 202, 203, 204, 205, 65, 66, 67, 68, 69, 70, 71, 11, 12, 29, 72, 73, 469, 470, 471, 472, 437, 473, 474, 475, 476, 477, 478, 479, 480, 481, 26, 260, 157, 224, 225, 226, 162, 163, 164, 482, 483, 484, 485, 227, 228, 229, 139, 140, 141, 142, 230, 231, 232, 233, 234, 235, 236, 486, 487, 488, 158, 159, 160, 188, 191, 527, 528, 529, 530, 531, 532, 533, 534, 535, 559, 560, 561, 562, 563, 564, 565, 566, 567, 568] rfl (by decide +kernel)
set_option maxRecDepth 20000 in
theorem gL_law_X2_back : GoodIn wsL_law (wsV RL 106 RX2 yX2_back wsX2_back) := goodIn_app (goodIn_r _ [456, 457, 458, 2] rfl (by decide +kernel)) ggL_law_X2_back
set_option maxRecDepth 20000 in
theorem ggL_law_X3_back : GoodIn wsL_law wsX3_back := goodIn_r _ [492, 414, 45, 297, 79, 52, 46, 47, 41, 39, 36, 38, 35, 80, 81, 5, 82, 83, 84, 85, 86, 493, 494, 495, 496, 87, 88, 89, 90, 43, 44, 91, 92, 93, 94, 95, 96, 97, 98, 99, 100, 101, 241, 242, 243, 210, 211, 212, 213, 214, 215, 216, 217, 218, 219, 536, 537, 538, 539, 540, 541, 542, 543, 544, 545, 546, 547, 548, 549, 550, 551, 552, 553, 554, 555, 556, 557, 558] rfl (by decide +kernel)
set_option maxRecDepth 20000 in
theorem gL_law_X3_back : GoodIn wsL_law (wsV RL 109 RX3 yX3_back wsX3_back) := goodIn_app (goodIn_r _ [489, 490, 491, 5] rfl (by decide +kernel)) ggL_law_X3_back
set_option maxRecDepth 20000 in
theorem ggL_law_X2_equal : GoodIn wsL_law wsX2_equal := goodIn_r _ [500, 14, 19, 20, 62, 63, 2, 64, 374, 375, 376, 377, 373, 378, 379, 380, 381, 382, 21, 302, 383, 384, 385, 386, 387, 388, 389, 390, 391, 392, 393, 394, 395, 396, 130, 397, 398, 399, 17, 400, 401, 27, 28, 30, 402, 403, 404, 405, 161, 260, 157, 248, 249, 250, 61, 251, 234, 235, 236, 406, 407, 408, 501, 502, 503, 504, 527, 528, 529, 530, 531, 532, 533, 534, 535, 559, 560, 561, 562, 563, 564, 565, 566, 567, 568] rfl (by decide +kernel)
set_option maxRecDepth 20000 in
theorem gL_law_X2_equal : GoodIn wsL_law (wsV RL 110 RX2 yX2_equal wsX2_equal) := goodIn_app (goodIn_r _ [497, 498, 499, 2] rfl (by decide +kernel)) ggL_law_X2_equal
set_option maxRecDepth 20000 in
theorem ggL_law_X3_equal : GoodIn wsL_law wsX3_equal := goodIn_r _ [508, 35, 413, 53, 49, 54, 50, 55, 51, 80, 81, 5, 82, 83, 84, 85, 86, 415, 416, 417, 418, 419, 48, 420, 36, 38, 91, 92, 93, 94, 95, 96, 421, 422, 423, 424, 425, 426, 427, 428, 39, 41, 101, 429, 430, 431, 432, 536, 537, 538, 539, 540, 541, 542, 543, 544, 545, 546, 547, 548, 549, 550, 551, 552, 553, 554, 555, 556, 557, 558] rfl (by decide +kernel)
set_option maxRecDepth 20000 in
theorem gL_law_X3_equal : GoodIn wsL_law (wsV RL 113 RX3 yX3_equal wsX3_equal) := goodIn_app (goodIn_r _ [505, 506, 507, 5] rfl (by decide +kernel)) ggL_law_X3_equal
set_option maxRecDepth 20000 in
theorem ggL_law_X2_changed : GoodIn wsL_law wsX2_changed := goodIn_r _ [512, 14, 130, 62, 63, 2, 64, 513, 514, 515, 161, 260, 157, 248, 249, 250, 61, 251, 234, 235, 236, 516, 517, 518, 527, 528, 529, 530, 531, 532, 533, 534, 535, 563, 564, 565, 566, 567, 568] rfl (by decide +kernel)
set_option maxRecDepth 20000 in
theorem gL_law_X2_changed : GoodIn wsL_law (wsV RL 114 RX2 yX2_changed wsX2_changed) := goodIn_app (goodIn_r _ [509, 510, 511, 2] rfl (by decide +kernel)) ggL_law_X2_changed
set_option maxRecDepth 20000 in
theorem ggL_law_X3_changed : GoodIn wsL_law wsX3_changed := goodIn_r _ [522, 35, 36, 80, 81, 5, 82, 83, 84, 85, 86, 94, 95, 96, 523, 524, 525, 526, 38, 39, 41, 536, 537, 538, 539, 540, 541, 542, 543, 544, 545, 546, 547, 548, 549, 550, 551, 552, 553, 554, 555, 556, 557, 558] rfl (by decide +kernel)
set_option maxRecDepth 20000 in
theorem gL_law_X3_changed : GoodIn wsL_law (wsV RL 117 RX3 yX3_changed wsX3_changed) := goodIn_app (goodIn_r _ [519, 520, 521, 5] rfl (by decide +kernel)) ggL_law_X3_changed
