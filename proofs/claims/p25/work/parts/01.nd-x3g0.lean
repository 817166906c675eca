set_option maxRecDepth 20000 in
theorem ggL_law_X2_init : GoodIn wsL_law wsX2_init := goodIn_r _ [9, 10, 11, 12, 13, 14, 15, 16, 17, 18, 19, 20, 21, 22, 23, 24, 25, 26, 27, 28, 29, 30, 527, 528, 529, 530, 531, 532, 533, 534, 535, 559, 560, 561, 562] rfl (by decide +kernel)
set_option maxRecDepth 20000 in
theorem gL_law_X2_init : GoodIn wsL_law (wsX2_init) := ggL_law_X2_init
set_option maxRecDepth 20000 in
theorem ggL_law_X3_init : GoodIn wsL_law wsX3_init := goodIn_r _ [33, 34, 11, 12, 26, 35, 36, 37, 29, 38, 39, 40, 41, 42, 43, 44, 45, 46, 47, 48, 49, 50, 51, 52, 53, 54, 55, 536, 537, 538, 539, 540, 541, 542, 543, 544, 545, 546, 547, 548, 549, 550, 551, 552, 553, 554, 555, 556, 557, 558] rfl (by decide +kernel)
set_option maxRecDepth 20000 in
theorem gL_law_X3_init : GoodIn wsL_law (wsX3_init) := ggL_law_X3_init
set_option maxRecDepth 20000 in
theorem ggL_law_X2_make : GoodIn wsL_law wsX2_make := goodIn_r _ [59, 14, 13, 60, 61, 62, 63, 2, 64, 65, 66, 67, 68, 69, 70, 71, 11, 12, 29, 72, 73, 527, 528, 529, 530, 531, 532, 533, 534, 535, 563, 564, 565, 566, 567, 568] rfl (by decide +kernel)
set_option maxRecDepth 20000 in
theorem gL_law_X2_make : GoodIn wsL_law (wsV RL 13 RX2 yX2_make wsX2_make) := goodIn_app (goodIn_r _ [56, 57, 58, 2] rfl (by decide +kernel)) ggL_law_X2_make
set_option maxRecDepth 20000 in
theorem ggL_law_X3_make : GoodIn wsL_law wsX3_make := goodIn_r _ [77, 78, 79, 35, 80, 81, 5, 82, 83, 84, 85, 86, 87, 88, 89, 90, 43, 44, 36, 38, 91, 92, 93, 94, 95, 96, 97, 98, 99, 100, 101, 39, 536, 537, 538, 539, 540, 541, 542, 543, 544, 545, 546, 547, 548, 549, 550, 551, 552, 553, 554, 555, 556, 557, 558] rfl (by decide +kernel)
set_option maxRecDepth 20000 in
theorem gL_law_X3_make : GoodIn wsL_law (wsV RL 17 RX3 yX3_make wsX3_make) := goodIn_app (goodIn_r _ [74, 75, 76, 5] rfl (by decide +kernel)) ggL_law_X3_make
set_option maxRecDepth 20000 in
theorem ggL_law_X2_clear : GoodIn wsL_law wsX2_clear := goodIn_r _ [105, 14, 62, 63, 2, 64, 527, 528, 529, 530, 531, 532, 533, 534, 535] rfl (by decide +kernel)
set_option maxRecDepth 20000 in
theorem gL_law_X2_clear : GoodIn wsL_law (wsV RL 18 RX2 yX2_clear wsX2_clear) := goodIn_app (goodIn_r _ [102, 103, 104, 2] rfl (by decide +kernel)) ggL_law_X2_clear
set_option maxRecDepth 20000 in
theorem ggL_law_X3_clear : GoodIn wsL_law wsX3_clear := goodIn_r _ [109, 35, 80, 81, 5, 82, 83, 84, 85, 86, 536, 537, 538, 539, 540, 541, 542, 543, 544, 545, 546, 547, 548, 549, 550, 551, 552, 553, 554, 555, 556, 557, 558] rfl (by decide +kernel)
set_option maxRecDepth 20000 in
theorem gL_law_X3_clear : GoodIn wsL_law (wsV RL 22 RX3 yX3_clear wsX3_clear) := goodIn_app (goodIn_r _ [106, 107, 108, 5] rfl (by decide +kernel)) ggL_law_X3_clear
set_option maxRecDepth 20000 in
theorem ggL_law_X2_share : GoodIn wsL_law wsX2_share := goodIn_r _ [113, 14, 62, 63, 2, 64, 527, 528, 529, 530, 531, 532, 533, 534, 535] rfl (by decide +kernel)
set_option maxRecDepth 20000 in
theorem gL_law_X2_share : GoodIn wsL_law (wsV RL 23 RX2 yX2_share wsX2_share) := goodIn_app (goodIn_r _ [110, 111, 112, 2] rfl (by decide +kernel)) ggL_law_X2_share
set_option maxRecDepth 20000 in
theorem ggL_law_X3_share : GoodIn wsL_law wsX3_share := goodIn_r _ [117, 35, 80, 81, 5, 82, 83, 84, 85, 86, 536, 537, 538, 539, 540, 541, 542, 543, 544, 545, 546, 547, 548, 549, 550, 551, 552, 553, 554, 555, 556, 557, 558] rfl (by decide +kernel)
set_option maxRecDepth 20000 in
theorem gL_law_X3_share : GoodIn wsL_law (wsV RL 27 RX3 yX3_share wsX3_share) := goodIn_app (goodIn_r _ [114, 115, 116, 5] rfl (by decide +kernel)) ggL_law_X3_share
set_option maxRecDepth 20000 in
theorem ggL_law_X2_same : GoodIn wsL_law wsX2_same := goodIn_r _ [121, 14, 62, 63, 2, 64, 527, 528, 529, 530, 531, 532, 533, 534, 535] rfl (by decide +kernel)
set_option maxRecDepth 20000 in
theorem gL_law_X2_same : GoodIn wsL_law (wsV RL 28 RX2 yX2_same wsX2_same) := goodIn_app (goodIn_r _ [118, 119, 120, 2] rfl (by decide +kernel)) ggL_law_X2_same
set_option maxRecDepth 20000 in
theorem ggL_law_X3_same : GoodIn wsL_law wsX3_same := goodIn_r _ [125, 35, 80, 81, 5, 82, 83, 84, 85, 86, 536, 537, 538, 539, 540, 541, 542, 543, 544, 545, 546, 547, 548, 549, 550, 551, 552, 553, 554, 555, 556, 557, 558] rfl (by decide +kernel)
set_option maxRecDepth 20000 in
theorem gL_law_X3_same : GoodIn wsL_law (wsV RL 31 RX3 yX3_same wsX3_same) := goodIn_app (goodIn_r _ [122, 123, 124, 5] rfl (by decide +kernel)) ggL_law_X3_same
set_option maxRecDepth 20000 in
theorem ggL_law_X2_cls : GoodIn wsL_law wsX2_cls := goodIn_r _ [129, 14, 130, 62, 63, 2, 64, 527, 528, 529, 530, 531, 532, 533, 534, 535, 563, 564, 565, 566, 567, 568] rfl (by decide +kernel)
set_option maxRecDepth 20000 in
theorem gL_law_X2_cls : GoodIn wsL_law (wsV RL 32 RX2 yX2_cls wsX2_cls) := goodIn_app (goodIn_r _ [126, 127, 128, 2] rfl (by decide +kernel)) ggL_law_X2_cls
set_option maxRecDepth 20000 in
theorem ggL_law_X3_cls : GoodIn wsL_law wsX3_cls := goodIn_r _ [134, 35, 36, 80, 81, 5, 82, 83, 84, 85, 86, 536, 537, 538, 539, 540, 541, 542, 543, 544, 545, 546, 547, 548, 549, 550, 551, 552, 553, 554, 555, 556, 557, 558] rfl (by decide +kernel)
set_option maxRecDepth 20000 in
theorem gL_law_X3_cls : GoodIn wsL_law (wsV RL 35 RX3 yX3_cls wsX3_cls) := goodIn_app (goodIn_r _ [131, 132, 133, 5] rfl (by decide +kernel)) ggL_law_X3_cls
