set_option maxRecDepth 20000 in
theorem ggL_law_X3_put : GoodIn wsL_law wsX3_put := goodIn_r _ [275, 39, 35, 41, 80, 81, 5, 82, 83, 84, 85, 86, 276, 277, 278, 279, 180, 181, 182, 183, 36, 94, 95, 96, 536, 537, 538, 539, 540, 541, 542, 543, 544, 545, 546, 547, 548, 549, 550, 551, 552, 553, 554, 555, 556, 557, 558] rfl (by decide +kernel)
set_option maxRecDepth 20000 in
theorem gL_law_X3_put : GoodIn wsL_law (wsV RL 67 RX3 yX3_put wsX3_put) := goodIn_app (goodIn_r _ [272, 273, 274, 5] rfl (by decide +kernel)) ggL_law_X3_put
set_option maxRecDepth 20000 in
theorem ggL_law_X2_length : GoodIn wsL_law wsX2_length := goodIn_r _ [283, 14, 260, 62, 63, 2, 64, 269, 270, 271, 165, 166, 167, 139, 140, 141, 61, 142, 73, 527, 528, 529, 530, 531, 532, 533, 534, 535, 563, 564, 565, 566, 567, 568] rfl (by decide +kernel)
set_option maxRecDepth 20000 in
theorem gL_law_X2_length : GoodIn wsL_law (wsV RL 68 RX2 yX2_length wsX2_length) := goodIn_app (goodIn_r _ [280, 281, 282, 2] rfl (by decide +kernel)) ggL_law_X2_length
set_option maxRecDepth 20000 in
theorem ggL_law_X3_length : GoodIn wsL_law wsX3_length := goodIn_r _ [287, 39, 35, 80, 81, 5, 82, 83, 84, 85, 86, 276, 277, 278, 279, 180, 181, 182, 183, 36, 94, 95, 96, 536, 537, 538, 539, 540, 541, 542, 543, 544, 545, 546, 547, 548, 549, 550, 551, 552, 553, 554, 555, 556, 557, 558] rfl (by decide +kernel)
set_option maxRecDepth 20000 in
theorem gL_law_X3_length : GoodIn wsL_law (wsV RL 71 RX3 yX3_length wsX3_length) := goodIn_app (goodIn_r _ [284, 285, 286, 5] rfl (by decide +kernel)) ggL_law_X3_length
set_option maxRecDepth 20000 in
theorem ggL_law_X2_count : GoodIn wsL_law wsX2_count := goodIn_r _ [291, 155, 14, 157, 292, 62, 63, 2, 64, 165, 166, 167, 139, 140, 141, 61, 142, 73, 527, 528, 529, 530, 531, 532, 533, 534, 535, 563, 564, 565, 566, 567, 568] rfl (by decide +kernel)
set_option maxRecDepth 20000 in
theorem gL_law_X2_count : GoodIn wsL_law (wsV RL 72 RX2 yX2_count wsX2_count) := goodIn_app (goodIn_r _ [288, 289, 290, 2] rfl (by decide +kernel)) ggL_law_X2_count
set_option maxRecDepth 20000 in
theorem ggL_law_X3_count : GoodIn wsL_law wsX3_count := goodIn_r _ [296, 297, 101, 35, 172, 36, 38, 173, 80, 81, 5, 82, 83, 84, 85, 86, 148, 149, 150, 536, 537, 538, 539, 540, 541, 542, 543, 544, 545, 546, 547, 548, 549, 550, 551, 552, 553, 554, 555, 556, 557, 558] rfl (by decide +kernel)
set_option maxRecDepth 20000 in
theorem gL_law_X3_count : GoodIn wsL_law (wsV RL 75 RX3 yX3_count wsX3_count) := goodIn_app (goodIn_r _ [293, 294, 295, 5] rfl (by decide +kernel)) ggL_law_X3_count
set_option maxRecDepth 20000 in
theorem ggL_law_X2_call : GoodIn wsL_law wsX2_call := goodIn_r _ [301, 14, 302, 62, 63, 2, 64, 165, 166, 167, 139, 140, 141, 61, 142, 73, 303, 304, 305, 306, 72, 307, 308, 309, 310, 311, 312, 313, 314, 315, 316, 317, 318, 234, 236, 235, 319, 320, 321, 322, 527, 528, 529, 530, 531, 532, 533, 534, 535, 563, 564, 565, 566, 567, 568] rfl (by decide +kernel)
set_option maxRecDepth 20000 in
theorem gL_law_X2_call : GoodIn wsL_law (wsV RL 76 RX2 yX2_call wsX2_call) := goodIn_app (goodIn_r _ [298, 299, 300, 2] rfl (by decide +kernel)) ggL_law_X2_call
set_option maxRecDepth 20000 in
theorem ggL_law_X3_call : GoodIn wsL_law wsX3_call := goodIn_r _ [326, 78, 35, 36, 38, 80, 81, 5, 82, 83, 84, 85, 86, 148, 149, 150, 327, 328, 329, 330, 331, 332, 333, 334, 335, 336, 337, 338, 536, 537, 538, 539, 540, 541, 542, 543, 544, 545, 546, 547, 548, 549, 550, 551, 552, 553, 554, 555, 556, 557, 558] rfl (by decide +kernel)
set_option maxRecDepth 20000 in
theorem gL_law_X3_call : GoodIn wsL_law (wsV RL 79 RX3 yX3_call wsX3_call) := goodIn_app (goodIn_r _ [323, 324, 325, 5] rfl (by decide +kernel)) ggL_law_X3_call
set_option maxRecDepth 20000 in
theorem ggL_law_X2_raise : GoodIn wsL_law wsX2_raise := goodIn_r _ [342, 14, 62, 63, 2, 64, 343, 344, 345, 157, 165, 166, 167, 139, 140, 141, 61, 142, 73, 527, 528, 529, 530, 531, 532, 533, 534, 535, 563, 564, 565, 566, 567, 568] rfl (by decide +kernel)
set_option maxRecDepth 20000 in
theorem gL_law_X2_raise : GoodIn wsL_law (wsV RL 80 RX2 yX2_raise wsX2_raise) := goodIn_app (goodIn_r _ [339, 340, 341, 2] rfl (by decide +kernel)) ggL_law_X2_raise
set_option maxRecDepth 20000 in
theorem ggL_law_X3_raise : GoodIn wsL_law wsX3_raise := goodIn_r _ [349, 35, 36, 38, 80, 81, 5, 82, 83, 84, 85, 86, 536, 537, 538, 539, 540, 541, 542, 543, 544, 545, 546, 547, 548, 549, 550, 551, 552, 553, 554, 555, 556, 557, 558] rfl (by decide +kernel)
set_option maxRecDepth 20000 in
theorem gL_law_X3_raise : GoodIn wsL_law (wsV RL 83 RX3 yX3_raise wsX3_raise) := goodIn_app (goodIn_r _ [346, 347, 348, 5] rfl (by decide +kernel)) ggL_law_X3_raise
set_option maxRecDepth 20000 in
theorem ggL_law_X2_passes : GoodIn wsL_law wsX2_passes := goodIn_r _ [353, 354, 14, 62, 63, 2, 64, 343, 344, 345, 157, 165, 166, 167, 139, 140, 141, 61, 142, 73, 527, 528, 529, 530, 531, 532, 533, 534, 535, 563, 564, 565, 566, 567, 568] rfl (by decide +kernel)
set_option maxRecDepth 20000 in
theorem gL_law_X2_passes : GoodIn wsL_law (wsV RL 84 RX2 yX2_passes wsX2_passes) := goodIn_app (goodIn_r _ [350, 351, 352, 2] rfl (by decide +kernel)) ggL_law_X2_passes
set_option maxRecDepth 20000 in
theorem ggL_law_X3_passes : GoodIn wsL_law wsX3_passes := goodIn_r _ [358, 178, 359, 80, 81, 5, 82, 83, 84, 85, 86, 360, 347, 348, 349, 35, 36, 38, 536, 537, 538, 539, 540, 541, 542, 543, 544, 545, 546, 547, 548, 549, 550, 551, 552, 553, 554, 555, 556, 557, 558] rfl (by decide +kernel)
set_option maxRecDepth 20000 in
theorem gL_law_X3_passes : GoodIn wsL_law (wsV RL 87 RX3 yX3_passes wsX3_passes) := goodIn_app (goodIn_r _ [355, 356, 357, 5] rfl (by decide +kernel)) ggL_law_X3_passes
set_option maxRecDepth 20000 in
theorem ggL_law_X2_passed : GoodIn wsL_law wsX2_passed := goodIn_r _ [364, 354, 527, 528, 529, 530, 531, 532, 533, 534, 535] rfl (by decide +kernel)
set_option maxRecDepth 20000 in
theorem gL_law_X2_passed : GoodIn wsL_law (wsV RL 88 RX2 yX2_passed wsX2_passed) := goodIn_app (goodIn_r _ [361, 362, 363, 2] rfl (by decide +kernel)) ggL_law_X2_passed
