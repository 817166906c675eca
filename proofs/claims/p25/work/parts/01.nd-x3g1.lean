set_option maxRecDepth 20000 in
theorem ggL_law_X2_is : GoodIn wsL_law wsX2_is := goodIn_r _ [138, 14, 62, 63, 2, 64, 139, 140, 141, 61, 142, 73, 527, 528, 529, 530, 531, 532, 533, 534, 535, 563, 564, 565, 566, 567, 568] rfl (by decide +kernel)
set_option maxRecDepth 20000 in
theorem gL_law_X2_is : GoodIn wsL_law (wsV RL 36 RX2 yX2_is wsX2_is) := goodIn_app (goodIn_r _ [135, 136, 137, 2] rfl (by decide +kernel)) ggL_law_X2_is
set_option maxRecDepth 20000 in
theorem ggL_law_X3_is : GoodIn wsL_law wsX3_is := goodIn_r _ [146, 147, 35, 36, 80, 81, 5, 82, 83, 84, 85, 86, 148, 149, 150, 536, 537, 538, 539, 540, 541, 542, 543, 544, 545, 546, 547, 548, 549, 550, 551, 552, 553, 554, 555, 556, 557, 558] rfl (by decide +kernel)
set_option maxRecDepth 20000 in
theorem gL_law_X3_is : GoodIn wsL_law (wsV RL 39 RX3 yX3_is wsX3_is) := goodIn_app (goodIn_r _ [143, 144, 145, 5] rfl (by decide +kernel)) ggL_law_X3_is
set_option maxRecDepth 20000 in
theorem ggL_law_X2_get : GoodIn wsL_law wsX2_get := goodIn_r _ [154, 155, 14, 156, 157, 62, 63, 2, 64, 158, 159, 160, 161, 162, 163, 164, 165, 166, 167, 139, 140, 141, 61, 142, 73, 527, 528, 529, 530, 531, 532, 533, 534, 535, 563, 564, 565, 566, 567, 568] rfl (by decide +kernel)
set_option maxRecDepth 20000 in
theorem gL_law_X2_get : GoodIn wsL_law (wsV RL 40 RX2 yX2_get wsX2_get) := goodIn_app (goodIn_r _ [151, 152, 153, 2] rfl (by decide +kernel)) ggL_law_X2_get
set_option maxRecDepth 20000 in
theorem ggL_law_X3_get : GoodIn wsL_law wsX3_get := goodIn_r _ [171, 101, 35, 172, 173, 38, 80, 81, 5, 82, 83, 84, 85, 86, 174, 175, 176, 177, 178, 179, 180, 181, 182, 183, 36, 94, 95, 96, 536, 537, 538, 539, 540, 541, 542, 543, 544, 545, 546, 547, 548, 549, 550, 551, 552, 553, 554, 555, 556, 557, 558] rfl (by decide +kernel)
set_option maxRecDepth 20000 in
theorem gL_law_X3_get : GoodIn wsL_law (wsV RL 44 RX3 yX3_get wsX3_get) := goodIn_app (goodIn_r _ [168, 169, 170, 5] rfl (by decide +kernel)) ggL_law_X3_get
set_option maxRecDepth 20000 in
theorem ggL_law_X2_set : GoodIn wsL_law wsX2_set := goodIn_r _ [187, 14, 156, 157, 62, 63, 2, 64, 158, 159, 160, 161, 162, 163, 164, 165, 166, 167, 139, 140, 141, 61, 142, 73, 188, 189, 190, 191, 192, 193, 194, 195, 196, 197, 198, 199, 200, 201, 202, 203, 204, 205, 527, 528, 529, 530, 531, 532, 533, 534, 535, 563, 564, 565, 566, 567, 568] rfl (by decide +kernel)
set_option maxRecDepth 20000 in
theorem gL_law_X2_set : GoodIn wsL_law (wsV RL 47 RX2 yX2_set wsX2_set) := goodIn_app (goodIn_r _ [184, 185, 186, 2] rfl (by decide +kernel)) ggL_law_X2_set
set_option maxRecDepth 20000 in
theorem ggL_law_X3_set : GoodIn wsL_law wsX3_set := goodIn_r _ [209, 35, 38, 80, 81, 5, 82, 83, 84, 85, 86, 174, 175, 176, 177, 178, 179, 180, 181, 182, 183, 36, 94, 95, 96, 210, 211, 212, 213, 214, 215, 216, 217, 218, 219, 536, 537, 538, 539, 540, 541, 542, 543, 544, 545, 546, 547, 548, 549, 550, 551, 552, 553, 554, 555, 556, 557, 558] rfl (by decide +kernel)
set_option maxRecDepth 20000 in
theorem gL_law_X3_set : GoodIn wsL_law (wsV RL 51 RX3 yX3_set wsX3_set) := goodIn_app (goodIn_r _ [206, 207, 208, 5] rfl (by decide +kernel)) ggL_law_X3_set
set_option maxRecDepth 20000 in
theorem ggL_law_X2_link : GoodIn wsL_law wsX2_link := goodIn_r _ [223, 14, 156, 62, 63, 2, 64, 224, 225, 226, 161, 162, 163, 164, 139, 140, 141, 61, 142, 73, 227, 228, 229, 230, 231, 232, 233, 234, 235, 236, 527, 528, 529, 530, 531, 532, 533, 534, 535, 563, 564, 565, 566, 567, 568] rfl (by decide +kernel)
set_option maxRecDepth 20000 in
theorem gL_law_X2_link : GoodIn wsL_law (wsV RL 52 RX2 yX2_link wsX2_link) := goodIn_app (goodIn_r _ [220, 221, 222, 2] rfl (by decide +kernel)) ggL_law_X2_link
set_option maxRecDepth 20000 in
theorem ggL_law_X3_link : GoodIn wsL_law wsX3_link := goodIn_r _ [240, 35, 36, 38, 80, 81, 5, 82, 83, 84, 85, 86, 91, 92, 93, 180, 181, 182, 183, 94, 95, 96, 241, 242, 243, 536, 537, 538, 539, 540, 541, 542, 543, 544, 545, 546, 547, 548, 549, 550, 551, 552, 553, 554, 555, 556, 557, 558] rfl (by decide +kernel)
set_option maxRecDepth 20000 in
theorem gL_law_X3_link : GoodIn wsL_law (wsV RL 55 RX3 yX3_link wsX3_link) := goodIn_app (goodIn_r _ [237, 238, 239, 5] rfl (by decide +kernel)) ggL_law_X3_link
set_option maxRecDepth 20000 in
theorem ggL_law_X2_follow : GoodIn wsL_law wsX2_follow := goodIn_r _ [247, 14, 156, 62, 63, 2, 64, 224, 225, 226, 161, 162, 163, 164, 165, 166, 167, 139, 140, 141, 61, 142, 73, 248, 249, 250, 251, 234, 235, 236, 527, 528, 529, 530, 531, 532, 533, 534, 535, 563, 564, 565, 566, 567, 568] rfl (by decide +kernel)
set_option maxRecDepth 20000 in
theorem gL_law_X2_follow : GoodIn wsL_law (wsV RL 56 RX2 yX2_follow wsX2_follow) := goodIn_app (goodIn_r _ [244, 245, 246, 2] rfl (by decide +kernel)) ggL_law_X2_follow
set_option maxRecDepth 20000 in
theorem ggL_law_X3_follow : GoodIn wsL_law wsX3_follow := goodIn_r _ [255, 35, 38, 80, 81, 5, 82, 83, 84, 85, 86, 91, 92, 93, 180, 181, 182, 183, 36, 94, 95, 96, 536, 537, 538, 539, 540, 541, 542, 543, 544, 545, 546, 547, 548, 549, 550, 551, 552, 553, 554, 555, 556, 557, 558] rfl (by decide +kernel)
set_option maxRecDepth 20000 in
theorem gL_law_X3_follow : GoodIn wsL_law (wsV RL 59 RX3 yX3_follow wsX3_follow) := goodIn_app (goodIn_r _ [252, 253, 254, 5] rfl (by decide +kernel)) ggL_law_X3_follow
set_option maxRecDepth 20000 in
theorem ggL_law_X2_row : GoodIn wsL_law wsX2_row := goodIn_r _ [259, 14, 26, 260, 62, 63, 2, 64, 139, 140, 141, 61, 142, 73, 527, 528, 529, 530, 531, 532, 533, 534, 535, 563, 564, 565, 566, 567, 568] rfl (by decide +kernel)
set_option maxRecDepth 20000 in
theorem gL_law_X2_row : GoodIn wsL_law (wsV RL 60 RX2 yX2_row wsX2_row) := goodIn_app (goodIn_r _ [256, 257, 258, 2] rfl (by decide +kernel)) ggL_law_X2_row
set_option maxRecDepth 20000 in
theorem ggL_law_X3_row : GoodIn wsL_law wsX3_row := goodIn_r _ [264, 35, 39, 41, 80, 81, 5, 82, 83, 84, 85, 86, 180, 181, 182, 183, 36, 94, 95, 96, 536, 537, 538, 539, 540, 541, 542, 543, 544, 545, 546, 547, 548, 549, 550, 551, 552, 553, 554, 555, 556, 557, 558] rfl (by decide +kernel)
set_option maxRecDepth 20000 in
theorem gL_law_X3_row : GoodIn wsL_law (wsV RL 63 RX3 yX3_row wsX3_row) := goodIn_app (goodIn_r _ [261, 262, 263, 5] rfl (by decide +kernel)) ggL_law_X3_row
set_option maxRecDepth 20000 in
theorem ggL_law_X2_put : GoodIn wsL_law wsX2_put := goodIn_r _ [268, 14, 260, 62, 63, 2, 64, 269, 270, 271, 165, 166, 167, 139, 140, 141, 61, 142, 73, 527, 528, 529, 530, 531, 532, 533, 534, 535, 563, 564, 565, 566, 567, 568] rfl (by decide +kernel)
set_option maxRecDepth 20000 in
theorem gL_law_X2_put : GoodIn wsL_law (wsV RL 64 RX2 yX2_put wsX2_put) := goodIn_app (goodIn_r _ [265, 266, 267, 2] rfl (by decide +kernel)) ggL_law_X2_put
