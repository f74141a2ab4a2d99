set_option maxRecDepth 20000 in
theorem ggL_law_X3_own : GoodIn wsL_law wsX3_own := goodIn_r _ [420, 17, 16, 170, 171, 172, 15, 173, 38, 152, 153, 154, 155, 295, 211, 212, 213, 214, 215, 216, 217, 40, 218, 157, 158, 159, 454, 455, 456, 457, 458, 459, 460, 461, 462, 463, 464, 465, 488, 489] (by decide +kernel) (by decide +kernel)
set_option maxRecDepth 20000 in
theorem gL_law_X3_own : GoodIn wsL_law (wsV RL 63 RX3 yX3_own wsX3_own) := goodIn_app (goodIn_of _ (by decide +kernel)) ggL_law_X3_own
set_option maxRecDepth 20000 in
theorem ggL_law_X4_own : GoodIn wsL_law wsX4_own := goodIn_r _ [424, 164, 142, 141, 425, 466, 467, 468, 469, 470, 471, 472, 473, 474, 475, 476, 477, 478, 479, 480, 481, 482, 483, 484, 485, 486, 487] (by decide +kernel) (by decide +kernel)
set_option maxRecDepth 20000 in
theorem gL_law_X4_own : GoodIn wsL_law (wsV RL 66 RX4 yX4_own wsX4_own) := goodIn_app (goodIn_of _ (by decide +kernel)) ggL_law_X4_own
set_option maxRecDepth 20000 in
theorem ggL_law_X3_keyed : GoodIn wsL_law wsX3_keyed := goodIn_r _ [429, 30, 17, 16, 22, 194, 195, 196, 29, 197, 55, 53, 198, 171, 172, 15, 173, 38, 199, 153, 154, 155, 200, 201, 202, 25, 203, 45, 204, 205, 206, 207, 208, 209, 210, 211, 212, 213, 214, 215, 216, 217, 40, 218, 157, 158, 159, 219, 220, 221, 222, 223, 47, 224, 225, 226, 227, 228, 229, 230, 231, 232, 233, 234, 235, 236, 237, 238, 239, 240, 241, 242, 243, 244, 46, 245, 246, 247, 248, 249, 250, 251, 252, 253, 254, 255, 256, 257, 258, 259, 260, 261, 262, 263, 264, 265, 266, 267, 268, 269, 270, 271, 272, 273, 274, 275, 276, 277, 278, 287, 288, 289, 290, 56, 377, 454, 455, 456, 457, 458, 459, 460, 461, 462, 463, 464, 465, 493, 494, 495, 488, 489, 490, 491, 492] (by decide +kernel) (by decide +kernel)
set_option maxRecDepth 20000 in
theorem gL_law_X3_keyed : GoodIn wsL_law (wsV RL 67 RX3 yX3_keyed wsX3_keyed) := goodIn_app (goodIn_of _ (by decide +kernel)) ggL_law_X3_keyed
set_option maxRecDepth 20000 in
theorem ggL_law_X4_keyed : GoodIn wsL_law wsX4_keyed := goodIn_r _ [433, 425, 142, 140, 139, 164, 141, 314, 315, 316, 5, 317, 138, 318, 323, 324, 325, 326, 136, 135, 327, 328, 329, 330, 137, 126, 331, 332, 333, 310, 311, 312, 313, 319, 320, 321, 322, 466, 467, 468, 469, 470, 471, 472, 473, 474, 475, 476, 477, 478, 479, 480, 481, 482, 483, 484, 485, 486, 487] (by decide +kernel) (by decide +kernel)
set_option maxRecDepth 20000 in
theorem gL_law_X4_keyed : GoodIn wsL_law (wsV RL 70 RX4 yX4_keyed wsX4_keyed) := goodIn_app (goodIn_of _ (by decide +kernel)) ggL_law_X4_keyed
set_option maxRecDepth 20000 in
theorem ggL_law_X3_count : GoodIn wsL_law wsX3_count := goodIn_r _ [437, 16, 18, 17, 33, 32, 152, 153, 154, 15, 155, 38, 454, 455, 456, 457, 458, 459, 460, 461, 462, 463, 464, 465, 488, 489] (by decide +kernel) (by decide +kernel)
set_option maxRecDepth 20000 in
theorem gL_law_X3_count : GoodIn wsL_law (wsV RL 71 RX3 yX3_count wsX3_count) := goodIn_app (goodIn_of _ (by decide +kernel)) ggL_law_X3_count
set_option maxRecDepth 20000 in
theorem ggL_law_X4_count : GoodIn wsL_law wsX4_count := goodIn_r _ [441, 164, 363, 425, 364, 146, 466, 467, 468, 469, 470, 471, 472, 473, 474, 475, 476, 477, 478, 479, 480, 481, 482, 483, 484, 485, 486, 487] (by decide +kernel) (by decide +kernel)
set_option maxRecDepth 20000 in
theorem gL_law_X4_count : GoodIn wsL_law (wsV RL 74 RX4 yX4_count wsX4_count) := goodIn_app (goodIn_of _ (by decide +kernel)) ggL_law_X4_count
set_option maxRecDepth 20000 in
theorem ggL_law_X3_check : GoodIn wsL_law wsX3_check := goodIn_r _ [445, 30, 19, 21, 22, 20, 342, 343, 344, 2, 345, 31, 194, 195, 196, 29, 197, 55, 53, 198, 171, 172, 15, 173, 38, 199, 153, 154, 155, 200, 201, 202, 25, 203, 45, 204, 205, 206, 207, 208, 209, 210, 211, 212, 213, 214, 215, 216, 217, 40, 218, 157, 158, 159, 219, 220, 221, 222, 223, 47, 224, 225, 226, 227, 228, 229, 230, 231, 232, 233, 234, 235, 236, 237, 238, 239, 240, 241, 242, 243, 244, 46, 245, 246, 247, 248, 249, 250, 251, 252, 253, 254, 255, 256, 257, 258, 259, 260, 261, 262, 263, 264, 265, 266, 267, 268, 269, 270, 271, 272, 273, 274, 275, 276, 277, 278, 287, 288, 289, 290, 56, 446, 447, 448, 449, 454, 455, 456, 457, 458, 459, 460, 461, 462, 463, 464, 465, 493, 494, 495, 488, 489, 490, 491, 492] (by decide +kernel) (by decide +kernel)
set_option maxRecDepth 20000 in
theorem gL_law_X3_check : GoodIn wsL_law (wsV RL 75 RX3 yX3_check wsX3_check) := goodIn_app (goodIn_of _ (by decide +kernel)) ggL_law_X3_check
set_option maxRecDepth 20000 in
theorem ggL_law_X4_check : GoodIn wsL_law wsX4_check := goodIn_r _ [453, 144, 145, 300, 466, 467, 468, 469, 470, 471, 472, 473, 474, 475, 476, 477, 478, 479, 480, 481, 482, 483, 484, 485, 486, 487] (by decide +kernel) (by decide +kernel)
set_option maxRecDepth 20000 in
theorem gL_law_X4_check : GoodIn wsL_law (wsV RL 78 RX4 yX4_check wsX4_check) := goodIn_app (goodIn_of _ (by decide +kernel)) ggL_law_X4_check
