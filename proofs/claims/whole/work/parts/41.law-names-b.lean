set_option maxRecDepth 20000 in
theorem ggL_law_X3_init : GoodIn wsL_law wsX3_init := goodIn_r _ [9, 10, 11, 12, 13, 14, 15, 16, 17, 18, 19, 20, 21, 22, 23, 24, 25, 26, 27, 28, 29, 30, 31, 32, 33, 34, 35, 36, 37, 38, 39, 40, 41, 42, 43, 44, 45, 46, 47, 48, 49, 50, 51, 52, 53, 54, 55, 56, 57, 488, 489, 454, 455, 456, 457, 458, 459, 460, 461, 462, 463, 464, 465, 490, 491, 492, 493, 494, 495] (by decide +kernel) (by decide +kernel)
set_option maxRecDepth 20000 in
theorem gL_law_X3_init : GoodIn wsL_law (wsX3_init) := ggL_law_X3_init
set_option maxRecDepth 20000 in
theorem ggL_law_X4_init : GoodIn wsL_law wsX4_init := goodIn_r _ [60, 61, 11, 12, 39, 62, 63, 64, 65, 66, 67, 68, 69, 70, 71, 72, 73, 74, 75, 76, 77, 78, 79, 80, 81, 82, 83, 84, 85, 86, 87, 88, 89, 90, 91, 92, 93, 94, 95, 96, 97, 98, 99, 100, 101, 102, 103, 104, 105, 106, 107, 108, 109, 110, 111, 112, 113, 114, 115, 116, 117, 118, 119, 120, 121, 122, 123, 124, 125, 126, 127, 128, 129, 130, 131, 132, 133, 134, 135, 136, 137, 138, 139, 140, 141, 142, 143, 144, 145, 146, 147, 466, 467, 468, 469, 470, 471, 472, 473, 474, 475, 476, 477, 478, 479, 480, 481, 482, 483, 484, 485, 486, 487] (by decide +kernel) (by decide +kernel)
set_option maxRecDepth 20000 in
theorem gL_law_X4_init : GoodIn wsL_law (wsX4_init) := ggL_law_X4_init
set_option maxRecDepth 20000 in
theorem ggL_law_X3_feed : GoodIn wsL_law wsX3_feed := goodIn_r _ [151, 16, 152, 153, 154, 15, 155, 38, 156, 157, 158, 159, 40, 454, 455, 456, 457, 458, 459, 460, 461, 462, 463, 464, 465, 488, 489] (by decide +kernel) (by decide +kernel)
set_option maxRecDepth 20000 in
theorem gL_law_X3_feed : GoodIn wsL_law (wsV RL 15 RX3 yX3_feed wsX3_feed) := goodIn_app (goodIn_of _ (by decide +kernel)) ggL_law_X3_feed
set_option maxRecDepth 20000 in
theorem ggL_law_X4_feed : GoodIn wsL_law wsX4_feed := goodIn_r _ [163, 164, 141, 165, 466, 467, 468, 469, 470, 471, 472, 473, 474, 475, 476, 477, 478, 479, 480, 481, 482, 483, 484, 485, 486, 487] (by decide +kernel) (by decide +kernel)
set_option maxRecDepth 20000 in
theorem gL_law_X4_feed : GoodIn wsL_law (wsV RL 19 RX4 yX4_feed wsX4_feed) := goodIn_app (goodIn_of _ (by decide +kernel)) ggL_law_X4_feed
set_option maxRecDepth 20000 in
theorem ggL_law_X3_clear : GoodIn wsL_law wsX3_clear := goodIn_r _ [169, 16, 152, 153, 154, 15, 155, 38, 170, 171, 172, 173, 454, 455, 456, 457, 458, 459, 460, 461, 462, 463, 464, 465, 488, 489] (by decide +kernel) (by decide +kernel)
set_option maxRecDepth 20000 in
theorem gL_law_X3_clear : GoodIn wsL_law (wsV RL 20 RX3 yX3_clear wsX3_clear) := goodIn_app (goodIn_of _ (by decide +kernel)) ggL_law_X3_clear
set_option maxRecDepth 20000 in
theorem ggL_law_X4_clear : GoodIn wsL_law wsX4_clear := goodIn_r _ [177, 164, 466, 467, 468, 469, 470, 471, 472, 473, 474, 475, 476, 477, 478, 479, 480, 481, 482, 483, 484, 485, 486, 487] (by decide +kernel) (by decide +kernel)
set_option maxRecDepth 20000 in
theorem gL_law_X4_clear : GoodIn wsL_law (wsV RL 24 RX4 yX4_clear wsX4_clear) := goodIn_app (goodIn_of _ (by decide +kernel)) ggL_law_X4_clear
set_option maxRecDepth 20000 in
theorem ggL_law_X3_seed : GoodIn wsL_law wsX3_seed := goodIn_r _ [181, 16, 19, 20, 31, 152, 153, 154, 15, 155, 38, 182, 183, 184, 185, 40, 186, 187, 188, 189, 190, 191, 192, 2, 193, 30, 194, 195, 196, 29, 197, 55, 53, 198, 171, 172, 173, 199, 200, 201, 202, 25, 203, 45, 204, 205, 206, 207, 208, 209, 210, 211, 212, 213, 214, 215, 216, 217, 218, 157, 158, 159, 219, 220, 221, 222, 223, 47, 224, 225, 226, 227, 228, 229, 230, 231, 232, 233, 234, 235, 236, 237, 238, 239, 240, 241, 242, 243, 244, 46, 245, 246, 247, 248, 249, 250, 251, 252, 253, 254, 255, 256, 257, 258, 259, 260, 261, 262, 263, 264, 265, 266, 267, 268, 269, 270, 271, 272, 273, 274, 275, 276, 277, 278, 279, 280, 281, 282, 283, 284, 285, 286, 287, 288, 289, 290, 56, 291, 292, 293, 294, 21, 170, 295, 454, 455, 456, 457, 458, 459, 460, 461, 462, 463, 464, 465, 488, 489, 493, 494, 495, 490, 491, 492] (by decide +kernel) (by decide +kernel)
set_option maxRecDepth 20000 in
theorem gL_law_X3_seed : GoodIn wsL_law (wsV RL 25 RX3 yX3_seed wsX3_seed) := goodIn_app (goodIn_of _ (by decide +kernel)) ggL_law_X3_seed
set_option maxRecDepth 20000 in
theorem ggL_law_X4_seed : GoodIn wsL_law wsX4_seed := goodIn_r _ [299, 164, 143, 144, 300, 301, 302, 303, 304, 5, 305, 141, 139, 145, 306, 307, 308, 309, 140, 310, 311, 312, 313, 314, 315, 316, 317, 138, 318, 319, 320, 321, 322, 323, 324, 325, 326, 136, 135, 327, 328, 329, 330, 137, 126, 331, 332, 333, 334, 335, 336, 337, 466, 467, 468, 469, 470, 471, 472, 473, 474, 475, 476, 477, 478, 479, 480, 481, 482, 483, 484, 485, 486, 487] (by decide +kernel) (by decide +kernel)
set_option maxRecDepth 20000 in
theorem gL_law_X4_seed : GoodIn wsL_law (wsV RL 28 RX4 yX4_seed wsX4_seed) := goodIn_app (goodIn_of _ (by decide +kernel)) ggL_law_X4_seed
