set_option maxRecDepth 20000 in
theorem ggL_law_X3_reseed : GoodIn wsL_law wsX3_reseed := goodIn_r _ [341, 16, 31, 152, 153, 154, 15, 155, 38, 342, 343, 344, 2, 345, 190, 191, 192, 193, 30, 19, 20, 194, 195, 196, 29, 197, 55, 53, 198, 171, 172, 173, 199, 200, 201, 202, 25, 203, 45, 204, 205, 206, 207, 208, 209, 210, 211, 212, 213, 214, 215, 216, 217, 40, 218, 157, 158, 159, 219, 220, 221, 222, 223, 47, 224, 225, 226, 227, 228, 229, 230, 231, 232, 233, 234, 235, 236, 237, 238, 239, 240, 241, 242, 243, 244, 46, 245, 246, 247, 248, 249, 250, 251, 252, 253, 254, 255, 256, 257, 258, 259, 260, 261, 262, 263, 264, 265, 266, 267, 268, 269, 270, 271, 272, 273, 274, 275, 276, 277, 278, 279, 280, 281, 282, 283, 284, 285, 286, 287, 288, 289, 290, 56, 291, 292, 293, 294, 21, 170, 295, 454, 455, 456, 457, 458, 459, 460, 461, 462, 463, 464, 465, 488, 489, 493, 494, 495, 490, 491, 492] (by decide +kernel) (by decide +kernel)
set_option maxRecDepth 20000 in
theorem gL_law_X3_reseed : GoodIn wsL_law (wsV RL 29 RX3 yX3_reseed wsX3_reseed) := goodIn_app (goodIn_of _ (by decide +kernel)) ggL_law_X3_reseed
set_option maxRecDepth 20000 in
theorem ggL_law_X4_reseed : GoodIn wsL_law wsX4_reseed := goodIn_r _ [349, 164, 300, 301, 302, 303, 304, 5, 305, 141, 143, 139, 145, 144, 306, 307, 308, 309, 140, 310, 311, 312, 313, 314, 315, 316, 317, 138, 318, 319, 320, 321, 322, 323, 324, 325, 326, 136, 135, 327, 328, 329, 330, 137, 126, 331, 332, 333, 334, 335, 336, 337, 466, 467, 468, 469, 470, 471, 472, 473, 474, 475, 476, 477, 478, 479, 480, 481, 482, 483, 484, 485, 486, 487] (by decide +kernel) (by decide +kernel)
set_option maxRecDepth 20000 in
theorem gL_law_X4_reseed : GoodIn wsL_law (wsV RL 32 RX4 yX4_reseed wsX4_reseed) := goodIn_app (goodIn_of _ (by decide +kernel)) ggL_law_X4_reseed
set_option maxRecDepth 20000 in
theorem ggL_law_X3_draw : GoodIn wsL_law wsX3_draw := goodIn_r _ [353, 31, 32, 16, 33, 342, 343, 344, 2, 345, 152, 153, 154, 15, 155, 38, 190, 191, 192, 193, 30, 19, 20, 194, 195, 196, 29, 197, 55, 53, 198, 171, 172, 173, 199, 200, 201, 202, 25, 203, 45, 204, 205, 206, 207, 208, 209, 210, 211, 212, 213, 214, 215, 216, 217, 40, 218, 157, 158, 159, 219, 220, 221, 222, 223, 47, 224, 225, 226, 227, 228, 229, 230, 231, 232, 233, 234, 235, 236, 237, 238, 239, 240, 241, 242, 243, 244, 46, 245, 246, 247, 248, 249, 250, 251, 252, 253, 254, 255, 256, 257, 258, 259, 260, 261, 262, 263, 264, 265, 266, 267, 268, 269, 270, 271, 272, 273, 274, 275, 276, 277, 278, 279, 280, 281, 282, 283, 284, 285, 286, 287, 288, 289, 290, 56, 291, 292, 293, 294, 21, 170, 295, 354, 355, 356, 357, 18, 358, 454, 455, 456, 457, 458, 459, 460, 461, 462, 463, 464, 465, 488, 489, 493, 494, 495, 490, 491, 492] (by decide +kernel) (by decide +kernel)
set_option maxRecDepth 20000 in
theorem gL_law_X3_draw : GoodIn wsL_law (wsV RL 33 RX3 yX3_draw wsX3_draw) := goodIn_app (goodIn_of _ (by decide +kernel)) ggL_law_X3_draw
set_option maxRecDepth 20000 in
theorem ggL_law_X4_draw : GoodIn wsL_law wsX4_draw := goodIn_r _ [362, 300, 301, 146, 164, 147, 144, 363, 364, 302, 303, 304, 5, 305, 141, 143, 139, 145, 306, 307, 308, 309, 140, 310, 311, 312, 313, 314, 315, 316, 317, 138, 318, 319, 320, 321, 322, 323, 324, 325, 326, 136, 135, 327, 328, 329, 330, 137, 126, 331, 332, 333, 334, 335, 336, 337, 466, 467, 468, 469, 470, 471, 472, 473, 474, 475, 476, 477, 478, 479, 480, 481, 482, 483, 484, 485, 486, 487] (by decide +kernel) (by decide +kernel)
set_option maxRecDepth 20000 in
theorem gL_law_X4_draw : GoodIn wsL_law (wsV RL 37 RX4 yX4_draw wsX4_draw) := goodIn_app (goodIn_of _ (by decide +kernel)) ggL_law_X4_draw
set_option maxRecDepth 20000 in
theorem ggL_law_X3_interval : GoodIn wsL_law wsX3_interval := goodIn_r _ [368, 32, 454, 455, 456, 457, 458, 459, 460, 461, 462, 463, 464, 465] (by decide +kernel) (by decide +kernel)
set_option maxRecDepth 20000 in
theorem gL_law_X3_interval : GoodIn wsL_law (wsV RL 38 RX3 yX3_interval wsX3_interval) := goodIn_app (goodIn_of _ (by decide +kernel)) ggL_law_X3_interval
set_option maxRecDepth 20000 in
theorem ggL_law_X4_interval : GoodIn wsL_law wsX4_interval := goodIn_r _ [372, 146, 466, 467, 468, 469, 470, 471, 472, 473, 474, 475, 476, 477, 478, 479, 480, 481, 482, 483, 484, 485, 486, 487] (by decide +kernel) (by decide +kernel)
set_option maxRecDepth 20000 in
theorem gL_law_X4_interval : GoodIn wsL_law (wsV RL 41 RX4 yX4_interval wsX4_interval) := goodIn_app (goodIn_of _ (by decide +kernel)) ggL_law_X4_interval
set_option maxRecDepth 20000 in
theorem ggL_law_X3_out : GoodIn wsL_law wsX3_out := goodIn_r _ [376, 18, 377, 250, 251, 15, 252, 38, 40, 454, 455, 456, 457, 458, 459, 460, 461, 462, 463, 464, 465, 488, 489] (by decide +kernel) (by decide +kernel)
set_option maxRecDepth 20000 in
theorem gL_law_X3_out : GoodIn wsL_law (wsV RL 42 RX3 yX3_out wsX3_out) := goodIn_app (goodIn_of _ (by decide +kernel)) ggL_law_X3_out
set_option maxRecDepth 20000 in
theorem ggL_law_X4_out : GoodIn wsL_law wsX4_out := goodIn_r _ [381, 363, 147, 466, 467, 468, 469, 470, 471, 472, 473, 474, 475, 476, 477, 478, 479, 480, 481, 482, 483, 484, 485, 486, 487] (by decide +kernel) (by decide +kernel)
set_option maxRecDepth 20000 in
theorem gL_law_X4_out : GoodIn wsL_law (wsV RL 45 RX4 yX4_out wsX4_out) := goodIn_app (goodIn_of _ (by decide +kernel)) ggL_law_X4_out
