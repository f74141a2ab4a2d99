set_option maxRecDepth 20000 in
theorem ggL_law_X3_counter : GoodIn wsL_law wsX3_counter := goodIn_r _ [385, 31, 454, 455, 456, 457, 458, 459, 460, 461, 462, 463, 464, 465] (by decide +kernel) (by decide +kernel)
set_option maxRecDepth 20000 in
theorem gL_law_X3_counter : GoodIn wsL_law (wsV RL 46 RX3 yX3_counter wsX3_counter) := goodIn_app (goodIn_of _ (by decide +kernel)) ggL_law_X3_counter
set_option maxRecDepth 20000 in
theorem ggL_law_X4_counter : GoodIn wsL_law wsX4_counter := goodIn_r _ [389, 300, 301, 466, 467, 468, 469, 470, 471, 472, 473, 474, 475, 476, 477, 478, 479, 480, 481, 482, 483, 484, 485, 486, 487] (by decide +kernel) (by decide +kernel)
set_option maxRecDepth 20000 in
theorem gL_law_X4_counter : GoodIn wsL_law (wsV RL 49 RX4 yX4_counter wsX4_counter) := goodIn_app (goodIn_of _ (by decide +kernel)) ggL_law_X4_counter
set_option maxRecDepth 20000 in
theorem ggL_law_X3_state : GoodIn wsL_law wsX3_state := goodIn_r _ [393, 19, 20, 342, 343, 344, 2, 345, 31, 377, 250, 251, 15, 252, 38, 40, 454, 455, 456, 457, 458, 459, 460, 461, 462, 463, 464, 465, 488, 489] (by decide +kernel) (by decide +kernel)
set_option maxRecDepth 20000 in
theorem gL_law_X3_state : GoodIn wsL_law (wsV RL 50 RX3 yX3_state wsX3_state) := goodIn_app (goodIn_of _ (by decide +kernel)) ggL_law_X3_state
set_option maxRecDepth 20000 in
theorem ggL_law_X4_state : GoodIn wsL_law wsX4_state := goodIn_r _ [397, 300, 143, 144, 466, 467, 468, 469, 470, 471, 472, 473, 474, 475, 476, 477, 478, 479, 480, 481, 482, 483, 484, 485, 486, 487] (by decide +kernel) (by decide +kernel)
set_option maxRecDepth 20000 in
theorem gL_law_X4_state : GoodIn wsL_law (wsV RL 54 RX4 yX4_state wsX4_state) := goodIn_app (goodIn_of _ (by decide +kernel)) ggL_law_X4_state
set_option maxRecDepth 20000 in
theorem ggL_law_X3_forget : GoodIn wsL_law wsX3_forget := goodIn_r _ [401, 31, 19, 20, 21, 18, 342, 343, 344, 2, 345, 182, 183, 184, 15, 185, 40, 38, 186, 187, 188, 189, 170, 171, 172, 173, 454, 455, 456, 457, 458, 459, 460, 461, 462, 463, 464, 465, 488, 489] (by decide +kernel) (by decide +kernel)
set_option maxRecDepth 20000 in
theorem gL_law_X3_forget : GoodIn wsL_law (wsV RL 55 RX3 yX3_forget wsX3_forget) := goodIn_app (goodIn_of _ (by decide +kernel)) ggL_law_X3_forget
set_option maxRecDepth 20000 in
theorem ggL_law_X4_forget : GoodIn wsL_law wsX4_forget := goodIn_r _ [405, 300, 301, 363, 466, 467, 468, 469, 470, 471, 472, 473, 474, 475, 476, 477, 478, 479, 480, 481, 482, 483, 484, 485, 486, 487] (by decide +kernel) (by decide +kernel)
set_option maxRecDepth 20000 in
theorem gL_law_X4_forget : GoodIn wsL_law (wsV RL 58 RX4 yX4_forget wsX4_forget) := goodIn_app (goodIn_of _ (by decide +kernel)) ggL_law_X4_forget
set_option maxRecDepth 20000 in
theorem ggL_law_X3_hash : GoodIn wsL_law wsX3_hash := goodIn_r _ [409, 26, 16, 22, 410, 201, 202, 25, 203, 45, 204, 171, 172, 15, 173, 38, 411, 206, 207, 208, 209, 153, 154, 155, 210, 211, 212, 213, 214, 215, 216, 217, 40, 218, 157, 158, 159, 412, 220, 221, 222, 223, 47, 224, 225, 226, 227, 228, 229, 230, 231, 232, 233, 234, 235, 236, 237, 238, 239, 240, 241, 242, 243, 244, 46, 245, 246, 247, 248, 249, 250, 251, 252, 253, 254, 255, 256, 257, 258, 259, 260, 261, 262, 263, 264, 377, 454, 455, 456, 457, 458, 459, 460, 461, 462, 463, 464, 465, 490, 491, 492, 488, 489] (by decide +kernel) (by decide +kernel)
set_option maxRecDepth 20000 in
theorem gL_law_X3_hash : GoodIn wsL_law (wsV RL 59 RX3 yX3_hash wsX3_hash) := goodIn_app (goodIn_of _ (by decide +kernel)) ggL_law_X3_hash
set_option maxRecDepth 20000 in
theorem ggL_law_X4_hash : GoodIn wsL_law wsX4_hash := goodIn_r _ [416, 164, 141, 139, 314, 315, 316, 5, 317, 138, 318, 323, 324, 325, 326, 136, 135, 327, 328, 329, 330, 137, 126, 331, 332, 333, 466, 467, 468, 469, 470, 471, 472, 473, 474, 475, 476, 477, 478, 479, 480, 481, 482, 483, 484, 485, 486, 487] (by decide +kernel) (by decide +kernel)
set_option maxRecDepth 20000 in
theorem gL_law_X4_hash : GoodIn wsL_law (wsV RL 62 RX4 yX4_hash wsX4_hash) := goodIn_app (goodIn_of _ (by decide +kernel)) ggL_law_X4_hash
