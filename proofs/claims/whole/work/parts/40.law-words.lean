set_option maxRecDepth 20000 in
theorem wl_1 : ∀ w ∈ wsL_law_r1, w ∈ lw_tbl := fun w h => (goodIn_r (big := lw_tbl) wsL_law_r1 [25, 26, 16, 322, 323, 20, 562, 27, 28, 29, 30, 31, 32, 33, 34, 17, 85, 86, 87, 88, 89, 90, 91, 47] (by decide +kernel) (by decide +kernel) w h).1
set_option maxRecDepth 20000 in
theorem wl_2 : ∀ w ∈ wsL_law_r2, w ∈ lw_tbl := fun w h => (goodIn_r (big := lw_tbl) wsL_law_r2 [48, 18, 92, 65, 66, 19, 93, 94, 95, 96, 35, 36, 37, 38, 40, 46, 39, 50, 51, 52, 53, 55, 56, 57] (by decide +kernel) (by decide +kernel) w h).1
set_option maxRecDepth 20000 in
theorem wl_3 : ∀ w ∈ wsL_law_r3, w ∈ lw_tbl := fun w h => (goodIn_r (big := lw_tbl) wsL_law_r3 [54, 68, 69, 70, 71, 75, 73, 76, 77, 74, 324, 325, 326, 327, 328, 329, 330, 331, 332, 333, 334, 335, 336, 337] (by decide +kernel) (by decide +kernel) w h).1
set_option maxRecDepth 20000 in
theorem wl_4 : ∀ w ∈ wsL_law_r4, w ∈ lw_tbl := fun w h => (goodIn_r (big := lw_tbl) wsL_law_r4 [338, 339, 340, 341, 342, 343, 344, 345, 346, 347, 348, 349, 350, 351, 352, 353, 354, 355, 356, 357, 358, 359, 360, 361] (by decide +kernel) (by decide +kernel) w h).1
set_option maxRecDepth 20000 in
theorem wl_5 : ∀ w ∈ wsL_law_r5, w ∈ lw_tbl := fun w h => (goodIn_r (big := lw_tbl) wsL_law_r5 [362, 363, 364, 365, 366, 367, 368, 369, 370, 371, 372, 373, 374, 375, 376, 377, 378, 379, 380, 381, 382, 383, 384, 385] (by decide +kernel) (by decide +kernel) w h).1
set_option maxRecDepth 20000 in
theorem wl_6 : ∀ w ∈ wsL_law_r6, w ∈ lw_tbl := fun w h => (goodIn_r (big := lw_tbl) wsL_law_r6 [386, 387, 388, 389, 390, 391, 400, 392, 393, 394, 395, 396, 397, 398, 399, 401, 402, 403, 404, 406, 407, 408, 410, 413] (by decide +kernel) (by decide +kernel) w h).1
set_option maxRecDepth 20000 in
theorem wl_7 : ∀ w ∈ wsL_law_r7, w ∈ lw_tbl := fun w h => (goodIn_r (big := lw_tbl) wsL_law_r7 [414, 415, 417, 419, 122, 123, 124, 125, 126, 127, 128, 129, 130, 131, 132, 133, 466, 467, 468, 469, 409, 470, 134, 135] (by decide +kernel) (by decide +kernel) w h).1
set_option maxRecDepth 20000 in
theorem wl_8 : ∀ w ∈ wsL_law_r8, w ∈ lw_tbl := fun w h => (goodIn_r (big := lw_tbl) wsL_law_r8 [136, 137, 138, 139, 140, 141, 471, 472, 473, 474, 142, 143, 144, 145, 146, 147, 148, 149, 150, 151, 21, 152, 153, 155] (by decide +kernel) (by decide +kernel) w h).1
set_option maxRecDepth 20000 in
theorem wl_9 : ∀ w ∈ wsL_law_r9, w ∈ lw_tbl := fun w h => (goodIn_r (big := lw_tbl) wsL_law_r9 [0, 156, 157, 158, 159, 160, 161, 162, 163, 164, 165, 166, 167, 168, 169, 170, 171, 172, 173, 174, 175, 176, 177, 178] (by decide +kernel) (by decide +kernel) w h).1
set_option maxRecDepth 20000 in
theorem wl_10 : ∀ w ∈ wsL_law_r10, w ∈ lw_tbl := fun w h => (goodIn_r (big := lw_tbl) wsL_law_r10 [22, 179, 180, 181, 182, 183, 184, 197, 199, 201, 200, 23, 185, 187, 1, 188, 189, 190, 191, 22, 192, 193, 194, 195] (by decide +kernel) (by decide +kernel) w h).1
set_option maxRecDepth 20000 in
theorem wl_11 : ∀ w ∈ wsL_law_r11, w ∈ lw_tbl := fun w h => (goodIn_r (big := lw_tbl) wsL_law_r11 [196, 202, 204, 2, 205, 206, 207, 208, 209, 210, 211, 212, 213, 214, 215, 24, 216, 217, 219, 3, 220, 224, 221, 222] (by decide +kernel) (by decide +kernel) w h).1
set_option maxRecDepth 20000 in
theorem wl_12 : ∀ w ∈ wsL_law_r12, w ∈ lw_tbl := fun w h => (goodIn_r (big := lw_tbl) wsL_law_r12 [223, 226, 227, 228, 229, 230, 231, 232, 233, 234, 235, 236, 237, 238, 239, 240, 241, 242, 243, 244, 245, 246, 247, 248] (by decide +kernel) (by decide +kernel) w h).1
set_option maxRecDepth 20000 in
theorem wl_13 : ∀ w ∈ wsL_law_r13, w ∈ lw_tbl := fun w h => (goodIn_r (big := lw_tbl) wsL_law_r13 [249, 250, 251, 252, 254, 4, 255, 256, 475, 476, 477, 478, 412, 416, 479, 481, 7, 482, 483, 485, 8, 486, 487, 489] (by decide +kernel) (by decide +kernel) w h).1
set_option maxRecDepth 20000 in
theorem wl_14 : ∀ w ∈ wsL_law_r14, w ∈ lw_tbl := fun w h => (goodIn_r (big := lw_tbl) wsL_law_r14 [9, 490, 491, 493, 10, 494, 405, 495, 497, 11, 498, 499, 501, 12, 502, 503, 505, 13, 506, 507, 508, 509, 510, 512] (by decide +kernel) (by decide +kernel) w h).1
set_option maxRecDepth 20000 in
theorem wl_15 : ∀ w ∈ wsL_law_r15, w ∈ lw_tbl := fun w h => (goodIn_r (big := lw_tbl) wsL_law_r15 [14, 513, 257, 258, 259, 260, 261, 263, 5, 264, 514, 515, 516, 517, 265, 266, 267, 268, 269, 271, 6, 272, 273, 518] (by decide +kernel) (by decide +kernel) w h).1
set_option maxRecDepth 20000 in
theorem wl_16 : ∀ w ∈ wsL_law_r16, w ∈ lw_tbl := fun w h => (goodIn_r (big := lw_tbl) wsL_law_r16 [519, 520, 521, 420, 418, 274, 275, 276, 277, 522, 523, 524, 525, 278, 279, 280, 281, 282, 534, 535, 536, 537, 283, 284] (by decide +kernel) (by decide +kernel) w h).1
set_option maxRecDepth 20000 in
theorem wl_17 : ∀ w ∈ wsL_law_r17, w ∈ lw_tbl := fun w h => (goodIn_r (big := lw_tbl) wsL_law_r17 [285, 286, 538, 539, 540, 541, 287, 288, 289, 290, 542, 543, 544, 545, 291, 292, 293, 294, 526, 527, 528, 529, 295, 296] (by decide +kernel) (by decide +kernel) w h).1
set_option maxRecDepth 20000 in
theorem wl_18 : ∀ w ∈ wsL_law_r18, w ∈ lw_tbl := fun w h => (goodIn_r (big := lw_tbl) wsL_law_r18 [297, 298, 299, 300, 301, 546, 547, 548, 549, 302, 303, 304, 305, 530, 531, 532, 533, 411, 306, 307, 308, 309, 550, 551] (by decide +kernel) (by decide +kernel) w h).1
set_option maxRecDepth 20000 in
theorem wl_19 : ∀ w ∈ wsL_law_r19, w ∈ lw_tbl := fun w h => (goodIn_r (big := lw_tbl) wsL_law_r19 [552, 553, 310, 311, 312, 313, 554, 555, 556, 557, 314, 315, 316, 317, 318, 319, 320, 321, 558, 559, 560, 561] (by decide +kernel) (by decide +kernel) w h).1
set_option maxRecDepth 20000 in
theorem inX3 : ∀ w ∈ wsX30, w ∈ lw_tbl := fun w h => (goodIn_r (big := lw_tbl) wsX30 [97, 99, 101, 103, 105, 107, 109, 111, 113, 115, 117, 119] (by decide +kernel) (by decide +kernel) w h).1
set_option maxRecDepth 20000 in
theorem inX4 : ∀ w ∈ wsX40, w ∈ lw_tbl := fun w h => (goodIn_r (big := lw_tbl) wsX40 [421, 423, 425, 427, 429, 431, 433, 435, 437, 439, 441, 443, 445, 447, 449, 451, 453, 455, 457, 459, 461, 463] (by decide +kernel) (by decide +kernel) w h).1
set_option maxRecDepth 20000 in
theorem inX2 : ∀ w ∈ wsX20, w ∈ lw_tbl := fun w h => (goodIn_r (big := lw_tbl) wsX20 [41, 43] (by decide +kernel) (by decide +kernel) w h).1
set_option maxRecDepth 20000 in
theorem inX0 : ∀ w ∈ wsX00, w ∈ lw_tbl := fun w h => (goodIn_r (big := lw_tbl) wsX00 [58, 60, 62] (by decide +kernel) (by decide +kernel) w h).1
set_option maxRecDepth 20000 in
theorem inX1 : ∀ w ∈ wsX10, w ∈ lw_tbl := fun w h => (goodIn_r (big := lw_tbl) wsX10 [78, 80, 82] (by decide +kernel) (by decide +kernel) w h).1
theorem wl_app {a b : List Cond} (ha : ∀ w ∈ a, w ∈ lw_tbl) (hb : ∀ w ∈ b, w ∈ lw_tbl) : ∀ w ∈ a ++ b, w ∈ lw_tbl := fun w h => (List.mem_append.mp h).elim (ha w) (hb w)
theorem wsL_law_in : ∀ w ∈ wsL_law, w ∈ lw_tbl := wl_app (wl_app (wl_app (wl_app (wl_app (wl_app (wl_app wl_1 (wl_app wl_2 (wl_app wl_3 (wl_app wl_4 (wl_app wl_5 (wl_app wl_6 (wl_app wl_7 (wl_app wl_8 (wl_app wl_9 (wl_app wl_10 (wl_app wl_11 (wl_app wl_12 (wl_app wl_13 (wl_app wl_14 (wl_app wl_15 (wl_app wl_16 (wl_app wl_17 (wl_app wl_18 wl_19)))))))))))))))))) inX3) inX4) inX2) inX0) inX1) (fun _ h => absurd h List.not_mem_nil)
