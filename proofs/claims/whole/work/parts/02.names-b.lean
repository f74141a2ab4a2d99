set_option maxRecDepth 20000 in
theorem ggX3_init_X2_init : GoodIn wsX3_init wsX2_init := goodIn_r _ [27, 28, 2, 3, 29, 30, 31, 49, 50] (by decide +kernel) (by decide +kernel)
set_option maxRecDepth 20000 in
theorem gX3_init_X2_init : GoodIn wsX3_init (wsX2_init) := ggX3_init_X2_init
set_option maxRecDepth 20000 in
theorem ggX3_init_X0_init : GoodIn wsX3_init wsX0_init := goodIn_r _ [33, 34, 2, 3, 35, 5, 6, 36, 30, 37, 38, 39, 26, 27, 28, 29, 31, 49, 50, 63, 64, 65] (by decide +kernel) (by decide +kernel)
set_option maxRecDepth 20000 in
theorem gX3_init_X0_init_n38 : GoodIn wsX3_init (wsX0_init) := ggX3_init_X0_init
set_option maxRecDepth 20000 in
theorem ggX3_init_X1_init : GoodIn wsX3_init wsX1_init := goodIn_r _ [41, 42, 2, 3, 43, 15, 16, 44, 45, 5, 6, 46, 47, 32, 33, 34, 35, 36, 30, 37, 38, 39, 26, 27, 28, 29, 31, 48, 63, 64, 65, 66, 67, 68, 49, 50] (by decide +kernel) (by decide +kernel)
set_option maxRecDepth 20000 in
theorem gX3_init_X1_init_n45 : GoodIn wsX3_init (wsX1_init) := ggX3_init_X1_init
theorem dX3_init_0 : decode cX3_init 0 = .ok (.aload_n 0, 1) := by decide +kernel
theorem dX3_init_1 : decode cX3_init 1 = .ok (.invokespecial 3, 3) := by decide +kernel
theorem dX3_init_4 : decode cX3_init 4 = .ok (.aload_n 0, 1) := by decide +kernel
theorem dX3_init_5 : decode cX3_init 5 = .ok (.new 9, 3) := by decide +kernel
theorem dX3_init_8 : decode cX3_init 8 = .ok (.dup, 1) := by decide +kernel
theorem dX3_init_9 : decode cX3_init 9 = .ok (.sipush 300, 3) := by decide +kernel
theorem dX3_init_12 : decode cX3_init 12 = .ok (.invokespecial 11, 3) := by decide +kernel
theorem dX3_init_15 : decode cX3_init 15 = .ok (.putfield 14, 3) := by decide +kernel
theorem dX3_init_18 : decode cX3_init 18 = .ok (.aload_n 0, 1) := by decide +kernel
theorem dX3_init_19 : decode cX3_init 19 = .ok (.new 9, 3) := by decide +kernel
theorem dX3_init_22 : decode cX3_init 22 = .ok (.dup, 1) := by decide +kernel
theorem dX3_init_23 : decode cX3_init 23 = .ok (.sipush 300, 3) := by decide +kernel
theorem dX3_init_26 : decode cX3_init 26 = .ok (.invokespecial 11, 3) := by decide +kernel
theorem dX3_init_29 : decode cX3_init 29 = .ok (.putfield 18, 3) := by decide +kernel
theorem dX3_init_32 : decode cX3_init 32 = .ok (.aload_n 0, 1) := by decide +kernel
theorem dX3_init_33 : decode cX3_init 33 = .ok (.new 9, 3) := by decide +kernel
theorem dX3_init_36 : decode cX3_init 36 = .ok (.dup, 1) := by decide +kernel
theorem dX3_init_37 : decode cX3_init 37 = .ok (.sipush 400, 3) := by decide +kernel
theorem dX3_init_40 : decode cX3_init 40 = .ok (.invokespecial 11, 3) := by decide +kernel
theorem dX3_init_43 : decode cX3_init 43 = .ok (.putfield 21, 3) := by decide +kernel
theorem dX3_init_46 : decode cX3_init 46 = .ok (.aload_n 0, 1) := by decide +kernel
theorem dX3_init_47 : decode cX3_init 47 = .ok (.new 9, 3) := by decide +kernel
theorem dX3_init_50 : decode cX3_init 50 = .ok (.dup, 1) := by decide +kernel
theorem dX3_init_51 : decode cX3_init 51 = .ok (.bipush 32, 2) := by decide +kernel
theorem dX3_init_53 : decode cX3_init 53 = .ok (.invokespecial 11, 3) := by decide +kernel
theorem dX3_init_56 : decode cX3_init 56 = .ok (.putfield 24, 3) := by decide +kernel
theorem dX3_init_59 : decode cX3_init 59 = .ok (.aload_n 0, 1) := by decide +kernel
theorem dX3_init_60 : decode cX3_init 60 = .ok (.new 9, 3) := by decide +kernel
theorem dX3_init_63 : decode cX3_init 63 = .ok (.dup, 1) := by decide +kernel
theorem dX3_init_64 : decode cX3_init 64 = .ok (.bipush 32, 2) := by decide +kernel
theorem dX3_init_66 : decode cX3_init 66 = .ok (.invokespecial 11, 3) := by decide +kernel
theorem dX3_init_69 : decode cX3_init 69 = .ok (.putfield 27, 3) := by decide +kernel
theorem dX3_init_72 : decode cX3_init 72 = .ok (.aload_n 0, 1) := by decide +kernel
theorem dX3_init_73 : decode cX3_init 73 = .ok (.new 9, 3) := by decide +kernel
theorem dX3_init_76 : decode cX3_init 76 = .ok (.dup, 1) := by decide +kernel
theorem dX3_init_77 : decode cX3_init 77 = .ok (.bipush 32, 2) := by decide +kernel
theorem dX3_init_79 : decode cX3_init 79 = .ok (.invokespecial 11, 3) := by decide +kernel
theorem dX3_init_82 : decode cX3_init 82 = .ok (.putfield 30, 3) := by decide +kernel
theorem dX3_init_85 : decode cX3_init 85 = .ok (.aload_n 0, 1) := by decide +kernel
theorem dX3_init_86 : decode cX3_init 86 = .ok (.new 9, 3) := by decide +kernel
theorem dX3_init_89 : decode cX3_init 89 = .ok (.dup, 1) := by decide +kernel
theorem dX3_init_90 : decode cX3_init 90 = .ok (.bipush 32, 2) := by decide +kernel
theorem dX3_init_92 : decode cX3_init 92 = .ok (.invokespecial 11, 3) := by decide +kernel
theorem dX3_init_95 : decode cX3_init 95 = .ok (.putfield 33, 3) := by decide +kernel
theorem dX3_init_98 : decode cX3_init 98 = .ok (.aload_n 0, 1) := by decide +kernel
theorem dX3_init_99 : decode cX3_init 99 = .ok (.new 36, 3) := by decide +kernel
theorem dX3_init_102 : decode cX3_init 102 = .ok (.dup, 1) := by decide +kernel
theorem dX3_init_103 : decode cX3_init 103 = .ok (.invokespecial 38, 3) := by decide +kernel
theorem dX3_init_106 : decode cX3_init 106 = .ok (.putfield 39, 3) := by decide +kernel
theorem dX3_init_109 : decode cX3_init 109 = .ok (.aload_n 0, 1) := by decide +kernel
theorem dX3_init_110 : decode cX3_init 110 = .ok (.new 43, 3) := by decide +kernel
theorem dX3_init_113 : decode cX3_init 113 = .ok (.dup, 1) := by decide +kernel
theorem dX3_init_114 : decode cX3_init 114 = .ok (.invokespecial 45, 3) := by decide +kernel
theorem dX3_init_117 : decode cX3_init 117 = .ok (.putfield 46, 3) := by decide +kernel
theorem dX3_init_120 : decode cX3_init 120 = .ok (.aload_n 0, 1) := by decide +kernel
theorem dX3_init_121 : decode cX3_init 121 = .ok (.iconst 0, 1) := by decide +kernel
theorem dX3_init_122 : decode cX3_init 122 = .ok (.putfield 50, 3) := by decide +kernel
theorem dX3_init_125 : decode cX3_init 125 = .ok (.aload_n 0, 1) := by decide +kernel
theorem dX3_init_126 : decode cX3_init 126 = .ok (.bipush 100, 2) := by decide +kernel
theorem dX3_init_128 : decode cX3_init 128 = .ok (.putfield 54, 3) := by decide +kernel
theorem dX3_init_131 : decode cX3_init 131 = .ok (.aload_n 0, 1) := by decide +kernel
theorem dX3_init_132 : decode cX3_init 132 = .ok (.iconst 0, 1) := by decide +kernel
theorem dX3_init_133 : decode cX3_init 133 = .ok (.putfield 57, 3) := by decide +kernel
theorem dX3_init_136 : decode cX3_init 136 = .ok (.return_, 1) := by decide +kernel
set_option maxRecDepth 20000 in
theorem ggX3_feed_X2_size : GoodIn wsX3_feed wsX2_size := goodIn_r _ [6, 7, 25, 26] (by decide +kernel) (by decide +kernel)
set_option maxRecDepth 20000 in
theorem gX3_feed_X2_size : GoodIn wsX3_feed (wsV RX3 60 RX2 yX2_size wsX2_size) := goodIn_app (goodIn_of _ (by decide +kernel)) ggX3_feed_X2_size
set_option maxRecDepth 20000 in
theorem ggX3_feed_X2_put : GoodIn wsX3_feed wsX2_put := goodIn_r _ [11, 7, 12, 25, 26] (by decide +kernel) (by decide +kernel)
set_option maxRecDepth 20000 in
theorem gX3_feed_X2_put : GoodIn wsX3_feed (wsV RX3 64 RX2 yX2_put wsX2_put) := goodIn_app (goodIn_of _ (by decide +kernel)) ggX3_feed_X2_put
theorem dX3_feed_0 : decode cX3_feed 0 = .ok (.iload_n 3, 1) := by decide +kernel
theorem dX3_feed_1 : decode cX3_feed 1 = .ok (.iconst 1, 1) := by decide +kernel
theorem dX3_feed_2 : decode cX3_feed 2 = .ok (.if_icmp .lt 24, 3) := by decide +kernel
theorem dX3_feed_5 : decode cX3_feed 5 = .ok (.iload_n 3, 1) := by decide +kernel
theorem dX3_feed_6 : decode cX3_feed 6 = .ok (.bipush 8, 2) := by decide +kernel
theorem dX3_feed_8 : decode cX3_feed 8 = .ok (.if_icmp .gt 18, 3) := by decide +kernel
theorem dX3_feed_11 : decode cX3_feed 11 = .ok (.aload_n 0, 1) := by decide +kernel
theorem dX3_feed_12 : decode cX3_feed 12 = .ok (.getfield 14, 3) := by decide +kernel
theorem dX3_feed_15 : decode cX3_feed 15 = .ok (.invokevirtual 60, 3) := by decide +kernel
theorem dX3_feed_18 : decode cX3_feed 18 = .ok (.iload_n 3, 1) := by decide +kernel
theorem dX3_feed_19 : decode cX3_feed 19 = .ok (.iadd, 1) := by decide +kernel
theorem dX3_feed_20 : decode cX3_feed 20 = .ok (.sipush 300, 3) := by decide +kernel
theorem dX3_feed_23 : decode cX3_feed 23 = .ok (.if_icmp .le 5, 3) := by decide +kernel
theorem dX3_feed_26 : decode cX3_feed 26 = .ok (.iconst (-1), 1) := by decide +kernel
theorem dX3_feed_27 : decode cX3_feed 27 = .ok (.ireturn, 1) := by decide +kernel
theorem dX3_feed_28 : decode cX3_feed 28 = .ok (.iload_n 3, 1) := by decide +kernel
theorem dX3_feed_29 : decode cX3_feed 29 = .ok (.iconst 1, 1) := by decide +kernel
theorem dX3_feed_30 : decode cX3_feed 30 = .ok (.isub, 1) := by decide +kernel
theorem dX3_feed_31 : decode cX3_feed 31 = .ok (.istore 4, 2) := by decide +kernel
theorem dX3_feed_33 : decode cX3_feed 33 = .ok (.iload 4, 2) := by decide +kernel
theorem dX3_feed_35 : decode cX3_feed 35 = .ok (.ifCond .lt 28, 3) := by decide +kernel
theorem dX3_feed_38 : decode cX3_feed 38 = .ok (.aload_n 0, 1) := by decide +kernel
theorem dX3_feed_39 : decode cX3_feed 39 = .ok (.getfield 14, 3) := by decide +kernel
theorem dX3_feed_42 : decode cX3_feed 42 = .ok (.lload_n 1, 1) := by decide +kernel
theorem dX3_feed_43 : decode cX3_feed 43 = .ok (.bipush 8, 2) := by decide +kernel
theorem dX3_feed_45 : decode cX3_feed 45 = .ok (.iload 4, 2) := by decide +kernel
theorem dX3_feed_47 : decode cX3_feed 47 = .ok (.imul, 1) := by decide +kernel
theorem dX3_feed_48 : decode cX3_feed 48 = .ok (.lushr, 1) := by decide +kernel
theorem dX3_feed_49 : decode cX3_feed 49 = .ok (.l2i, 1) := by decide +kernel
theorem dX3_feed_50 : decode cX3_feed 50 = .ok (.sipush 255, 3) := by decide +kernel
theorem dX3_feed_53 : decode cX3_feed 53 = .ok (.iand, 1) := by decide +kernel
theorem dX3_feed_54 : decode cX3_feed 54 = .ok (.invokevirtual 64, 3) := by decide +kernel
theorem dX3_feed_57 : decode cX3_feed 57 = .ok (.iinc 4 (-1), 3) := by decide +kernel
theorem dX3_feed_60 : decode cX3_feed 60 = .ok (.goto (-27), 3) := by decide +kernel
theorem dX3_feed_63 : decode cX3_feed 63 = .ok (.aload_n 0, 1) := by decide +kernel
theorem dX3_feed_64 : decode cX3_feed 64 = .ok (.getfield 14, 3) := by decide +kernel
theorem dX3_feed_67 : decode cX3_feed 67 = .ok (.invokevirtual 60, 3) := by decide +kernel
theorem dX3_feed_70 : decode cX3_feed 70 = .ok (.ireturn, 1) := by decide +kernel
set_option maxRecDepth 20000 in
theorem ggX3_clear_X2_size : GoodIn wsX3_clear wsX2_size := goodIn_r _ [6, 7, 24, 25] (by decide +kernel) (by decide +kernel)
set_option maxRecDepth 20000 in
theorem gX3_clear_X2_size : GoodIn wsX3_clear (wsV RX3 60 RX2 yX2_size wsX2_size) := goodIn_app (goodIn_of _ (by decide +kernel)) ggX3_clear_X2_size
set_option maxRecDepth 20000 in
theorem ggX3_clear_X2_empty : GoodIn wsX3_clear wsX2_empty := goodIn_r _ [11, 7, 24, 25] (by decide +kernel) (by decide +kernel)
set_option maxRecDepth 20000 in
theorem gX3_clear_X2_empty : GoodIn wsX3_clear (wsV RX3 67 RX2 yX2_empty wsX2_empty) := goodIn_app (goodIn_of _ (by decide +kernel)) ggX3_clear_X2_empty
theorem dX3_clear_0 : decode cX3_clear 0 = .ok (.aload_n 0, 1) := by decide +kernel
theorem dX3_clear_1 : decode cX3_clear 1 = .ok (.getfield 14, 3) := by decide +kernel
theorem dX3_clear_4 : decode cX3_clear 4 = .ok (.invokevirtual 60, 3) := by decide +kernel
theorem dX3_clear_7 : decode cX3_clear 7 = .ok (.istore_n 1, 1) := by decide +kernel
theorem dX3_clear_8 : decode cX3_clear 8 = .ok (.aload_n 0, 1) := by decide +kernel
theorem dX3_clear_9 : decode cX3_clear 9 = .ok (.getfield 14, 3) := by decide +kernel
theorem dX3_clear_12 : decode cX3_clear 12 = .ok (.invokevirtual 67, 3) := by decide +kernel
theorem dX3_clear_15 : decode cX3_clear 15 = .ok (.iload_n 1, 1) := by decide +kernel
theorem dX3_clear_16 : decode cX3_clear 16 = .ok (.ireturn, 1) := by decide +kernel
set_option maxRecDepth 20000 in
theorem ggX3_seed_X2_size : GoodIn wsX3_seed wsX2_size := goodIn_r _ [9, 10, 156, 157] (by decide +kernel) (by decide +kernel)
set_option maxRecDepth 20000 in
theorem gX3_seed_X2_size : GoodIn wsX3_seed (wsV RX3 60 RX2 yX2_size wsX2_size) := goodIn_app (goodIn_of _ (by decide +kernel)) ggX3_seed_X2_size
set_option maxRecDepth 20000 in
theorem ggX3_seed_X2_fill : GoodIn wsX3_seed wsX2_fill := goodIn_r _ [14, 15, 10, 16, 17, 18, 19, 156, 157] (by decide +kernel) (by decide +kernel)
set_option maxRecDepth 20000 in
theorem gX3_seed_X2_fill : GoodIn wsX3_seed (wsV RX3 70 RX2 yX2_fill wsX2_fill) := goodIn_app (goodIn_of _ (by decide +kernel)) ggX3_seed_X2_fill
set_option maxRecDepth 20000 in
theorem ggX3_seed_X3_stir : GoodIn wsX3_seed wsX3_stir := goodIn_r _ [24, 1, 25, 2, 3, 5, 6, 7, 8, 9, 10, 26, 27, 28, 29, 30, 31, 32, 33, 34, 35, 36, 37, 38, 39, 40, 41, 42, 43, 44, 45, 46, 47, 48, 49, 50, 51, 52, 53, 54, 55, 56, 57, 15, 58, 59, 60, 61, 62, 63, 64, 65, 66, 67, 68, 69, 70, 71, 72, 73, 74, 75, 76, 77, 78, 79, 80, 81, 82, 83, 84, 85, 86, 87, 88, 89, 90, 91, 92, 93, 94, 95, 96, 97, 98, 99, 100, 101, 102, 103, 104, 105, 106, 107, 108, 109, 110, 111, 112, 113, 114, 115, 116, 117, 118, 119, 120, 121, 122, 123, 124, 125, 126, 127, 128, 129, 130, 131, 132, 133, 134, 135, 136, 137, 138, 139, 23, 140, 141, 142, 143, 144, 145, 146, 147, 148, 149, 150, 151, 152, 153, 154, 155, 156, 157, 158, 159, 160, 161, 162, 163] (by decide +kernel) (by decide +kernel)
set_option maxRecDepth 20000 in
theorem gX3_seed_X3_stir : GoodIn wsX3_seed (wsV RX3 73 RX3 yX3_stir wsX3_stir) := goodIn_app (goodIn_of _ (by decide +kernel)) ggX3_seed_X3_stir
set_option maxRecDepth 20000 in
theorem ggX3_seed_X2_empty : GoodIn wsX3_seed wsX2_empty := goodIn_r _ [36, 10, 156, 157] (by decide +kernel) (by decide +kernel)
set_option maxRecDepth 20000 in
theorem gX3_seed_X2_empty : GoodIn wsX3_seed (wsV RX3 67 RX2 yX2_empty wsX2_empty) := goodIn_app (goodIn_of _ (by decide +kernel)) ggX3_seed_X2_empty
theorem dX3_seed_0 : decode cX3_seed 0 = .ok (.aload_n 0, 1) := by decide +kernel
theorem dX3_seed_1 : decode cX3_seed 1 = .ok (.getfield 14, 3) := by decide +kernel
theorem dX3_seed_4 : decode cX3_seed 4 = .ok (.invokevirtual 60, 3) := by decide +kernel
theorem dX3_seed_7 : decode cX3_seed 7 = .ok (.ifCond .ne 5, 3) := by decide +kernel
theorem dX3_seed_10 : decode cX3_seed 10 = .ok (.iconst 0, 1) := by decide +kernel
theorem dX3_seed_11 : decode cX3_seed 11 = .ok (.ireturn, 1) := by decide +kernel
theorem dX3_seed_12 : decode cX3_seed 12 = .ok (.aload_n 0, 1) := by decide +kernel
theorem dX3_seed_13 : decode cX3_seed 13 = .ok (.getfield 24, 3) := by decide +kernel
theorem dX3_seed_16 : decode cX3_seed 16 = .ok (.iconst 0, 1) := by decide +kernel
theorem dX3_seed_17 : decode cX3_seed 17 = .ok (.invokevirtual 70, 3) := by decide +kernel
theorem dX3_seed_20 : decode cX3_seed 20 = .ok (.aload_n 0, 1) := by decide +kernel
theorem dX3_seed_21 : decode cX3_seed 21 = .ok (.getfield 27, 3) := by decide +kernel
theorem dX3_seed_24 : decode cX3_seed 24 = .ok (.iconst 1, 1) := by decide +kernel
theorem dX3_seed_25 : decode cX3_seed 25 = .ok (.invokevirtual 70, 3) := by decide +kernel
theorem dX3_seed_28 : decode cX3_seed 28 = .ok (.aload_n 0, 1) := by decide +kernel
theorem dX3_seed_29 : decode cX3_seed 29 = .ok (.invokevirtual 73, 3) := by decide +kernel
theorem dX3_seed_32 : decode cX3_seed 32 = .ok (.aload_n 0, 1) := by decide +kernel
theorem dX3_seed_33 : decode cX3_seed 33 = .ok (.getfield 14, 3) := by decide +kernel
theorem dX3_seed_36 : decode cX3_seed 36 = .ok (.invokevirtual 67, 3) := by decide +kernel
theorem dX3_seed_39 : decode cX3_seed 39 = .ok (.aload_n 0, 1) := by decide +kernel
theorem dX3_seed_40 : decode cX3_seed 40 = .ok (.iconst 1, 1) := by decide +kernel
theorem dX3_seed_41 : decode cX3_seed 41 = .ok (.putfield 50, 3) := by decide +kernel
theorem dX3_seed_44 : decode cX3_seed 44 = .ok (.iconst 1, 1) := by decide +kernel
theorem dX3_seed_45 : decode cX3_seed 45 = .ok (.ireturn, 1) := by decide +kernel
set_option maxRecDepth 20000 in
theorem ggX3_reseed_X2_size : GoodIn wsX3_reseed wsX2_size := goodIn_r _ [7, 8, 152, 153] (by decide +kernel) (by decide +kernel)
set_option maxRecDepth 20000 in
theorem gX3_reseed_X2_size : GoodIn wsX3_reseed (wsV RX3 60 RX2 yX2_size wsX2_size) := goodIn_app (goodIn_of _ (by decide +kernel)) ggX3_reseed_X2_size
set_option maxRecDepth 20000 in
theorem ggX3_reseed_X3_isSeeded : GoodIn wsX3_reseed wsX3_isSeeded := goodIn_r _ [13, 2, 140, 141, 142, 143, 144, 145, 146, 147, 148, 149, 150, 151] (by decide +kernel) (by decide +kernel)
set_option maxRecDepth 20000 in
theorem gX3_reseed_X3_isSeeded : GoodIn wsX3_reseed (wsV RX3 76 RX3 yX3_isSeeded wsX3_isSeeded) := goodIn_app (goodIn_of _ (by decide +kernel)) ggX3_reseed_X3_isSeeded
set_option maxRecDepth 20000 in
theorem ggX3_reseed_X3_stir : GoodIn wsX3_reseed wsX3_stir := goodIn_r _ [17, 1, 18, 19, 20, 3, 4, 5, 6, 7, 8, 21, 22, 23, 24, 25, 26, 27, 28, 29, 30, 31, 32, 33, 34, 35, 36, 37, 38, 39, 40, 41, 42, 43, 44, 45, 46, 47, 48, 49, 50, 51, 52, 53, 54, 55, 56, 57, 58, 59, 60, 61, 62, 63, 64, 65, 66, 67, 68, 69, 70, 71, 72, 73, 74, 75, 76, 77, 78, 79, 80, 81, 82, 83, 84, 85, 86, 87, 88, 89, 90, 91, 92, 93, 94, 95, 96, 97, 98, 99, 100, 101, 102, 103, 104, 105, 106, 107, 108, 109, 110, 111, 112, 113, 114, 115, 116, 117, 118, 119, 120, 121, 122, 123, 124, 125, 126, 127, 128, 129, 130, 131, 132, 133, 134, 135, 12, 136, 137, 138, 139, 140, 141, 142, 143, 144, 145, 146, 147, 148, 149, 150, 151, 152, 153, 154, 155, 156, 157, 158, 159] (by decide +kernel) (by decide +kernel)
set_option maxRecDepth 20000 in
theorem gX3_reseed_X3_stir : GoodIn wsX3_reseed (wsV RX3 73 RX3 yX3_stir wsX3_stir) := goodIn_app (goodIn_of _ (by decide +kernel)) ggX3_reseed_X3_stir
set_option maxRecDepth 20000 in
theorem ggX3_reseed_X2_empty : GoodIn wsX3_reseed wsX2_empty := goodIn_r _ [31, 8, 152, 153] (by decide +kernel) (by decide +kernel)
set_option maxRecDepth 20000 in
theorem gX3_reseed_X2_empty : GoodIn wsX3_reseed (wsV RX3 67 RX2 yX2_empty wsX2_empty) := goodIn_app (goodIn_of _ (by decide +kernel)) ggX3_reseed_X2_empty
theorem dX3_reseed_0 : decode cX3_reseed 0 = .ok (.aload_n 0, 1) := by decide +kernel
theorem dX3_reseed_1 : decode cX3_reseed 1 = .ok (.getfield 14, 3) := by decide +kernel
theorem dX3_reseed_4 : decode cX3_reseed 4 = .ok (.invokevirtual 60, 3) := by decide +kernel
theorem dX3_reseed_7 : decode cX3_reseed 7 = .ok (.ifCond .eq 10, 3) := by decide +kernel
theorem dX3_reseed_10 : decode cX3_reseed 10 = .ok (.aload_n 0, 1) := by decide +kernel
theorem dX3_reseed_11 : decode cX3_reseed 11 = .ok (.invokevirtual 76, 3) := by decide +kernel
theorem dX3_reseed_14 : decode cX3_reseed 14 = .ok (.ifCond .ne 5, 3) := by decide +kernel
theorem dX3_reseed_17 : decode cX3_reseed 17 = .ok (.iconst 0, 1) := by decide +kernel
theorem dX3_reseed_18 : decode cX3_reseed 18 = .ok (.ireturn, 1) := by decide +kernel
theorem dX3_reseed_19 : decode cX3_reseed 19 = .ok (.aload_n 0, 1) := by decide +kernel
theorem dX3_reseed_20 : decode cX3_reseed 20 = .ok (.invokevirtual 73, 3) := by decide +kernel
theorem dX3_reseed_23 : decode cX3_reseed 23 = .ok (.aload_n 0, 1) := by decide +kernel
theorem dX3_reseed_24 : decode cX3_reseed 24 = .ok (.getfield 14, 3) := by decide +kernel
theorem dX3_reseed_27 : decode cX3_reseed 27 = .ok (.invokevirtual 67, 3) := by decide +kernel
theorem dX3_reseed_30 : decode cX3_reseed 30 = .ok (.aload_n 0, 1) := by decide +kernel
theorem dX3_reseed_31 : decode cX3_reseed 31 = .ok (.iconst 1, 1) := by decide +kernel
theorem dX3_reseed_32 : decode cX3_reseed 32 = .ok (.putfield 50, 3) := by decide +kernel
theorem dX3_reseed_35 : decode cX3_reseed 35 = .ok (.iconst 1, 1) := by decide +kernel
theorem dX3_reseed_36 : decode cX3_reseed 36 = .ok (.ireturn, 1) := by decide +kernel
set_option maxRecDepth 20000 in
theorem ggX3_draw_X3_isSeeded : GoodIn wsX3_draw wsX3_isSeeded := goodIn_r _ [9, 1, 148, 149, 150, 151, 152, 153, 154, 155, 156, 157, 158, 159] (by decide +kernel) (by decide +kernel)
set_option maxRecDepth 20000 in
theorem gX3_draw_X3_isSeeded : GoodIn wsX3_draw (wsV RX3 76 RX3 yX3_isSeeded wsX3_isSeeded) := goodIn_app (goodIn_of _ (by decide +kernel)) ggX3_draw_X3_isSeeded
set_option maxRecDepth 20000 in
theorem ggX3_draw_X2_size : GoodIn wsX3_draw wsX2_size := goodIn_r _ [14, 15, 160, 161] (by decide +kernel) (by decide +kernel)
set_option maxRecDepth 20000 in
theorem gX3_draw_X2_size : GoodIn wsX3_draw (wsV RX3 60 RX2 yX2_size wsX2_size) := goodIn_app (goodIn_of _ (by decide +kernel)) ggX3_draw_X2_size
set_option maxRecDepth 20000 in
theorem ggX3_draw_X3_stir : GoodIn wsX3_draw wsX3_stir := goodIn_r _ [19, 3, 20, 21, 22, 10, 11, 12, 13, 14, 15, 23, 24, 25, 26, 27, 28, 29, 30, 31, 32, 33, 34, 35, 36, 37, 38, 39, 40, 41, 42, 43, 44, 45, 46, 47, 48, 49, 50, 51, 52, 53, 54, 55, 56, 57, 58, 59, 60, 61, 62, 63, 64, 65, 66, 67, 68, 69, 70, 71, 72, 73, 74, 75, 76, 77, 78, 79, 80, 81, 82, 83, 84, 85, 86, 87, 88, 89, 90, 91, 92, 93, 94, 95, 96, 97, 98, 99, 100, 101, 102, 103, 104, 105, 106, 107, 108, 109, 110, 111, 112, 113, 114, 115, 116, 117, 118, 119, 120, 121, 122, 123, 124, 125, 126, 127, 128, 129, 130, 131, 132, 133, 134, 135, 136, 137, 8, 138, 139, 140, 141, 148, 149, 150, 151, 152, 153, 154, 155, 156, 157, 158, 159, 160, 161, 162, 163, 164, 165, 166, 167] (by decide +kernel) (by decide +kernel)
set_option maxRecDepth 20000 in
theorem gX3_draw_X3_stir : GoodIn wsX3_draw (wsV RX3 73 RX3 yX3_stir wsX3_stir) := goodIn_app (goodIn_of _ (by decide +kernel)) ggX3_draw_X3_stir
set_option maxRecDepth 20000 in
theorem ggX3_draw_X3_fillDrawn : GoodIn wsX3_draw wsX3_fillDrawn := goodIn_r _ [145, 146, 22, 147, 52, 53, 54, 140, 31, 32, 13, 33, 15, 135, 136, 137, 8, 138, 139, 20, 21, 141, 48, 49, 50, 51, 55, 56, 57, 58, 59, 23, 24, 25, 26, 27, 28, 29, 30, 34, 11, 12, 14, 35, 36, 37, 38, 39, 40, 41, 42, 43, 44, 45, 46, 47, 60, 61, 62, 63, 64, 65, 66, 67, 68, 69, 70, 71, 72, 73, 74, 75, 76, 77, 78, 79, 80, 81, 82, 83, 84, 85, 86, 87, 88, 89, 90, 91, 92, 93, 94, 95, 96, 97, 98, 99, 100, 101, 102, 103, 104, 105, 106, 107, 108, 109, 110, 111, 112, 113, 114, 115, 116, 117, 118, 119, 120, 121, 130, 131, 132, 133, 134, 148, 149, 150, 151, 152, 153, 154, 155, 156, 157, 158, 159, 160, 161, 162, 163, 164, 165, 166, 167] (by decide +kernel) (by decide +kernel)
set_option maxRecDepth 20000 in
theorem gX3_draw_X3_fillDrawn : GoodIn wsX3_draw (wsV RX3 80 RX3 yX3_fillDrawn wsX3_fillDrawn) := goodIn_app (goodIn_of _ (by decide +kernel)) ggX3_draw_X3_fillDrawn
set_option maxRecDepth 20000 in
theorem ggX3_draw_X2_empty : GoodIn wsX3_draw wsX2_empty := goodIn_r _ [33, 15, 160, 161] (by decide +kernel) (by decide +kernel)
set_option maxRecDepth 20000 in
theorem gX3_draw_X2_empty : GoodIn wsX3_draw (wsV RX3 67 RX2 yX2_empty wsX2_empty) := goodIn_app (goodIn_of _ (by decide +kernel)) ggX3_draw_X2_empty
theorem dX3_draw_0 : decode cX3_draw 0 = .ok (.aload_n 0, 1) := by decide +kernel
theorem dX3_draw_1 : decode cX3_draw 1 = .ok (.invokevirtual 76, 3) := by decide +kernel
theorem dX3_draw_4 : decode cX3_draw 4 = .ok (.ifCond .ne 5, 3) := by decide +kernel
theorem dX3_draw_7 : decode cX3_draw 7 = .ok (.iconst 1, 1) := by decide +kernel
theorem dX3_draw_8 : decode cX3_draw 8 = .ok (.ireturn, 1) := by decide +kernel
theorem dX3_draw_9 : decode cX3_draw 9 = .ok (.iload_n 1, 1) := by decide +kernel
theorem dX3_draw_10 : decode cX3_draw 10 = .ok (.iconst 1, 1) := by decide +kernel
theorem dX3_draw_11 : decode cX3_draw 11 = .ok (.if_icmp .lt 10, 3) := by decide +kernel
theorem dX3_draw_14 : decode cX3_draw 14 = .ok (.iload_n 1, 1) := by decide +kernel
theorem dX3_draw_15 : decode cX3_draw 15 = .ok (.sipush 400, 3) := by decide +kernel
theorem dX3_draw_18 : decode cX3_draw 18 = .ok (.if_icmp .le 5, 3) := by decide +kernel
theorem dX3_draw_21 : decode cX3_draw 21 = .ok (.iconst 2, 1) := by decide +kernel
theorem dX3_draw_22 : decode cX3_draw 22 = .ok (.ireturn, 1) := by decide +kernel
theorem dX3_draw_23 : decode cX3_draw 23 = .ok (.aload_n 0, 1) := by decide +kernel
theorem dX3_draw_24 : decode cX3_draw 24 = .ok (.getfield 50, 3) := by decide +kernel
theorem dX3_draw_27 : decode cX3_draw 27 = .ok (.aload_n 0, 1) := by decide +kernel
theorem dX3_draw_28 : decode cX3_draw 28 = .ok (.getfield 54, 3) := by decide +kernel
theorem dX3_draw_31 : decode cX3_draw 31 = .ok (.if_icmp .le 5, 3) := by decide +kernel
theorem dX3_draw_34 : decode cX3_draw 34 = .ok (.iconst 3, 1) := by decide +kernel
theorem dX3_draw_35 : decode cX3_draw 35 = .ok (.ireturn, 1) := by decide +kernel
theorem dX3_draw_36 : decode cX3_draw 36 = .ok (.aload_n 0, 1) := by decide +kernel
theorem dX3_draw_37 : decode cX3_draw 37 = .ok (.getfield 14, 3) := by decide +kernel
theorem dX3_draw_40 : decode cX3_draw 40 = .ok (.invokevirtual 60, 3) := by decide +kernel
theorem dX3_draw_43 : decode cX3_draw 43 = .ok (.ifCond .le 7, 3) := by decide +kernel
theorem dX3_draw_46 : decode cX3_draw 46 = .ok (.aload_n 0, 1) := by decide +kernel
theorem dX3_draw_47 : decode cX3_draw 47 = .ok (.invokevirtual 73, 3) := by decide +kernel
theorem dX3_draw_50 : decode cX3_draw 50 = .ok (.aload_n 0, 1) := by decide +kernel
theorem dX3_draw_51 : decode cX3_draw 51 = .ok (.iload_n 1, 1) := by decide +kernel
theorem dX3_draw_52 : decode cX3_draw 52 = .ok (.invokevirtual 80, 3) := by decide +kernel
theorem dX3_draw_55 : decode cX3_draw 55 = .ok (.aload_n 0, 1) := by decide +kernel
theorem dX3_draw_56 : decode cX3_draw 56 = .ok (.invokevirtual 73, 3) := by decide +kernel
theorem dX3_draw_59 : decode cX3_draw 59 = .ok (.aload_n 0, 1) := by decide +kernel
theorem dX3_draw_60 : decode cX3_draw 60 = .ok (.getfield 14, 3) := by decide +kernel
theorem dX3_draw_63 : decode cX3_draw 63 = .ok (.invokevirtual 67, 3) := by decide +kernel
theorem dX3_draw_66 : decode cX3_draw 66 = .ok (.aload_n 0, 1) := by decide +kernel
theorem dX3_draw_67 : decode cX3_draw 67 = .ok (.dup, 1) := by decide +kernel
theorem dX3_draw_68 : decode cX3_draw 68 = .ok (.getfield 50, 3) := by decide +kernel
theorem dX3_draw_71 : decode cX3_draw 71 = .ok (.iconst 1, 1) := by decide +kernel
theorem dX3_draw_72 : decode cX3_draw 72 = .ok (.iadd, 1) := by decide +kernel
theorem dX3_draw_73 : decode cX3_draw 73 = .ok (.putfield 50, 3) := by decide +kernel
theorem dX3_draw_76 : decode cX3_draw 76 = .ok (.aload_n 0, 1) := by decide +kernel
theorem dX3_draw_77 : decode cX3_draw 77 = .ok (.dup, 1) := by decide +kernel
theorem dX3_draw_78 : decode cX3_draw 78 = .ok (.getfield 57, 3) := by decide +kernel
theorem dX3_draw_81 : decode cX3_draw 81 = .ok (.iconst 1, 1) := by decide +kernel
theorem dX3_draw_82 : decode cX3_draw 82 = .ok (.iadd, 1) := by decide +kernel
theorem dX3_draw_83 : decode cX3_draw 83 = .ok (.putfield 57, 3) := by decide +kernel
theorem dX3_draw_86 : decode cX3_draw 86 = .ok (.iconst 0, 1) := by decide +kernel
theorem dX3_draw_87 : decode cX3_draw 87 = .ok (.ireturn, 1) := by decide +kernel
theorem dX3_interval_0 : decode cX3_interval 0 = .ok (.iload_n 1, 1) := by decide +kernel
theorem dX3_interval_1 : decode cX3_interval 1 = .ok (.iconst 1, 1) := by decide +kernel
theorem dX3_interval_2 : decode cX3_interval 2 = .ok (.if_icmp .lt 10, 3) := by decide +kernel
theorem dX3_interval_5 : decode cX3_interval 5 = .ok (.iload_n 1, 1) := by decide +kernel
theorem dX3_interval_6 : decode cX3_interval 6 = .ok (.sipush 1000, 3) := by decide +kernel
theorem dX3_interval_9 : decode cX3_interval 9 = .ok (.if_icmp .le 5, 3) := by decide +kernel
theorem dX3_interval_12 : decode cX3_interval 12 = .ok (.iconst 0, 1) := by decide +kernel
theorem dX3_interval_13 : decode cX3_interval 13 = .ok (.ireturn, 1) := by decide +kernel
theorem dX3_interval_14 : decode cX3_interval 14 = .ok (.aload_n 0, 1) := by decide +kernel
theorem dX3_interval_15 : decode cX3_interval 15 = .ok (.iload_n 1, 1) := by decide +kernel
theorem dX3_interval_16 : decode cX3_interval 16 = .ok (.putfield 54, 3) := by decide +kernel
theorem dX3_interval_19 : decode cX3_interval 19 = .ok (.iconst 1, 1) := by decide +kernel
theorem dX3_interval_20 : decode cX3_interval 20 = .ok (.ireturn, 1) := by decide +kernel
set_option maxRecDepth 20000 in
theorem ggX3_out_X2_at : GoodIn wsX3_out wsX2_at := goodIn_r _ [6, 7, 8, 21, 22] (by decide +kernel) (by decide +kernel)
set_option maxRecDepth 20000 in
theorem gX3_out_X2_at : GoodIn wsX3_out (wsV RX3 83 RX2 yX2_at wsX2_at) := goodIn_app (goodIn_of _ (by decide +kernel)) ggX3_out_X2_at
theorem dX3_out_0 : decode cX3_out 0 = .ok (.aload_n 0, 1) := by decide +kernel
theorem dX3_out_1 : decode cX3_out 1 = .ok (.getfield 21, 3) := by decide +kernel
theorem dX3_out_4 : decode cX3_out 4 = .ok (.iload_n 1, 1) := by decide +kernel
theorem dX3_out_5 : decode cX3_out 5 = .ok (.invokevirtual 83, 3) := by decide +kernel
theorem dX3_out_8 : decode cX3_out 8 = .ok (.ireturn, 1) := by decide +kernel
theorem dX3_counter_0 : decode cX3_counter 0 = .ok (.aload_n 0, 1) := by decide +kernel
theorem dX3_counter_1 : decode cX3_counter 1 = .ok (.getfield 50, 3) := by decide +kernel
theorem dX3_counter_4 : decode cX3_counter 4 = .ok (.ireturn, 1) := by decide +kernel
set_option maxRecDepth 20000 in
theorem ggX3_state_X3_isSeeded : GoodIn wsX3_state wsX3_isSeeded := goodIn_r _ [7, 8, 16, 17, 18, 19, 20, 21, 22, 23, 24, 25, 26, 27] (by decide +kernel) (by decide +kernel)
set_option maxRecDepth 20000 in
theorem gX3_state_X3_isSeeded : GoodIn wsX3_state (wsV RX3 76 RX3 yX3_isSeeded wsX3_isSeeded) := goodIn_app (goodIn_of _ (by decide +kernel)) ggX3_state_X3_isSeeded
set_option maxRecDepth 20000 in
theorem ggX3_state_X2_at : GoodIn wsX3_state wsX2_at := goodIn_r _ [13, 14, 15, 28, 29] (by decide +kernel) (by decide +kernel)
set_option maxRecDepth 20000 in
theorem gX3_state_X2_at : GoodIn wsX3_state (wsV RX3 83 RX2 yX2_at wsX2_at) := goodIn_app (goodIn_of _ (by decide +kernel)) ggX3_state_X2_at
theorem dX3_state_0 : decode cX3_state 0 = .ok (.aload_n 0, 1) := by decide +kernel
theorem dX3_state_1 : decode cX3_state 1 = .ok (.invokevirtual 76, 3) := by decide +kernel
theorem dX3_state_4 : decode cX3_state 4 = .ok (.ifCond .ne 5, 3) := by decide +kernel
theorem dX3_state_7 : decode cX3_state 7 = .ok (.iconst (-1), 1) := by decide +kernel
theorem dX3_state_8 : decode cX3_state 8 = .ok (.ireturn, 1) := by decide +kernel
theorem dX3_state_9 : decode cX3_state 9 = .ok (.iload_n 1, 1) := by decide +kernel
theorem dX3_state_10 : decode cX3_state 10 = .ok (.lookupswitch 44 #[(0, 26), (1, 35)], 26) := by decide +kernel
theorem dX3_state_36 : decode cX3_state 36 = .ok (.aload_n 0, 1) := by decide +kernel
theorem dX3_state_37 : decode cX3_state 37 = .ok (.getfield 24, 3) := by decide +kernel
theorem dX3_state_40 : decode cX3_state 40 = .ok (.iload_n 2, 1) := by decide +kernel
theorem dX3_state_41 : decode cX3_state 41 = .ok (.invokevirtual 83, 3) := by decide +kernel
theorem dX3_state_44 : decode cX3_state 44 = .ok (.ireturn, 1) := by decide +kernel
theorem dX3_state_45 : decode cX3_state 45 = .ok (.aload_n 0, 1) := by decide +kernel
theorem dX3_state_46 : decode cX3_state 46 = .ok (.getfield 27, 3) := by decide +kernel
theorem dX3_state_49 : decode cX3_state 49 = .ok (.iload_n 2, 1) := by decide +kernel
theorem dX3_state_50 : decode cX3_state 50 = .ok (.invokevirtual 83, 3) := by decide +kernel
theorem dX3_state_53 : decode cX3_state 53 = .ok (.ireturn, 1) := by decide +kernel
theorem dX3_state_54 : decode cX3_state 54 = .ok (.iconst (-1), 1) := by decide +kernel
theorem dX3_state_55 : decode cX3_state 55 = .ok (.ireturn, 1) := by decide +kernel
set_option maxRecDepth 20000 in
theorem ggX3_forget_X3_isSeeded : GoodIn wsX3_forget wsX3_isSeeded := goodIn_r _ [10, 1, 26, 27, 28, 29, 30, 31, 32, 33, 34, 35, 36, 37] (by decide +kernel) (by decide +kernel)
set_option maxRecDepth 20000 in
theorem gX3_forget_X3_isSeeded : GoodIn wsX3_forget (wsV RX3 76 RX3 yX3_isSeeded wsX3_isSeeded) := goodIn_app (goodIn_of _ (by decide +kernel)) ggX3_forget_X3_isSeeded
set_option maxRecDepth 20000 in
theorem ggX3_forget_X2_fill : GoodIn wsX3_forget wsX2_fill := goodIn_r _ [15, 16, 17, 18, 19, 20, 21, 38, 39] (by decide +kernel) (by decide +kernel)
set_option maxRecDepth 20000 in
theorem gX3_forget_X2_fill : GoodIn wsX3_forget (wsV RX3 70 RX2 yX2_fill wsX2_fill) := goodIn_app (goodIn_of _ (by decide +kernel)) ggX3_forget_X2_fill
set_option maxRecDepth 20000 in
theorem ggX3_forget_X2_empty : GoodIn wsX3_forget wsX2_empty := goodIn_r _ [25, 17, 38, 39] (by decide +kernel) (by decide +kernel)
set_option maxRecDepth 20000 in
theorem gX3_forget_X2_empty : GoodIn wsX3_forget (wsV RX3 67 RX2 yX2_empty wsX2_empty) := goodIn_app (goodIn_of _ (by decide +kernel)) ggX3_forget_X2_empty
theorem dX3_forget_0 : decode cX3_forget 0 = .ok (.aload_n 0, 1) := by decide +kernel
theorem dX3_forget_1 : decode cX3_forget 1 = .ok (.invokevirtual 76, 3) := by decide +kernel
theorem dX3_forget_4 : decode cX3_forget 4 = .ok (.ifCond .ne 5, 3) := by decide +kernel
theorem dX3_forget_7 : decode cX3_forget 7 = .ok (.iconst 0, 1) := by decide +kernel
theorem dX3_forget_8 : decode cX3_forget 8 = .ok (.ireturn, 1) := by decide +kernel
theorem dX3_forget_9 : decode cX3_forget 9 = .ok (.aload_n 0, 1) := by decide +kernel
theorem dX3_forget_10 : decode cX3_forget 10 = .ok (.iconst 0, 1) := by decide +kernel
theorem dX3_forget_11 : decode cX3_forget 11 = .ok (.putfield 50, 3) := by decide +kernel
theorem dX3_forget_14 : decode cX3_forget 14 = .ok (.aload_n 0, 1) := by decide +kernel
theorem dX3_forget_15 : decode cX3_forget 15 = .ok (.getfield 24, 3) := by decide +kernel
theorem dX3_forget_18 : decode cX3_forget 18 = .ok (.iconst 0, 1) := by decide +kernel
theorem dX3_forget_19 : decode cX3_forget 19 = .ok (.invokevirtual 70, 3) := by decide +kernel
theorem dX3_forget_22 : decode cX3_forget 22 = .ok (.aload_n 0, 1) := by decide +kernel
theorem dX3_forget_23 : decode cX3_forget 23 = .ok (.getfield 27, 3) := by decide +kernel
theorem dX3_forget_26 : decode cX3_forget 26 = .ok (.iconst 0, 1) := by decide +kernel
theorem dX3_forget_27 : decode cX3_forget 27 = .ok (.invokevirtual 70, 3) := by decide +kernel
theorem dX3_forget_30 : decode cX3_forget 30 = .ok (.aload_n 0, 1) := by decide +kernel
theorem dX3_forget_31 : decode cX3_forget 31 = .ok (.getfield 30, 3) := by decide +kernel
theorem dX3_forget_34 : decode cX3_forget 34 = .ok (.iconst 0, 1) := by decide +kernel
theorem dX3_forget_35 : decode cX3_forget 35 = .ok (.invokevirtual 70, 3) := by decide +kernel
theorem dX3_forget_38 : decode cX3_forget 38 = .ok (.aload_n 0, 1) := by decide +kernel
theorem dX3_forget_39 : decode cX3_forget 39 = .ok (.getfield 21, 3) := by decide +kernel
theorem dX3_forget_42 : decode cX3_forget 42 = .ok (.iconst 0, 1) := by decide +kernel
theorem dX3_forget_43 : decode cX3_forget 43 = .ok (.invokevirtual 70, 3) := by decide +kernel
theorem dX3_forget_46 : decode cX3_forget 46 = .ok (.aload_n 0, 1) := by decide +kernel
theorem dX3_forget_47 : decode cX3_forget 47 = .ok (.getfield 21, 3) := by decide +kernel
theorem dX3_forget_50 : decode cX3_forget 50 = .ok (.invokevirtual 67, 3) := by decide +kernel
theorem dX3_forget_53 : decode cX3_forget 53 = .ok (.iconst 1, 1) := by decide +kernel
theorem dX3_forget_54 : decode cX3_forget 54 = .ok (.ireturn, 1) := by decide +kernel
set_option maxRecDepth 20000 in
theorem ggX3_hash_X0_begin : GoodIn wsX3_hash wsX0_begin := goodIn_r _ [8, 9, 10, 11, 12, 13, 14, 15, 98, 99, 100, 101, 102] (by decide +kernel) (by decide +kernel)
set_option maxRecDepth 20000 in
theorem gX3_hash_X0_begin : GoodIn wsX3_hash (wsV RX3 87 RX0 yX0_begin wsX0_begin) := goodIn_app (goodIn_of _ (by decide +kernel)) ggX3_hash_X0_begin
set_option maxRecDepth 20000 in
theorem ggX3_hash_X0_add : GoodIn wsX3_hash wsX0_add := goodIn_r _ [19, 9, 20, 21, 22, 13, 23, 15, 24, 25, 26, 27, 28, 29, 30, 31, 32, 33, 34, 35, 36, 98, 99, 100, 101, 102] (by decide +kernel) (by decide +kernel)
set_option maxRecDepth 20000 in
theorem gX3_hash_X0_add : GoodIn wsX3_hash (wsV RX3 90 RX0 yX0_add wsX0_add) := goodIn_app (goodIn_of _ (by decide +kernel)) ggX3_hash_X0_add
set_option maxRecDepth 20000 in
theorem ggX3_hash_X0_end : GoodIn wsX3_hash wsX0_end := goodIn_r _ [40, 41, 42, 43, 44, 45, 46, 9, 47, 48, 49, 7, 50, 20, 21, 22, 13, 23, 15, 51, 34, 35, 36, 32, 52, 53, 54, 55, 56, 57, 58, 59, 33, 60, 61, 62, 63, 64, 65, 66, 67, 68, 69, 70, 71, 72, 73, 74, 75, 76, 77, 78, 79, 80, 81, 82, 83, 84, 10, 11, 12, 14, 98, 99, 100, 101, 102] (by decide +kernel) (by decide +kernel)
set_option maxRecDepth 20000 in
theorem gX3_hash_X0_end : GoodIn wsX3_hash (wsV RX3 94 RX0 yX0_end wsX0_end) := goodIn_app (goodIn_of _ (by decide +kernel)) ggX3_hash_X0_end
set_option maxRecDepth 20000 in
theorem ggX3_hash_X2_at : GoodIn wsX3_hash wsX2_at := goodIn_r _ [72, 15, 32, 101, 102] (by decide +kernel) (by decide +kernel)
set_option maxRecDepth 20000 in
theorem gX3_hash_X2_at : GoodIn wsX3_hash (wsV RX3 83 RX2 yX2_at wsX2_at) := goodIn_app (goodIn_of _ (by decide +kernel)) ggX3_hash_X2_at
theorem dX3_hash_0 : decode cX3_hash 0 = .ok (.aload_n 0, 1) := by decide +kernel
theorem dX3_hash_1 : decode cX3_hash 1 = .ok (.getfield 39, 3) := by decide +kernel
theorem dX3_hash_4 : decode cX3_hash 4 = .ok (.invokevirtual 87, 3) := by decide +kernel
theorem dX3_hash_7 : decode cX3_hash 7 = .ok (.aload_n 0, 1) := by decide +kernel
theorem dX3_hash_8 : decode cX3_hash 8 = .ok (.getfield 39, 3) := by decide +kernel
theorem dX3_hash_11 : decode cX3_hash 11 = .ok (.aload_n 0, 1) := by decide +kernel
theorem dX3_hash_12 : decode cX3_hash 12 = .ok (.getfield 14, 3) := by decide +kernel
theorem dX3_hash_15 : decode cX3_hash 15 = .ok (.invokevirtual 90, 3) := by decide +kernel
theorem dX3_hash_18 : decode cX3_hash 18 = .ok (.aload_n 0, 1) := by decide +kernel
theorem dX3_hash_19 : decode cX3_hash 19 = .ok (.getfield 39, 3) := by decide +kernel
theorem dX3_hash_22 : decode cX3_hash 22 = .ok (.aload_n 0, 1) := by decide +kernel
theorem dX3_hash_23 : decode cX3_hash 23 = .ok (.getfield 33, 3) := by decide +kernel
theorem dX3_hash_26 : decode cX3_hash 26 = .ok (.invokevirtual 94, 3) := by decide +kernel
theorem dX3_hash_29 : decode cX3_hash 29 = .ok (.aload_n 0, 1) := by decide +kernel
theorem dX3_hash_30 : decode cX3_hash 30 = .ok (.getfield 33, 3) := by decide +kernel
theorem dX3_hash_33 : decode cX3_hash 33 = .ok (.iload_n 1, 1) := by decide +kernel
theorem dX3_hash_34 : decode cX3_hash 34 = .ok (.invokevirtual 83, 3) := by decide +kernel
theorem dX3_hash_37 : decode cX3_hash 37 = .ok (.ireturn, 1) := by decide +kernel
set_option maxRecDepth 20000 in
theorem ggX3_own_X2_empty : GoodIn wsX3_own wsX2_empty := goodIn_r _ [7, 8, 38, 39] (by decide +kernel) (by decide +kernel)
set_option maxRecDepth 20000 in
theorem gX3_own_X2_empty : GoodIn wsX3_own (wsV RX3 67 RX2 yX2_empty wsX2_empty) := goodIn_app (goodIn_of _ (by decide +kernel)) ggX3_own_X2_empty
set_option maxRecDepth 20000 in
theorem ggX3_own_X2_size : GoodIn wsX3_own wsX2_size := goodIn_r _ [12, 8, 38, 39] (by decide +kernel) (by decide +kernel)
set_option maxRecDepth 20000 in
theorem gX3_own_X2_size : GoodIn wsX3_own (wsV RX3 60 RX2 yX2_size wsX2_size) := goodIn_app (goodIn_of _ (by decide +kernel)) ggX3_own_X2_size
set_option maxRecDepth 20000 in
theorem ggX3_own_X2_append : GoodIn wsX3_own wsX2_append := goodIn_r _ [16, 8, 17, 18, 19, 20, 21, 22, 23, 24, 6, 25, 38, 39] (by decide +kernel) (by decide +kernel)
set_option maxRecDepth 20000 in
theorem gX3_own_X2_append : GoodIn wsX3_own (wsV RX3 97 RX2 yX2_append wsX2_append) := goodIn_app (goodIn_of _ (by decide +kernel)) ggX3_own_X2_append
theorem dX3_own_0 : decode cX3_own 0 = .ok (.aload_n 0, 1) := by decide +kernel
theorem dX3_own_1 : decode cX3_own 1 = .ok (.getfield 18, 3) := by decide +kernel
theorem dX3_own_4 : decode cX3_own 4 = .ok (.invokevirtual 67, 3) := by decide +kernel
theorem dX3_own_7 : decode cX3_own 7 = .ok (.aload_n 0, 1) := by decide +kernel
theorem dX3_own_8 : decode cX3_own 8 = .ok (.getfield 18, 3) := by decide +kernel
theorem dX3_own_11 : decode cX3_own 11 = .ok (.aload_n 0, 1) := by decide +kernel
theorem dX3_own_12 : decode cX3_own 12 = .ok (.getfield 14, 3) := by decide +kernel
theorem dX3_own_15 : decode cX3_own 15 = .ok (.aload_n 0, 1) := by decide +kernel
theorem dX3_own_16 : decode cX3_own 16 = .ok (.getfield 14, 3) := by decide +kernel
theorem dX3_own_19 : decode cX3_own 19 = .ok (.invokevirtual 60, 3) := by decide +kernel
theorem dX3_own_22 : decode cX3_own 22 = .ok (.invokevirtual 97, 3) := by decide +kernel
theorem dX3_own_25 : decode cX3_own 25 = .ok (.aload_n 0, 1) := by decide +kernel
theorem dX3_own_26 : decode cX3_own 26 = .ok (.getfield 14, 3) := by decide +kernel
theorem dX3_own_29 : decode cX3_own 29 = .ok (.invokevirtual 67, 3) := by decide +kernel
theorem dX3_own_32 : decode cX3_own 32 = .ok (.aload_n 0, 1) := by decide +kernel
theorem dX3_own_33 : decode cX3_own 33 = .ok (.getfield 18, 3) := by decide +kernel
theorem dX3_own_36 : decode cX3_own 36 = .ok (.invokevirtual 60, 3) := by decide +kernel
theorem dX3_own_39 : decode cX3_own 39 = .ok (.ireturn, 1) := by decide +kernel
set_option maxRecDepth 20000 in
theorem ggX3_keyed_X1_begin : GoodIn wsX3_keyed wsX1_begin := goodIn_r _ [9, 10, 11, 12, 13, 14, 15, 16, 17, 18, 19, 20, 21, 22, 23, 24, 25, 26, 27, 28, 29, 30, 31, 32, 33, 34, 35, 36, 37, 38, 39, 40, 41, 42, 43, 44, 45, 46, 47, 48, 49, 50, 51, 52, 53, 54, 55, 56, 57, 58, 59, 60, 61, 62, 63, 64, 65, 66, 67, 68, 69, 70, 71, 72, 73, 74, 75, 76, 77, 78, 79, 80, 81, 82, 83, 84, 85, 86, 87, 88, 89, 90, 91, 92, 93, 94, 95, 96, 97, 98, 99, 100, 101, 102, 103, 104, 127, 128, 129, 130, 131, 132, 133, 134] (by decide +kernel) (by decide +kernel)
set_option maxRecDepth 20000 in
theorem gX3_keyed_X1_begin : GoodIn wsX3_keyed (wsV RX3 101 RX1 yX1_begin wsX1_begin) := goodIn_app (goodIn_of _ (by decide +kernel)) ggX3_keyed_X1_begin
set_option maxRecDepth 20000 in
theorem ggX3_keyed_X1_add : GoodIn wsX3_keyed wsX1_add := goodIn_r _ [108, 11, 29, 30, 31, 25, 32, 27, 33, 19, 20, 15, 21, 17, 34, 35, 36, 37, 38, 39, 40, 41, 42, 43, 44, 45, 46, 127, 128, 129, 132, 133, 134, 130, 131] (by decide +kernel) (by decide +kernel)
set_option maxRecDepth 20000 in
theorem gX3_keyed_X1_add : GoodIn wsX3_keyed (wsV RX3 103 RX1 yX1_add wsX1_add) := goodIn_app (goodIn_of _ (by decide +kernel)) ggX3_keyed_X1_add
set_option maxRecDepth 20000 in
theorem ggX3_keyed_X1_end : GoodIn wsX3_keyed wsX1_end := goodIn_r _ [112, 11, 113, 10, 47, 48, 49, 25, 50, 51, 52, 53, 54, 55, 56, 27, 57, 58, 59, 60, 33, 19, 20, 15, 21, 17, 61, 44, 45, 46, 42, 62, 63, 64, 65, 66, 67, 68, 69, 43, 70, 71, 72, 73, 74, 75, 76, 77, 78, 79, 80, 81, 82, 83, 84, 85, 86, 87, 88, 89, 90, 91, 92, 93, 94, 28, 13, 14, 16, 22, 23, 24, 26, 97, 98, 99, 100, 101, 102, 103, 104, 29, 30, 31, 32, 34, 35, 36, 37, 38, 39, 40, 41, 127, 128, 129, 132, 133, 134, 130, 131] (by decide +kernel) (by decide +kernel)
set_option maxRecDepth 20000 in
theorem gX3_keyed_X1_end : GoodIn wsX3_keyed (wsV RX3 104 RX1 yX1_end wsX1_end) := goodIn_app (goodIn_of _ (by decide +kernel)) ggX3_keyed_X1_end
set_option maxRecDepth 20000 in
theorem ggX3_keyed_X2_at : GoodIn wsX3_keyed wsX2_at := goodIn_r _ [82, 17, 42, 130, 131] (by decide +kernel) (by decide +kernel)
set_option maxRecDepth 20000 in
theorem gX3_keyed_X2_at : GoodIn wsX3_keyed (wsV RX3 83 RX2 yX2_at wsX2_at) := goodIn_app (goodIn_of _ (by decide +kernel)) ggX3_keyed_X2_at
theorem dX3_keyed_0 : decode cX3_keyed 0 = .ok (.aload_n 0, 1) := by decide +kernel
theorem dX3_keyed_1 : decode cX3_keyed 1 = .ok (.getfield 46, 3) := by decide +kernel
theorem dX3_keyed_4 : decode cX3_keyed 4 = .ok (.aload_n 0, 1) := by decide +kernel
theorem dX3_keyed_5 : decode cX3_keyed 5 = .ok (.getfield 18, 3) := by decide +kernel
theorem dX3_keyed_8 : decode cX3_keyed 8 = .ok (.invokevirtual 101, 3) := by decide +kernel
theorem dX3_keyed_11 : decode cX3_keyed 11 = .ok (.aload_n 0, 1) := by decide +kernel
theorem dX3_keyed_12 : decode cX3_keyed 12 = .ok (.getfield 46, 3) := by decide +kernel
theorem dX3_keyed_15 : decode cX3_keyed 15 = .ok (.aload_n 0, 1) := by decide +kernel
theorem dX3_keyed_16 : decode cX3_keyed 16 = .ok (.getfield 14, 3) := by decide +kernel
theorem dX3_keyed_19 : decode cX3_keyed 19 = .ok (.invokevirtual 103, 3) := by decide +kernel
theorem dX3_keyed_22 : decode cX3_keyed 22 = .ok (.aload_n 0, 1) := by decide +kernel
theorem dX3_keyed_23 : decode cX3_keyed 23 = .ok (.getfield 46, 3) := by decide +kernel
theorem dX3_keyed_26 : decode cX3_keyed 26 = .ok (.aload_n 0, 1) := by decide +kernel
theorem dX3_keyed_27 : decode cX3_keyed 27 = .ok (.getfield 33, 3) := by decide +kernel
theorem dX3_keyed_30 : decode cX3_keyed 30 = .ok (.invokevirtual 104, 3) := by decide +kernel
theorem dX3_keyed_33 : decode cX3_keyed 33 = .ok (.aload_n 0, 1) := by decide +kernel
theorem dX3_keyed_34 : decode cX3_keyed 34 = .ok (.getfield 33, 3) := by decide +kernel
theorem dX3_keyed_37 : decode cX3_keyed 37 = .ok (.iload_n 1, 1) := by decide +kernel
theorem dX3_keyed_38 : decode cX3_keyed 38 = .ok (.invokevirtual 83, 3) := by decide +kernel
theorem dX3_keyed_41 : decode cX3_keyed 41 = .ok (.ireturn, 1) := by decide +kernel
set_option maxRecDepth 20000 in
theorem ggX3_count_X2_size : GoodIn wsX3_count wsX2_size := goodIn_r _ [10, 11, 24, 25] (by decide +kernel) (by decide +kernel)
set_option maxRecDepth 20000 in
theorem gX3_count_X2_size : GoodIn wsX3_count (wsV RX3 60 RX2 yX2_size wsX2_size) := goodIn_app (goodIn_of _ (by decide +kernel)) ggX3_count_X2_size
theorem dX3_count_0 : decode cX3_count 0 = .ok (.iload_n 1, 1) := by decide +kernel
theorem dX3_count_1 : decode cX3_count 1 = .ok (.tableswitch 69 0 4 #[35, 43, 51, 59, 64], 35) := by decide +kernel
theorem dX3_count_36 : decode cX3_count 36 = .ok (.aload_n 0, 1) := by decide +kernel
theorem dX3_count_37 : decode cX3_count 37 = .ok (.getfield 14, 3) := by decide +kernel
theorem dX3_count_40 : decode cX3_count 40 = .ok (.invokevirtual 60, 3) := by decide +kernel
theorem dX3_count_43 : decode cX3_count 43 = .ok (.ireturn, 1) := by decide +kernel
theorem dX3_count_44 : decode cX3_count 44 = .ok (.aload_n 0, 1) := by decide +kernel
theorem dX3_count_45 : decode cX3_count 45 = .ok (.getfield 21, 3) := by decide +kernel
theorem dX3_count_48 : decode cX3_count 48 = .ok (.invokevirtual 60, 3) := by decide +kernel
theorem dX3_count_51 : decode cX3_count 51 = .ok (.ireturn, 1) := by decide +kernel
theorem dX3_count_52 : decode cX3_count 52 = .ok (.aload_n 0, 1) := by decide +kernel
theorem dX3_count_53 : decode cX3_count 53 = .ok (.getfield 18, 3) := by decide +kernel
theorem dX3_count_56 : decode cX3_count 56 = .ok (.invokevirtual 60, 3) := by decide +kernel
theorem dX3_count_59 : decode cX3_count 59 = .ok (.ireturn, 1) := by decide +kernel
theorem dX3_count_60 : decode cX3_count 60 = .ok (.aload_n 0, 1) := by decide +kernel
theorem dX3_count_61 : decode cX3_count 61 = .ok (.getfield 57, 3) := by decide +kernel
theorem dX3_count_64 : decode cX3_count 64 = .ok (.ireturn, 1) := by decide +kernel
theorem dX3_count_65 : decode cX3_count 65 = .ok (.aload_n 0, 1) := by decide +kernel
theorem dX3_count_66 : decode cX3_count 66 = .ok (.getfield 54, 3) := by decide +kernel
theorem dX3_count_69 : decode cX3_count 69 = .ok (.ireturn, 1) := by decide +kernel
theorem dX3_count_70 : decode cX3_count 70 = .ok (.iconst (-1), 1) := by decide +kernel
theorem dX3_count_71 : decode cX3_count 71 = .ok (.ireturn, 1) := by decide +kernel
set_option maxRecDepth 20000 in
theorem ggX3_check_X3_isSeeded : GoodIn wsX3_check wsX3_isSeeded := goodIn_r _ [10, 11, 125, 126, 127, 128, 129, 130, 131, 132, 133, 134, 135, 136] (by decide +kernel) (by decide +kernel)
set_option maxRecDepth 20000 in
theorem gX3_check_X3_isSeeded : GoodIn wsX3_check (wsV RX3 76 RX3 yX3_isSeeded wsX3_isSeeded) := goodIn_app (goodIn_of _ (by decide +kernel)) ggX3_check_X3_isSeeded
set_option maxRecDepth 20000 in
theorem ggX3_check_X1_begin : GoodIn wsX3_check wsX1_begin := goodIn_r _ [16, 17, 18, 19, 20, 21, 22, 23, 24, 25, 26, 27, 28, 29, 30, 31, 32, 33, 34, 35, 36, 37, 38, 39, 40, 41, 42, 43, 44, 45, 46, 47, 48, 49, 50, 51, 52, 53, 54, 55, 56, 57, 58, 59, 60, 61, 62, 63, 64, 65, 66, 67, 68, 69, 70, 71, 72, 73, 74, 75, 76, 77, 78, 79, 80, 81, 82, 83, 84, 85, 86, 87, 88, 89, 90, 91, 92, 93, 94, 95, 96, 97, 98, 99, 100, 101, 102, 103, 104, 105, 106, 107, 108, 109, 110, 111, 137, 138, 139, 140, 141, 142, 143, 144] (by decide +kernel) (by decide +kernel)
set_option maxRecDepth 20000 in
theorem gX3_check_X1_begin : GoodIn wsX3_check (wsV RX3 101 RX1 yX1_begin wsX1_begin) := goodIn_app (goodIn_of _ (by decide +kernel)) ggX3_check_X1_begin
set_option maxRecDepth 20000 in
theorem ggX3_check_X1_add : GoodIn wsX3_check wsX1_add := goodIn_r _ [115, 18, 36, 37, 38, 32, 39, 34, 40, 26, 27, 22, 28, 24, 41, 42, 43, 44, 45, 46, 47, 48, 49, 50, 51, 52, 53, 137, 138, 139, 142, 143, 144, 140, 141] (by decide +kernel) (by decide +kernel)
set_option maxRecDepth 20000 in
theorem gX3_check_X1_add : GoodIn wsX3_check (wsV RX3 103 RX1 yX1_add wsX1_add) := goodIn_app (goodIn_of _ (by decide +kernel)) ggX3_check_X1_add
set_option maxRecDepth 20000 in
theorem ggX3_check_X1_end : GoodIn wsX3_check wsX1_end := goodIn_r _ [119, 18, 120, 17, 54, 55, 56, 32, 57, 58, 59, 60, 61, 62, 63, 34, 64, 65, 66, 67, 40, 26, 27, 22, 28, 24, 68, 51, 52, 53, 49, 69, 70, 71, 72, 73, 74, 75, 76, 50, 77, 78, 79, 80, 81, 82, 83, 84, 85, 86, 87, 88, 89, 90, 91, 92, 93, 94, 95, 96, 97, 98, 99, 100, 101, 35, 20, 21, 23, 29, 30, 31, 33, 104, 105, 106, 107, 108, 109, 110, 111, 36, 37, 38, 39, 41, 42, 43, 44, 45, 46, 47, 48, 137, 138, 139, 142, 143, 144, 140, 141] (by decide +kernel) (by decide +kernel)
set_option maxRecDepth 20000 in
theorem gX3_check_X1_end : GoodIn wsX3_check (wsV RX3 104 RX1 yX1_end wsX1_end) := goodIn_app (goodIn_of _ (by decide +kernel)) ggX3_check_X1_end
set_option maxRecDepth 20000 in
theorem ggX3_check_X2_sameAs : GoodIn wsX3_check wsX2_sameAs := goodIn_r _ [124, 24, 49, 140, 141] (by decide +kernel) (by decide +kernel)
set_option maxRecDepth 20000 in
theorem gX3_check_X2_sameAs : GoodIn wsX3_check (wsV RX3 105 RX2 yX2_sameAs wsX2_sameAs) := goodIn_app (goodIn_of _ (by decide +kernel)) ggX3_check_X2_sameAs
theorem dX3_check_0 : decode cX3_check 0 = .ok (.aload_n 0, 1) := by decide +kernel
theorem dX3_check_1 : decode cX3_check 1 = .ok (.invokevirtual 76, 3) := by decide +kernel
theorem dX3_check_4 : decode cX3_check 4 = .ok (.ifCond .ne 5, 3) := by decide +kernel
theorem dX3_check_7 : decode cX3_check 7 = .ok (.iconst 1, 1) := by decide +kernel
theorem dX3_check_8 : decode cX3_check 8 = .ok (.ireturn, 1) := by decide +kernel
theorem dX3_check_9 : decode cX3_check 9 = .ok (.aload_n 0, 1) := by decide +kernel
theorem dX3_check_10 : decode cX3_check 10 = .ok (.getfield 46, 3) := by decide +kernel
theorem dX3_check_13 : decode cX3_check 13 = .ok (.aload_n 0, 1) := by decide +kernel
theorem dX3_check_14 : decode cX3_check 14 = .ok (.getfield 24, 3) := by decide +kernel
theorem dX3_check_17 : decode cX3_check 17 = .ok (.invokevirtual 101, 3) := by decide +kernel
theorem dX3_check_20 : decode cX3_check 20 = .ok (.aload_n 0, 1) := by decide +kernel
theorem dX3_check_21 : decode cX3_check 21 = .ok (.getfield 46, 3) := by decide +kernel
theorem dX3_check_24 : decode cX3_check 24 = .ok (.aload_n 0, 1) := by decide +kernel
theorem dX3_check_25 : decode cX3_check 25 = .ok (.getfield 30, 3) := by decide +kernel
theorem dX3_check_28 : decode cX3_check 28 = .ok (.invokevirtual 103, 3) := by decide +kernel
theorem dX3_check_31 : decode cX3_check 31 = .ok (.aload_n 0, 1) := by decide +kernel
theorem dX3_check_32 : decode cX3_check 32 = .ok (.getfield 46, 3) := by decide +kernel
theorem dX3_check_35 : decode cX3_check 35 = .ok (.aload_n 0, 1) := by decide +kernel
theorem dX3_check_36 : decode cX3_check 36 = .ok (.getfield 33, 3) := by decide +kernel
theorem dX3_check_39 : decode cX3_check 39 = .ok (.invokevirtual 104, 3) := by decide +kernel
theorem dX3_check_42 : decode cX3_check 42 = .ok (.aload_n 0, 1) := by decide +kernel
theorem dX3_check_43 : decode cX3_check 43 = .ok (.getfield 33, 3) := by decide +kernel
theorem dX3_check_46 : decode cX3_check 46 = .ok (.aload_n 0, 1) := by decide +kernel
theorem dX3_check_47 : decode cX3_check 47 = .ok (.getfield 27, 3) := by decide +kernel
theorem dX3_check_50 : decode cX3_check 50 = .ok (.invokevirtual 105, 3) := by decide +kernel
theorem dX3_check_53 : decode cX3_check 53 = .ok (.ifCond .eq 7, 3) := by decide +kernel
theorem dX3_check_56 : decode cX3_check 56 = .ok (.iconst 1, 1) := by decide +kernel
theorem dX3_check_57 : decode cX3_check 57 = .ok (.goto 4, 3) := by decide +kernel
theorem dX3_check_60 : decode cX3_check 60 = .ok (.iconst 0, 1) := by decide +kernel
theorem dX3_check_61 : decode cX3_check 61 = .ok (.ireturn, 1) := by decide +kernel
theorem dX3_isSeeded_0 : decode cX3_isSeeded 0 = .ok (.aload_n 0, 1) := by decide +kernel
theorem dX3_isSeeded_1 : decode cX3_isSeeded 1 = .ok (.getfield 50, 3) := by decide +kernel
theorem dX3_isSeeded_4 : decode cX3_isSeeded 4 = .ok (.ifCond .le 7, 3) := by decide +kernel
theorem dX3_isSeeded_7 : decode cX3_isSeeded 7 = .ok (.iconst 1, 1) := by decide +kernel
theorem dX3_isSeeded_8 : decode cX3_isSeeded 8 = .ok (.goto 4, 3) := by decide +kernel
theorem dX3_isSeeded_11 : decode cX3_isSeeded 11 = .ok (.iconst 0, 1) := by decide +kernel
theorem dX3_isSeeded_12 : decode cX3_isSeeded 12 = .ok (.ireturn, 1) := by decide +kernel
set_option maxRecDepth 20000 in
theorem ggX3_stir_X2_size : GoodIn wsX3_stir wsX2_size := goodIn_r _ [9, 10, 143, 144] (by decide +kernel) (by decide +kernel)
set_option maxRecDepth 20000 in
theorem gX3_stir_X2_size : GoodIn wsX3_stir (wsV RX3 60 RX2 yX2_size wsX2_size) := goodIn_app (goodIn_of _ (by decide +kernel)) ggX3_stir_X2_size
set_option maxRecDepth 20000 in
theorem ggX3_stir_X1_begin : GoodIn wsX3_stir wsX1_begin := goodIn_r _ [15, 16, 17, 18, 19, 20, 8, 21, 10, 22, 6, 7, 9, 23, 24, 25, 26, 27, 28, 29, 30, 31, 32, 33, 34, 35, 36, 37, 38, 39, 40, 41, 42, 43, 44, 45, 46, 47, 48, 49, 50, 51, 52, 53, 54, 55, 56, 57, 58, 59, 60, 61, 62, 63, 64, 65, 66, 67, 68, 69, 70, 71, 72, 73, 74, 75, 76, 77, 78, 79, 80, 81, 82, 83, 84, 85, 86, 87, 88, 89, 90, 91, 92, 93, 94, 95, 96, 97, 98, 99, 100, 101, 102, 103, 104, 105, 145, 146, 147, 143, 144, 148, 149, 150] (by decide +kernel) (by decide +kernel)
set_option maxRecDepth 20000 in
theorem gX3_stir_X1_begin : GoodIn wsX3_stir (wsV RX3 101 RX1 yX1_begin wsX1_begin) := goodIn_app (goodIn_of _ (by decide +kernel)) ggX3_stir_X1_begin
set_option maxRecDepth 20000 in
theorem ggX3_stir_X1_add : GoodIn wsX3_stir wsX1_add := goodIn_r _ [109, 17, 30, 31, 32, 26, 33, 28, 34, 6, 7, 8, 9, 10, 35, 36, 37, 38, 39, 40, 41, 42, 43, 44, 45, 46, 47, 145, 146, 147, 148, 149, 150, 143, 144] (by decide +kernel) (by decide +kernel)
set_option maxRecDepth 20000 in
theorem gX3_stir_X1_add : GoodIn wsX3_stir (wsV RX3 103 RX1 yX1_add wsX1_add) := goodIn_app (goodIn_of _ (by decide +kernel)) ggX3_stir_X1_add
set_option maxRecDepth 20000 in
theorem ggX3_stir_X1_addByte : GoodIn wsX3_stir wsX1_addByte := goodIn_r _ [113, 17, 114, 115, 116, 26, 117, 28, 62, 45, 46, 8, 47, 10, 43, 145, 146, 147, 148, 149, 150, 143, 144] (by decide +kernel) (by decide +kernel)
set_option maxRecDepth 20000 in
theorem gX3_stir_X1_addByte : GoodIn wsX3_stir (wsV RX3 109 RX1 yX1_addByte wsX1_addByte) := goodIn_app (goodIn_of _ (by decide +kernel)) ggX3_stir_X1_addByte
set_option maxRecDepth 20000 in
theorem ggX3_stir_X1_end : GoodIn wsX3_stir wsX1_end := goodIn_r _ [121, 17, 122, 16, 48, 49, 50, 26, 51, 52, 53, 54, 55, 56, 57, 28, 58, 59, 60, 61, 34, 6, 7, 8, 9, 10, 62, 45, 46, 47, 43, 63, 64, 65, 66, 67, 68, 69, 70, 44, 71, 72, 73, 74, 75, 76, 77, 78, 79, 80, 81, 82, 83, 84, 85, 86, 87, 88, 89, 90, 91, 92, 93, 94, 95, 29, 19, 20, 21, 23, 24, 25, 27, 98, 99, 100, 101, 102, 103, 104, 105, 30, 31, 32, 33, 35, 36, 37, 38, 39, 40, 41, 42, 145, 146, 147, 148, 149, 150, 143, 144] (by decide +kernel) (by decide +kernel)
set_option maxRecDepth 20000 in
theorem gX3_stir_X1_end : GoodIn wsX3_stir (wsV RX3 104 RX1 yX1_end wsX1_end) := goodIn_app (goodIn_of _ (by decide +kernel)) ggX3_stir_X1_end
set_option maxRecDepth 20000 in
theorem ggX3_stir_X3_renewValue : GoodIn wsX3_stir wsX3_renewValue := goodIn_r _ [127, 128, 4, 2, 3, 129, 19, 20, 8, 21, 10, 130, 36, 37, 38, 39, 40, 41, 42, 43, 44, 45, 46, 47, 11, 12, 13, 14, 15, 16, 17, 18, 22, 6, 7, 9, 23, 24, 25, 26, 27, 28, 29, 30, 31, 32, 33, 34, 35, 48, 49, 50, 51, 52, 53, 54, 55, 56, 57, 58, 59, 60, 61, 62, 63, 64, 65, 66, 67, 68, 69, 70, 71, 72, 73, 74, 75, 76, 77, 78, 79, 80, 81, 82, 83, 84, 85, 86, 87, 88, 89, 90, 91, 92, 93, 94, 95, 96, 97, 98, 99, 100, 101, 102, 103, 104, 105, 106, 107, 108, 109, 118, 119, 120, 121, 122, 131, 132, 133, 134, 135, 136, 137, 138, 139, 140, 141, 142, 143, 144, 145, 146, 147, 148, 149, 150] (by decide +kernel) (by decide +kernel)
set_option maxRecDepth 20000 in
theorem gX3_stir_X3_renewValue : GoodIn wsX3_stir (wsV RX3 112 RX3 yX3_renewValue wsX3_renewValue) := goodIn_app (goodIn_of _ (by decide +kernel)) ggX3_stir_X3_renewValue
theorem dX3_stir_0 : decode cX3_stir 0 = .ok (.aload_n 0, 1) := by decide +kernel
theorem dX3_stir_1 : decode cX3_stir 1 = .ok (.getfield 14, 3) := by decide +kernel
theorem dX3_stir_4 : decode cX3_stir 4 = .ok (.invokevirtual 60, 3) := by decide +kernel
theorem dX3_stir_7 : decode cX3_stir 7 = .ok (.ifCond .ne 7, 3) := by decide +kernel
theorem dX3_stir_10 : decode cX3_stir 10 = .ok (.iconst 1, 1) := by decide +kernel
theorem dX3_stir_11 : decode cX3_stir 11 = .ok (.goto 4, 3) := by decide +kernel
theorem dX3_stir_14 : decode cX3_stir 14 = .ok (.iconst 2, 1) := by decide +kernel
theorem dX3_stir_15 : decode cX3_stir 15 = .ok (.istore_n 1, 1) := by decide +kernel
theorem dX3_stir_16 : decode cX3_stir 16 = .ok (.iconst 0, 1) := by decide +kernel
theorem dX3_stir_17 : decode cX3_stir 17 = .ok (.istore_n 2, 1) := by decide +kernel
theorem dX3_stir_18 : decode cX3_stir 18 = .ok (.iload_n 2, 1) := by decide +kernel
theorem dX3_stir_19 : decode cX3_stir 19 = .ok (.iload_n 1, 1) := by decide +kernel
theorem dX3_stir_20 : decode cX3_stir 20 = .ok (.if_icmp .ge 65, 3) := by decide +kernel
theorem dX3_stir_23 : decode cX3_stir 23 = .ok (.aload_n 0, 1) := by decide +kernel
theorem dX3_stir_24 : decode cX3_stir 24 = .ok (.getfield 46, 3) := by decide +kernel
theorem dX3_stir_27 : decode cX3_stir 27 = .ok (.aload_n 0, 1) := by decide +kernel
theorem dX3_stir_28 : decode cX3_stir 28 = .ok (.getfield 24, 3) := by decide +kernel
theorem dX3_stir_31 : decode cX3_stir 31 = .ok (.invokevirtual 101, 3) := by decide +kernel
theorem dX3_stir_34 : decode cX3_stir 34 = .ok (.aload_n 0, 1) := by decide +kernel
theorem dX3_stir_35 : decode cX3_stir 35 = .ok (.getfield 46, 3) := by decide +kernel
theorem dX3_stir_38 : decode cX3_stir 38 = .ok (.aload_n 0, 1) := by decide +kernel
theorem dX3_stir_39 : decode cX3_stir 39 = .ok (.getfield 27, 3) := by decide +kernel
theorem dX3_stir_42 : decode cX3_stir 42 = .ok (.invokevirtual 103, 3) := by decide +kernel
theorem dX3_stir_45 : decode cX3_stir 45 = .ok (.aload_n 0, 1) := by decide +kernel
theorem dX3_stir_46 : decode cX3_stir 46 = .ok (.getfield 46, 3) := by decide +kernel
theorem dX3_stir_49 : decode cX3_stir 49 = .ok (.iload_n 2, 1) := by decide +kernel
theorem dX3_stir_50 : decode cX3_stir 50 = .ok (.invokevirtual 109, 3) := by decide +kernel
theorem dX3_stir_53 : decode cX3_stir 53 = .ok (.aload_n 0, 1) := by decide +kernel
theorem dX3_stir_54 : decode cX3_stir 54 = .ok (.getfield 46, 3) := by decide +kernel
theorem dX3_stir_57 : decode cX3_stir 57 = .ok (.aload_n 0, 1) := by decide +kernel
theorem dX3_stir_58 : decode cX3_stir 58 = .ok (.getfield 14, 3) := by decide +kernel
theorem dX3_stir_61 : decode cX3_stir 61 = .ok (.invokevirtual 103, 3) := by decide +kernel
theorem dX3_stir_64 : decode cX3_stir 64 = .ok (.aload_n 0, 1) := by decide +kernel
theorem dX3_stir_65 : decode cX3_stir 65 = .ok (.getfield 46, 3) := by decide +kernel
theorem dX3_stir_68 : decode cX3_stir 68 = .ok (.aload_n 0, 1) := by decide +kernel
theorem dX3_stir_69 : decode cX3_stir 69 = .ok (.getfield 24, 3) := by decide +kernel
theorem dX3_stir_72 : decode cX3_stir 72 = .ok (.invokevirtual 104, 3) := by decide +kernel
theorem dX3_stir_75 : decode cX3_stir 75 = .ok (.aload_n 0, 1) := by decide +kernel
theorem dX3_stir_76 : decode cX3_stir 76 = .ok (.invokevirtual 112, 3) := by decide +kernel
theorem dX3_stir_79 : decode cX3_stir 79 = .ok (.iinc 2 1, 3) := by decide +kernel
theorem dX3_stir_82 : decode cX3_stir 82 = .ok (.goto (-64), 3) := by decide +kernel
theorem dX3_stir_85 : decode cX3_stir 85 = .ok (.return_, 1) := by decide +kernel
set_option maxRecDepth 20000 in
theorem ggX3_renewValue_X2_empty : GoodIn wsX3_renewValue wsX2_empty := goodIn_r _ [9, 10, 128, 129] (by decide +kernel) (by decide +kernel)
set_option maxRecDepth 20000 in
theorem gX3_renewValue_X2_empty : GoodIn wsX3_renewValue (wsV RX3 67 RX2 yX2_empty wsX2_empty) := goodIn_app (goodIn_of _ (by decide +kernel)) ggX3_renewValue_X2_empty
set_option maxRecDepth 20000 in
theorem ggX3_renewValue_X2_append : GoodIn wsX3_renewValue wsX2_append := goodIn_r _ [14, 10, 15, 16, 17, 18, 19, 20, 21, 22, 8, 23, 128, 129] (by decide +kernel) (by decide +kernel)
set_option maxRecDepth 20000 in
theorem gX3_renewValue_X2_append : GoodIn wsX3_renewValue (wsV RX3 97 RX2 yX2_append wsX2_append) := goodIn_app (goodIn_of _ (by decide +kernel)) ggX3_renewValue_X2_append
set_option maxRecDepth 20000 in
theorem ggX3_renewValue_X1_begin : GoodIn wsX3_renewValue wsX1_begin := goodIn_r _ [28, 29, 30, 31, 6, 7, 8, 9, 10, 32, 33, 34, 35, 36, 37, 38, 39, 40, 41, 42, 43, 44, 45, 46, 47, 48, 12, 13, 14, 15, 16, 17, 18, 19, 20, 21, 22, 23, 49, 50, 51, 52, 53, 54, 55, 56, 57, 58, 59, 60, 61, 62, 63, 64, 65, 66, 67, 68, 69, 70, 71, 72, 73, 74, 75, 76, 77, 78, 79, 80, 81, 82, 83, 84, 85, 86, 87, 88, 89, 90, 91, 92, 93, 94, 95, 96, 97, 98, 99, 100, 101, 102, 103, 104, 105, 106, 130, 131, 132, 128, 129, 133, 134, 135] (by decide +kernel) (by decide +kernel)
set_option maxRecDepth 20000 in
theorem gX3_renewValue_X1_begin : GoodIn wsX3_renewValue (wsV RX3 101 RX1 yX1_begin wsX1_begin) := goodIn_app (goodIn_of _ (by decide +kernel)) ggX3_renewValue_X1_begin
set_option maxRecDepth 20000 in
theorem ggX3_renewValue_X1_add : GoodIn wsX3_renewValue wsX1_add := goodIn_r _ [110, 30, 43, 44, 45, 39, 46, 41, 47, 33, 34, 8, 35, 10, 48, 12, 13, 14, 15, 16, 17, 18, 19, 20, 21, 22, 23, 130, 131, 132, 133, 134, 135, 128, 129] (by decide +kernel) (by decide +kernel)
set_option maxRecDepth 20000 in
theorem gX3_renewValue_X1_add : GoodIn wsX3_renewValue (wsV RX3 103 RX1 yX1_add wsX1_add) := goodIn_app (goodIn_of _ (by decide +kernel)) ggX3_renewValue_X1_add
set_option maxRecDepth 20000 in
theorem ggX3_renewValue_X1_end : GoodIn wsX3_renewValue wsX1_end := goodIn_r _ [114, 30, 115, 29, 49, 50, 51, 39, 52, 53, 54, 55, 56, 57, 58, 41, 59, 60, 61, 62, 47, 33, 34, 8, 35, 10, 63, 21, 22, 23, 19, 64, 65, 66, 67, 68, 69, 70, 71, 20, 72, 73, 74, 75, 76, 77, 78, 79, 80, 81, 82, 83, 84, 85, 86, 87, 88, 89, 90, 91, 92, 93, 94, 95, 96, 42, 6, 7, 9, 36, 37, 38, 40, 99, 100, 101, 102, 103, 104, 105, 106, 43, 44, 45, 46, 48, 12, 13, 14, 15, 16, 17, 18, 130, 131, 132, 133, 134, 135, 128, 129] (by decide +kernel) (by decide +kernel)
set_option maxRecDepth 20000 in
theorem gX3_renewValue_X1_end : GoodIn wsX3_renewValue (wsV RX3 104 RX1 yX1_end wsX1_end) := goodIn_app (goodIn_of _ (by decide +kernel)) ggX3_renewValue_X1_end
theorem dX3_renewValue_0 : decode cX3_renewValue 0 = .ok (.aload_n 0, 1) := by decide +kernel
theorem dX3_renewValue_1 : decode cX3_renewValue 1 = .ok (.getfield 30, 3) := by decide +kernel
theorem dX3_renewValue_4 : decode cX3_renewValue 4 = .ok (.invokevirtual 67, 3) := by decide +kernel
theorem dX3_renewValue_7 : decode cX3_renewValue 7 = .ok (.aload_n 0, 1) := by decide +kernel
theorem dX3_renewValue_8 : decode cX3_renewValue 8 = .ok (.getfield 30, 3) := by decide +kernel
theorem dX3_renewValue_11 : decode cX3_renewValue 11 = .ok (.aload_n 0, 1) := by decide +kernel
theorem dX3_renewValue_12 : decode cX3_renewValue 12 = .ok (.getfield 27, 3) := by decide +kernel
theorem dX3_renewValue_15 : decode cX3_renewValue 15 = .ok (.bipush 32, 2) := by decide +kernel
theorem dX3_renewValue_17 : decode cX3_renewValue 17 = .ok (.invokevirtual 97, 3) := by decide +kernel
theorem dX3_renewValue_20 : decode cX3_renewValue 20 = .ok (.aload_n 0, 1) := by decide +kernel
theorem dX3_renewValue_21 : decode cX3_renewValue 21 = .ok (.getfield 46, 3) := by decide +kernel
theorem dX3_renewValue_24 : decode cX3_renewValue 24 = .ok (.aload_n 0, 1) := by decide +kernel
theorem dX3_renewValue_25 : decode cX3_renewValue 25 = .ok (.getfield 24, 3) := by decide +kernel
theorem dX3_renewValue_28 : decode cX3_renewValue 28 = .ok (.invokevirtual 101, 3) := by decide +kernel
theorem dX3_renewValue_31 : decode cX3_renewValue 31 = .ok (.aload_n 0, 1) := by decide +kernel
theorem dX3_renewValue_32 : decode cX3_renewValue 32 = .ok (.getfield 46, 3) := by decide +kernel
theorem dX3_renewValue_35 : decode cX3_renewValue 35 = .ok (.aload_n 0, 1) := by decide +kernel
theorem dX3_renewValue_36 : decode cX3_renewValue 36 = .ok (.getfield 27, 3) := by decide +kernel
theorem dX3_renewValue_39 : decode cX3_renewValue 39 = .ok (.invokevirtual 103, 3) := by decide +kernel
theorem dX3_renewValue_42 : decode cX3_renewValue 42 = .ok (.aload_n 0, 1) := by decide +kernel
theorem dX3_renewValue_43 : decode cX3_renewValue 43 = .ok (.getfield 46, 3) := by decide +kernel
theorem dX3_renewValue_46 : decode cX3_renewValue 46 = .ok (.aload_n 0, 1) := by decide +kernel
theorem dX3_renewValue_47 : decode cX3_renewValue 47 = .ok (.getfield 27, 3) := by decide +kernel
theorem dX3_renewValue_50 : decode cX3_renewValue 50 = .ok (.invokevirtual 104, 3) := by decide +kernel
theorem dX3_renewValue_53 : decode cX3_renewValue 53 = .ok (.return_, 1) := by decide +kernel
set_option maxRecDepth 20000 in
theorem ggX3_fillDrawn_X2_empty : GoodIn wsX3_fillDrawn wsX2_empty := goodIn_r _ [11, 12, 135, 136] (by decide +kernel) (by decide +kernel)
set_option maxRecDepth 20000 in
theorem gX3_fillDrawn_X2_empty : GoodIn wsX3_fillDrawn (wsV RX3 67 RX2 yX2_empty wsX2_empty) := goodIn_app (goodIn_of _ (by decide +kernel)) ggX3_fillDrawn_X2_empty
set_option maxRecDepth 20000 in
theorem ggX3_fillDrawn_X3_renewValue : GoodIn wsX3_fillDrawn wsX3_renewValue := goodIn_r _ [17, 18, 2, 19, 20, 7, 8, 9, 10, 11, 12, 21, 22, 23, 24, 25, 4, 5, 6, 26, 27, 28, 29, 30, 31, 32, 33, 34, 35, 36, 37, 38, 39, 40, 41, 42, 43, 44, 45, 46, 47, 48, 49, 50, 51, 52, 53, 54, 55, 56, 57, 58, 59, 60, 61, 62, 63, 64, 65, 66, 67, 68, 69, 70, 71, 72, 73, 74, 75, 76, 77, 78, 79, 80, 81, 82, 83, 84, 85, 86, 87, 88, 89, 90, 91, 92, 93, 94, 95, 96, 97, 98, 99, 100, 101, 102, 103, 104, 105, 106, 107, 108, 109, 110, 111, 112, 113, 114, 115, 116, 117, 118, 119, 120, 121, 122, 123, 124, 125, 126, 127, 128, 129, 130, 131, 132, 133, 134, 135, 136, 137, 138, 139, 140, 141, 142] (by decide +kernel) (by decide +kernel)
set_option maxRecDepth 20000 in
theorem gX3_fillDrawn_X3_renewValue : GoodIn wsX3_fillDrawn (wsV RX3 112 RX3 yX3_renewValue wsX3_renewValue) := goodIn_app (goodIn_of _ (by decide +kernel)) ggX3_fillDrawn_X3_renewValue
set_option maxRecDepth 20000 in
theorem ggX3_fillDrawn_X2_append : GoodIn wsX3_fillDrawn wsX2_append := goodIn_r _ [24, 12, 25, 4, 5, 6, 26, 27, 28, 29, 10, 30, 135, 136] (by decide +kernel) (by decide +kernel)
set_option maxRecDepth 20000 in
theorem gX3_fillDrawn_X2_append : GoodIn wsX3_fillDrawn (wsV RX3 97 RX2 yX2_append wsX2_append) := goodIn_app (goodIn_of _ (by decide +kernel)) ggX3_fillDrawn_X2_append
theorem dX3_fillDrawn_0 : decode cX3_fillDrawn 0 = .ok (.aload_n 0, 1) := by decide +kernel
theorem dX3_fillDrawn_1 : decode cX3_fillDrawn 1 = .ok (.getfield 21, 3) := by decide +kernel
theorem dX3_fillDrawn_4 : decode cX3_fillDrawn 4 = .ok (.invokevirtual 67, 3) := by decide +kernel
theorem dX3_fillDrawn_7 : decode cX3_fillDrawn 7 = .ok (.iconst 0, 1) := by decide +kernel
theorem dX3_fillDrawn_8 : decode cX3_fillDrawn 8 = .ok (.istore_n 2, 1) := by decide +kernel
theorem dX3_fillDrawn_9 : decode cX3_fillDrawn 9 = .ok (.iload_n 2, 1) := by decide +kernel
theorem dX3_fillDrawn_10 : decode cX3_fillDrawn 10 = .ok (.iload_n 1, 1) := by decide +kernel
theorem dX3_fillDrawn_11 : decode cX3_fillDrawn 11 = .ok (.if_icmp .ge 32, 3) := by decide +kernel
theorem dX3_fillDrawn_14 : decode cX3_fillDrawn 14 = .ok (.aload_n 0, 1) := by decide +kernel
theorem dX3_fillDrawn_15 : decode cX3_fillDrawn 15 = .ok (.invokevirtual 112, 3) := by decide +kernel
theorem dX3_fillDrawn_18 : decode cX3_fillDrawn 18 = .ok (.aload_n 0, 1) := by decide +kernel
theorem dX3_fillDrawn_19 : decode cX3_fillDrawn 19 = .ok (.getfield 21, 3) := by decide +kernel
theorem dX3_fillDrawn_22 : decode cX3_fillDrawn 22 = .ok (.aload_n 0, 1) := by decide +kernel
theorem dX3_fillDrawn_23 : decode cX3_fillDrawn 23 = .ok (.getfield 27, 3) := by decide +kernel
theorem dX3_fillDrawn_26 : decode cX3_fillDrawn 26 = .ok (.bipush 32, 2) := by decide +kernel
theorem dX3_fillDrawn_28 : decode cX3_fillDrawn 28 = .ok (.iload_n 1, 1) := by decide +kernel
theorem dX3_fillDrawn_29 : decode cX3_fillDrawn 29 = .ok (.iload_n 2, 1) := by decide +kernel
theorem dX3_fillDrawn_30 : decode cX3_fillDrawn 30 = .ok (.isub, 1) := by decide +kernel
theorem dX3_fillDrawn_31 : decode cX3_fillDrawn 31 = .ok (.invokestatic 115, 3) := by decide +kernel
theorem dX3_fillDrawn_34 : decode cX3_fillDrawn 34 = .ok (.invokevirtual 97, 3) := by decide +kernel
theorem dX3_fillDrawn_37 : decode cX3_fillDrawn 37 = .ok (.iinc 2 32, 3) := by decide +kernel
theorem dX3_fillDrawn_40 : decode cX3_fillDrawn 40 = .ok (.goto (-31), 3) := by decide +kernel
theorem dX3_fillDrawn_43 : decode cX3_fillDrawn 43 = .ok (.return_, 1) := by decide +kernel
