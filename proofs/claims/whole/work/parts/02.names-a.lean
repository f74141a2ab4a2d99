set_option maxRecDepth 20000 in
theorem ggX0_init_X2_init : GoodIn wsX0_init wsX2_init := goodIn_r _ [13, 14, 2, 3, 15, 8, 16, 17, 18] (by decide +kernel) (by decide +kernel)
set_option maxRecDepth 20000 in
theorem gX0_init_X2_init : GoodIn wsX0_init (wsX2_init) := ggX0_init_X2_init
theorem dX0_init_0 : decode cX0_init 0 = .ok (.aload_n 0, 1) := by decide +kernel
theorem dX0_init_1 : decode cX0_init 1 = .ok (.invokespecial 3, 3) := by decide +kernel
theorem dX0_init_4 : decode cX0_init 4 = .ok (.aload_n 0, 1) := by decide +kernel
theorem dX0_init_5 : decode cX0_init 5 = .ok (.new 9, 3) := by decide +kernel
theorem dX0_init_8 : decode cX0_init 8 = .ok (.dup, 1) := by decide +kernel
theorem dX0_init_9 : decode cX0_init 9 = .ok (.sipush 448, 3) := by decide +kernel
theorem dX0_init_12 : decode cX0_init 12 = .ok (.invokespecial 11, 3) := by decide +kernel
theorem dX0_init_15 : decode cX0_init 15 = .ok (.putfield 14, 3) := by decide +kernel
theorem dX0_init_18 : decode cX0_init 18 = .ok (.aload_n 0, 1) := by decide +kernel
theorem dX0_init_19 : decode cX0_init 19 = .ok (.bipush 64, 2) := by decide +kernel
theorem dX0_init_21 : decode cX0_init 21 = .ok (.newarray .int, 2) := by decide +kernel
theorem dX0_init_23 : decode cX0_init 23 = .ok (.putfield 20, 3) := by decide +kernel
theorem dX0_init_26 : decode cX0_init 26 = .ok (.aload_n 0, 1) := by decide +kernel
theorem dX0_init_27 : decode cX0_init 27 = .ok (.bipush 8, 2) := by decide +kernel
theorem dX0_init_29 : decode cX0_init 29 = .ok (.newarray .int, 2) := by decide +kernel
theorem dX0_init_31 : decode cX0_init 31 = .ok (.putfield 24, 3) := by decide +kernel
theorem dX0_init_34 : decode cX0_init 34 = .ok (.return_, 1) := by decide +kernel
set_option maxRecDepth 20000 in
theorem ggX0_begin_X2_empty : GoodIn wsX0_begin wsX2_empty := goodIn_r _ [6, 7, 11, 12] (by decide +kernel) (by decide +kernel)
set_option maxRecDepth 20000 in
theorem gX0_begin_X2_empty : GoodIn wsX0_begin (wsV RX0 27 RX2 yX2_empty wsX2_empty) := goodIn_app (goodIn_of _ (by decide +kernel)) ggX0_begin_X2_empty
theorem dX0_begin_0 : decode cX0_begin 0 = .ok (.aload_n 0, 1) := by decide +kernel
theorem dX0_begin_1 : decode cX0_begin 1 = .ok (.getfield 14, 3) := by decide +kernel
theorem dX0_begin_4 : decode cX0_begin 4 = .ok (.invokevirtual 27, 3) := by decide +kernel
theorem dX0_begin_7 : decode cX0_begin 7 = .ok (.return_, 1) := by decide +kernel
set_option maxRecDepth 20000 in
theorem ggX0_add_X2_size : GoodIn wsX0_add wsX2_size := goodIn_r _ [6, 7, 24, 25] (by decide +kernel) (by decide +kernel)
set_option maxRecDepth 20000 in
theorem gX0_add_X2_size : GoodIn wsX0_add (wsV RX0 30 RX2 yX2_size wsX2_size) := goodIn_app (goodIn_of _ (by decide +kernel)) ggX0_add_X2_size
set_option maxRecDepth 20000 in
theorem ggX0_add_X2_append : GoodIn wsX0_add wsX2_append := goodIn_r _ [11, 7, 12, 13, 14, 15, 16, 17, 18, 19, 5, 20, 24, 25] (by decide +kernel) (by decide +kernel)
set_option maxRecDepth 20000 in
theorem gX0_add_X2_append : GoodIn wsX0_add (wsV RX0 34 RX2 yX2_append wsX2_append) := goodIn_app (goodIn_of _ (by decide +kernel)) ggX0_add_X2_append
theorem dX0_add_0 : decode cX0_add 0 = .ok (.aload_n 0, 1) := by decide +kernel
theorem dX0_add_1 : decode cX0_add 1 = .ok (.getfield 14, 3) := by decide +kernel
theorem dX0_add_4 : decode cX0_add 4 = .ok (.aload_n 1, 1) := by decide +kernel
theorem dX0_add_5 : decode cX0_add 5 = .ok (.aload_n 1, 1) := by decide +kernel
theorem dX0_add_6 : decode cX0_add 6 = .ok (.invokevirtual 30, 3) := by decide +kernel
theorem dX0_add_9 : decode cX0_add 9 = .ok (.invokevirtual 34, 3) := by decide +kernel
theorem dX0_add_12 : decode cX0_add 12 = .ok (.return_, 1) := by decide +kernel
set_option maxRecDepth 20000 in
theorem ggX0_addXor_X2_appendXor : GoodIn wsX0_addXor wsX2_appendXor := goodIn_r _ [6, 7, 8, 9, 10, 11, 5, 12, 16, 17] (by decide +kernel) (by decide +kernel)
set_option maxRecDepth 20000 in
theorem gX0_addXor_X2_appendXor : GoodIn wsX0_addXor (wsV RX0 38 RX2 yX2_appendXor wsX2_appendXor) := goodIn_app (goodIn_of _ (by decide +kernel)) ggX0_addXor_X2_appendXor
theorem dX0_addXor_0 : decode cX0_addXor 0 = .ok (.aload_n 0, 1) := by decide +kernel
theorem dX0_addXor_1 : decode cX0_addXor 1 = .ok (.getfield 14, 3) := by decide +kernel
theorem dX0_addXor_4 : decode cX0_addXor 4 = .ok (.aload_n 1, 1) := by decide +kernel
theorem dX0_addXor_5 : decode cX0_addXor 5 = .ok (.iload_n 2, 1) := by decide +kernel
theorem dX0_addXor_6 : decode cX0_addXor 6 = .ok (.invokevirtual 38, 3) := by decide +kernel
theorem dX0_addXor_9 : decode cX0_addXor 9 = .ok (.return_, 1) := by decide +kernel
set_option maxRecDepth 20000 in
theorem ggX0_addByte_X2_put : GoodIn wsX0_addByte wsX2_put := goodIn_r _ [6, 7, 8, 12, 13] (by decide +kernel) (by decide +kernel)
set_option maxRecDepth 20000 in
theorem gX0_addByte_X2_put : GoodIn wsX0_addByte (wsV RX0 41 RX2 yX2_put wsX2_put) := goodIn_app (goodIn_of _ (by decide +kernel)) ggX0_addByte_X2_put
theorem dX0_addByte_0 : decode cX0_addByte 0 = .ok (.aload_n 0, 1) := by decide +kernel
theorem dX0_addByte_1 : decode cX0_addByte 1 = .ok (.getfield 14, 3) := by decide +kernel
theorem dX0_addByte_4 : decode cX0_addByte 4 = .ok (.iload_n 1, 1) := by decide +kernel
theorem dX0_addByte_5 : decode cX0_addByte 5 = .ok (.invokevirtual 41, 3) := by decide +kernel
theorem dX0_addByte_8 : decode cX0_addByte 8 = .ok (.return_, 1) := by decide +kernel
set_option maxRecDepth 20000 in
theorem ggX0_end_X0_pad : GoodIn wsX0_end wsX0_pad := goodIn_r _ [12, 7, 13, 14, 15, 16, 17, 18, 19, 20, 21, 22, 23, 24, 25, 26, 27, 28, 29, 30, 31, 32, 62, 63, 64, 65, 66] (by decide +kernel) (by decide +kernel)
set_option maxRecDepth 20000 in
theorem gX0_end_X0_pad : GoodIn wsX0_end (wsV RX0 44 RX0 yX0_pad wsX0_pad) := goodIn_app (goodIn_of _ (by decide +kernel)) ggX0_end_X0_pad
set_option maxRecDepth 20000 in
theorem ggX0_end_X2_size : GoodIn wsX0_end wsX2_size := goodIn_r _ [17, 18, 65, 66] (by decide +kernel) (by decide +kernel)
set_option maxRecDepth 20000 in
theorem gX0_end_X2_size : GoodIn wsX0_end (wsV RX0 30 RX2 yX2_size wsX2_size) := goodIn_app (goodIn_of _ (by decide +kernel)) ggX0_end_X2_size
set_option maxRecDepth 20000 in
theorem ggX0_end_X0_spread : GoodIn wsX0_end wsX0_spread := goodIn_r _ [36, 37, 7, 38, 39, 40, 16, 41, 42, 43, 44, 45, 18, 23, 46, 47, 48, 49, 62, 63, 64, 65, 66] (by decide +kernel) (by decide +kernel)
set_option maxRecDepth 20000 in
theorem gX0_end_X0_spread : GoodIn wsX0_end (wsV RX0 56 RX0 yX0_spread wsX0_spread) := goodIn_app (goodIn_of _ (by decide +kernel)) ggX0_end_X0_spread
set_option maxRecDepth 20000 in
theorem ggX0_end_X0_mix : GoodIn wsX0_end wsX0_mix := goodIn_r _ [53, 2, 54, 37, 55, 56, 11, 57, 46, 47, 48, 49, 62, 63, 64] (by decide +kernel) (by decide +kernel)
set_option maxRecDepth 20000 in
theorem gX0_end_X0_mix : GoodIn wsX0_end (wsV RX0 59 RX0 yX0_mix wsX0_mix) := goodIn_app (goodIn_of _ (by decide +kernel)) ggX0_end_X0_mix
set_option maxRecDepth 20000 in
theorem ggX0_end_X2_empty : GoodIn wsX0_end wsX2_empty := goodIn_r _ [61, 18, 65, 66] (by decide +kernel) (by decide +kernel)
set_option maxRecDepth 20000 in
theorem gX0_end_X2_empty : GoodIn wsX0_end (wsV RX0 27 RX2 yX2_empty wsX2_empty) := goodIn_app (goodIn_of _ (by decide +kernel)) ggX0_end_X2_empty
set_option maxRecDepth 20000 in
theorem ggX0_end_X2_putWord : GoodIn wsX0_end wsX2_putWord := goodIn_r _ [31, 32, 20, 21, 16, 22, 18, 23, 65, 66] (by decide +kernel) (by decide +kernel)
set_option maxRecDepth 20000 in
theorem gX0_end_X2_putWord : GoodIn wsX0_end (wsV RX0 62 RX2 yX2_putWord wsX2_putWord) := goodIn_app (goodIn_of _ (by decide +kernel)) ggX0_end_X2_putWord
theorem dX0_end_0 : decode cX0_end 0 = .ok (.aload_n 0, 1) := by decide +kernel
theorem dX0_end_1 : decode cX0_end 1 = .ok (.invokevirtual 44, 3) := by decide +kernel
theorem dX0_end_4 : decode cX0_end 4 = .ok (.getstatic 47, 3) := by decide +kernel
theorem dX0_end_7 : decode cX0_end 7 = .ok (.iconst 0, 1) := by decide +kernel
theorem dX0_end_8 : decode cX0_end 8 = .ok (.aload_n 0, 1) := by decide +kernel
theorem dX0_end_9 : decode cX0_end 9 = .ok (.getfield 24, 3) := by decide +kernel
theorem dX0_end_12 : decode cX0_end 12 = .ok (.iconst 0, 1) := by decide +kernel
theorem dX0_end_13 : decode cX0_end 13 = .ok (.bipush 8, 2) := by decide +kernel
theorem dX0_end_15 : decode cX0_end 15 = .ok (.invokestatic 50, 3) := by decide +kernel
theorem dX0_end_18 : decode cX0_end 18 = .ok (.iconst 0, 1) := by decide +kernel
theorem dX0_end_19 : decode cX0_end 19 = .ok (.istore_n 2, 1) := by decide +kernel
theorem dX0_end_20 : decode cX0_end 20 = .ok (.iload_n 2, 1) := by decide +kernel
theorem dX0_end_21 : decode cX0_end 21 = .ok (.aload_n 0, 1) := by decide +kernel
theorem dX0_end_22 : decode cX0_end 22 = .ok (.getfield 14, 3) := by decide +kernel
theorem dX0_end_25 : decode cX0_end 25 = .ok (.invokevirtual 30, 3) := by decide +kernel
theorem dX0_end_28 : decode cX0_end 28 = .ok (.if_icmp .ge 18, 3) := by decide +kernel
theorem dX0_end_31 : decode cX0_end 31 = .ok (.aload_n 0, 1) := by decide +kernel
theorem dX0_end_32 : decode cX0_end 32 = .ok (.iload_n 2, 1) := by decide +kernel
theorem dX0_end_33 : decode cX0_end 33 = .ok (.invokevirtual 56, 3) := by decide +kernel
theorem dX0_end_36 : decode cX0_end 36 = .ok (.aload_n 0, 1) := by decide +kernel
theorem dX0_end_37 : decode cX0_end 37 = .ok (.invokevirtual 59, 3) := by decide +kernel
theorem dX0_end_40 : decode cX0_end 40 = .ok (.iinc 2 64, 3) := by decide +kernel
theorem dX0_end_43 : decode cX0_end 43 = .ok (.goto (-23), 3) := by decide +kernel
theorem dX0_end_46 : decode cX0_end 46 = .ok (.aload_n 1, 1) := by decide +kernel
theorem dX0_end_47 : decode cX0_end 47 = .ok (.invokevirtual 27, 3) := by decide +kernel
theorem dX0_end_50 : decode cX0_end 50 = .ok (.iconst 0, 1) := by decide +kernel
theorem dX0_end_51 : decode cX0_end 51 = .ok (.istore_n 2, 1) := by decide +kernel
theorem dX0_end_52 : decode cX0_end 52 = .ok (.iload_n 2, 1) := by decide +kernel
theorem dX0_end_53 : decode cX0_end 53 = .ok (.bipush 8, 2) := by decide +kernel
theorem dX0_end_55 : decode cX0_end 55 = .ok (.if_icmp .ge 19, 3) := by decide +kernel
theorem dX0_end_58 : decode cX0_end 58 = .ok (.aload_n 1, 1) := by decide +kernel
theorem dX0_end_59 : decode cX0_end 59 = .ok (.aload_n 0, 1) := by decide +kernel
theorem dX0_end_60 : decode cX0_end 60 = .ok (.getfield 24, 3) := by decide +kernel
theorem dX0_end_63 : decode cX0_end 63 = .ok (.iload_n 2, 1) := by decide +kernel
theorem dX0_end_64 : decode cX0_end 64 = .ok (.iaload, 1) := by decide +kernel
theorem dX0_end_65 : decode cX0_end 65 = .ok (.invokevirtual 62, 3) := by decide +kernel
theorem dX0_end_68 : decode cX0_end 68 = .ok (.iinc 2 1, 3) := by decide +kernel
theorem dX0_end_71 : decode cX0_end 71 = .ok (.goto (-19), 3) := by decide +kernel
theorem dX0_end_74 : decode cX0_end 74 = .ok (.return_, 1) := by decide +kernel
set_option maxRecDepth 20000 in
theorem ggX0_pad_X2_size : GoodIn wsX0_pad wsX2_size := goodIn_r _ [6, 7, 25, 26] (by decide +kernel) (by decide +kernel)
set_option maxRecDepth 20000 in
theorem gX0_pad_X2_size : GoodIn wsX0_pad (wsV RX0 30 RX2 yX2_size wsX2_size) := goodIn_app (goodIn_of _ (by decide +kernel)) ggX0_pad_X2_size
set_option maxRecDepth 20000 in
theorem ggX0_pad_X2_put : GoodIn wsX0_pad wsX2_put := goodIn_r _ [11, 7, 12, 25, 26] (by decide +kernel) (by decide +kernel)
set_option maxRecDepth 20000 in
theorem gX0_pad_X2_put : GoodIn wsX0_pad (wsV RX0 41 RX2 yX2_put wsX2_put) := goodIn_app (goodIn_of _ (by decide +kernel)) ggX0_pad_X2_put
set_option maxRecDepth 20000 in
theorem ggX0_pad_J9_floorMod_7cf53 : GoodIn wsX0_pad wsJ9_floorMod_7cf53 := goodIn_r _ [16] (by decide +kernel) (by decide +kernel)
set_option maxRecDepth 20000 in
theorem gX0_pad_J9_floorMod_7cf53 : GoodIn wsX0_pad (va_wsS RX0 65 yJ9_floorMod_7cf53 wsJ9_floorMod_7cf53) := goodIn_app (goodIn_of _ (by decide +kernel)) ggX0_pad_J9_floorMod_7cf53
set_option maxRecDepth 20000 in
theorem ggX0_pad_X2_putWord : GoodIn wsX0_pad wsX2_putWord := goodIn_r _ [20, 21, 9, 10, 5, 11, 7, 12, 25, 26] (by decide +kernel) (by decide +kernel)
set_option maxRecDepth 20000 in
theorem gX0_pad_X2_putWord : GoodIn wsX0_pad (wsV RX0 62 RX2 yX2_putWord wsX2_putWord) := goodIn_app (goodIn_of _ (by decide +kernel)) ggX0_pad_X2_putWord
theorem dX0_pad_0 : decode cX0_pad 0 = .ok (.aload_n 0, 1) := by decide +kernel
theorem dX0_pad_1 : decode cX0_pad 1 = .ok (.getfield 14, 3) := by decide +kernel
theorem dX0_pad_4 : decode cX0_pad 4 = .ok (.invokevirtual 30, 3) := by decide +kernel
theorem dX0_pad_7 : decode cX0_pad 7 = .ok (.bipush 8, 2) := by decide +kernel
theorem dX0_pad_9 : decode cX0_pad 9 = .ok (.imul, 1) := by decide +kernel
theorem dX0_pad_10 : decode cX0_pad 10 = .ok (.istore_n 1, 1) := by decide +kernel
theorem dX0_pad_11 : decode cX0_pad 11 = .ok (.aload_n 0, 1) := by decide +kernel
theorem dX0_pad_12 : decode cX0_pad 12 = .ok (.getfield 14, 3) := by decide +kernel
theorem dX0_pad_15 : decode cX0_pad 15 = .ok (.sipush 128, 3) := by decide +kernel
theorem dX0_pad_18 : decode cX0_pad 18 = .ok (.invokevirtual 41, 3) := by decide +kernel
theorem dX0_pad_21 : decode cX0_pad 21 = .ok (.bipush 56, 2) := by decide +kernel
theorem dX0_pad_23 : decode cX0_pad 23 = .ok (.aload_n 0, 1) := by decide +kernel
theorem dX0_pad_24 : decode cX0_pad 24 = .ok (.getfield 14, 3) := by decide +kernel
theorem dX0_pad_27 : decode cX0_pad 27 = .ok (.invokevirtual 30, 3) := by decide +kernel
theorem dX0_pad_30 : decode cX0_pad 30 = .ok (.isub, 1) := by decide +kernel
theorem dX0_pad_31 : decode cX0_pad 31 = .ok (.bipush 64, 2) := by decide +kernel
theorem dX0_pad_33 : decode cX0_pad 33 = .ok (.invokestatic 65, 3) := by decide +kernel
theorem dX0_pad_36 : decode cX0_pad 36 = .ok (.istore_n 2, 1) := by decide +kernel
theorem dX0_pad_37 : decode cX0_pad 37 = .ok (.iconst 0, 1) := by decide +kernel
theorem dX0_pad_38 : decode cX0_pad 38 = .ok (.istore_n 3, 1) := by decide +kernel
theorem dX0_pad_39 : decode cX0_pad 39 = .ok (.iload_n 3, 1) := by decide +kernel
theorem dX0_pad_40 : decode cX0_pad 40 = .ok (.iload_n 2, 1) := by decide +kernel
theorem dX0_pad_41 : decode cX0_pad 41 = .ok (.if_icmp .ge 17, 3) := by decide +kernel
theorem dX0_pad_44 : decode cX0_pad 44 = .ok (.aload_n 0, 1) := by decide +kernel
theorem dX0_pad_45 : decode cX0_pad 45 = .ok (.getfield 14, 3) := by decide +kernel
theorem dX0_pad_48 : decode cX0_pad 48 = .ok (.iconst 0, 1) := by decide +kernel
theorem dX0_pad_49 : decode cX0_pad 49 = .ok (.invokevirtual 41, 3) := by decide +kernel
theorem dX0_pad_52 : decode cX0_pad 52 = .ok (.iinc 3 1, 3) := by decide +kernel
theorem dX0_pad_55 : decode cX0_pad 55 = .ok (.goto (-16), 3) := by decide +kernel
theorem dX0_pad_58 : decode cX0_pad 58 = .ok (.aload_n 0, 1) := by decide +kernel
theorem dX0_pad_59 : decode cX0_pad 59 = .ok (.getfield 14, 3) := by decide +kernel
theorem dX0_pad_62 : decode cX0_pad 62 = .ok (.iconst 0, 1) := by decide +kernel
theorem dX0_pad_63 : decode cX0_pad 63 = .ok (.invokevirtual 62, 3) := by decide +kernel
theorem dX0_pad_66 : decode cX0_pad 66 = .ok (.aload_n 0, 1) := by decide +kernel
theorem dX0_pad_67 : decode cX0_pad 67 = .ok (.getfield 14, 3) := by decide +kernel
theorem dX0_pad_70 : decode cX0_pad 70 = .ok (.iload_n 1, 1) := by decide +kernel
theorem dX0_pad_71 : decode cX0_pad 71 = .ok (.invokevirtual 62, 3) := by decide +kernel
theorem dX0_pad_74 : decode cX0_pad 74 = .ok (.return_, 1) := by decide +kernel
set_option maxRecDepth 20000 in
theorem ggX0_spread_X2_wordAt : GoodIn wsX0_spread wsX2_wordAt := goodIn_r _ [7, 8, 9, 10, 6, 11, 12, 13, 21, 22] (by decide +kernel) (by decide +kernel)
set_option maxRecDepth 20000 in
theorem gX0_spread_X2_wordAt : GoodIn wsX0_spread (wsV RX0 71 RX2 yX2_wordAt wsX2_wordAt) := goodIn_app (goodIn_of _ (by decide +kernel)) ggX0_spread_X2_wordAt
set_option maxRecDepth 20000 in
theorem ggX0_spread_J6_rotateRight_7cf53 : GoodIn wsX0_spread wsJ6_rotateRight_7cf53 := goodIn_r _ [17] (by decide +kernel) (by decide +kernel)
set_option maxRecDepth 20000 in
theorem gX0_spread_J6_rotateRight_7cf53 : GoodIn wsX0_spread (va_wsS RX0 75 yJ6_rotateRight_7cf53 wsJ6_rotateRight_7cf53) := goodIn_app (goodIn_of _ (by decide +kernel)) ggX0_spread_J6_rotateRight_7cf53
theorem dX0_spread_0 : decode cX0_spread 0 = .ok (.iconst 0, 1) := by decide +kernel
theorem dX0_spread_1 : decode cX0_spread 1 = .ok (.istore_n 2, 1) := by decide +kernel
theorem dX0_spread_2 : decode cX0_spread 2 = .ok (.iload_n 2, 1) := by decide +kernel
theorem dX0_spread_3 : decode cX0_spread 3 = .ok (.bipush 16, 2) := by decide +kernel
theorem dX0_spread_5 : decode cX0_spread 5 = .ok (.if_icmp .ge 27, 3) := by decide +kernel
theorem dX0_spread_8 : decode cX0_spread 8 = .ok (.aload_n 0, 1) := by decide +kernel
theorem dX0_spread_9 : decode cX0_spread 9 = .ok (.getfield 20, 3) := by decide +kernel
theorem dX0_spread_12 : decode cX0_spread 12 = .ok (.iload_n 2, 1) := by decide +kernel
theorem dX0_spread_13 : decode cX0_spread 13 = .ok (.aload_n 0, 1) := by decide +kernel
theorem dX0_spread_14 : decode cX0_spread 14 = .ok (.getfield 14, 3) := by decide +kernel
theorem dX0_spread_17 : decode cX0_spread 17 = .ok (.iload_n 1, 1) := by decide +kernel
theorem dX0_spread_18 : decode cX0_spread 18 = .ok (.iconst 4, 1) := by decide +kernel
theorem dX0_spread_19 : decode cX0_spread 19 = .ok (.iload_n 2, 1) := by decide +kernel
theorem dX0_spread_20 : decode cX0_spread 20 = .ok (.imul, 1) := by decide +kernel
theorem dX0_spread_21 : decode cX0_spread 21 = .ok (.iadd, 1) := by decide +kernel
theorem dX0_spread_22 : decode cX0_spread 22 = .ok (.invokevirtual 71, 3) := by decide +kernel
theorem dX0_spread_25 : decode cX0_spread 25 = .ok (.iastore, 1) := by decide +kernel
theorem dX0_spread_26 : decode cX0_spread 26 = .ok (.iinc 2 1, 3) := by decide +kernel
theorem dX0_spread_29 : decode cX0_spread 29 = .ok (.goto (-27), 3) := by decide +kernel
theorem dX0_spread_32 : decode cX0_spread 32 = .ok (.bipush 16, 2) := by decide +kernel
theorem dX0_spread_34 : decode cX0_spread 34 = .ok (.istore_n 2, 1) := by decide +kernel
theorem dX0_spread_35 : decode cX0_spread 35 = .ok (.iload_n 2, 1) := by decide +kernel
theorem dX0_spread_36 : decode cX0_spread 36 = .ok (.bipush 64, 2) := by decide +kernel
theorem dX0_spread_38 : decode cX0_spread 38 = .ok (.if_icmp .ge 102, 3) := by decide +kernel
theorem dX0_spread_41 : decode cX0_spread 41 = .ok (.aload_n 0, 1) := by decide +kernel
theorem dX0_spread_42 : decode cX0_spread 42 = .ok (.getfield 20, 3) := by decide +kernel
theorem dX0_spread_45 : decode cX0_spread 45 = .ok (.iload_n 2, 1) := by decide +kernel
theorem dX0_spread_46 : decode cX0_spread 46 = .ok (.bipush 15, 2) := by decide +kernel
theorem dX0_spread_48 : decode cX0_spread 48 = .ok (.isub, 1) := by decide +kernel
theorem dX0_spread_49 : decode cX0_spread 49 = .ok (.iaload, 1) := by decide +kernel
theorem dX0_spread_50 : decode cX0_spread 50 = .ok (.istore_n 3, 1) := by decide +kernel
theorem dX0_spread_51 : decode cX0_spread 51 = .ok (.aload_n 0, 1) := by decide +kernel
theorem dX0_spread_52 : decode cX0_spread 52 = .ok (.getfield 20, 3) := by decide +kernel
theorem dX0_spread_55 : decode cX0_spread 55 = .ok (.iload_n 2, 1) := by decide +kernel
theorem dX0_spread_56 : decode cX0_spread 56 = .ok (.iconst 2, 1) := by decide +kernel
theorem dX0_spread_57 : decode cX0_spread 57 = .ok (.isub, 1) := by decide +kernel
theorem dX0_spread_58 : decode cX0_spread 58 = .ok (.iaload, 1) := by decide +kernel
theorem dX0_spread_59 : decode cX0_spread 59 = .ok (.istore 4, 2) := by decide +kernel
theorem dX0_spread_61 : decode cX0_spread 61 = .ok (.iload_n 3, 1) := by decide +kernel
theorem dX0_spread_62 : decode cX0_spread 62 = .ok (.bipush 7, 2) := by decide +kernel
theorem dX0_spread_64 : decode cX0_spread 64 = .ok (.invokestatic 75, 3) := by decide +kernel
theorem dX0_spread_67 : decode cX0_spread 67 = .ok (.iload_n 3, 1) := by decide +kernel
theorem dX0_spread_68 : decode cX0_spread 68 = .ok (.bipush 18, 2) := by decide +kernel
theorem dX0_spread_70 : decode cX0_spread 70 = .ok (.invokestatic 75, 3) := by decide +kernel
theorem dX0_spread_73 : decode cX0_spread 73 = .ok (.ixor, 1) := by decide +kernel
theorem dX0_spread_74 : decode cX0_spread 74 = .ok (.iload_n 3, 1) := by decide +kernel
theorem dX0_spread_75 : decode cX0_spread 75 = .ok (.iconst 3, 1) := by decide +kernel
theorem dX0_spread_76 : decode cX0_spread 76 = .ok (.iushr, 1) := by decide +kernel
theorem dX0_spread_77 : decode cX0_spread 77 = .ok (.ixor, 1) := by decide +kernel
theorem dX0_spread_78 : decode cX0_spread 78 = .ok (.istore 5, 2) := by decide +kernel
theorem dX0_spread_80 : decode cX0_spread 80 = .ok (.iload 4, 2) := by decide +kernel
theorem dX0_spread_82 : decode cX0_spread 82 = .ok (.bipush 17, 2) := by decide +kernel
theorem dX0_spread_84 : decode cX0_spread 84 = .ok (.invokestatic 75, 3) := by decide +kernel
theorem dX0_spread_87 : decode cX0_spread 87 = .ok (.iload 4, 2) := by decide +kernel
theorem dX0_spread_89 : decode cX0_spread 89 = .ok (.bipush 19, 2) := by decide +kernel
theorem dX0_spread_91 : decode cX0_spread 91 = .ok (.invokestatic 75, 3) := by decide +kernel
theorem dX0_spread_94 : decode cX0_spread 94 = .ok (.ixor, 1) := by decide +kernel
theorem dX0_spread_95 : decode cX0_spread 95 = .ok (.iload 4, 2) := by decide +kernel
theorem dX0_spread_97 : decode cX0_spread 97 = .ok (.bipush 10, 2) := by decide +kernel
theorem dX0_spread_99 : decode cX0_spread 99 = .ok (.iushr, 1) := by decide +kernel
theorem dX0_spread_100 : decode cX0_spread 100 = .ok (.ixor, 1) := by decide +kernel
theorem dX0_spread_101 : decode cX0_spread 101 = .ok (.istore 6, 2) := by decide +kernel
theorem dX0_spread_103 : decode cX0_spread 103 = .ok (.aload_n 0, 1) := by decide +kernel
theorem dX0_spread_104 : decode cX0_spread 104 = .ok (.getfield 20, 3) := by decide +kernel
theorem dX0_spread_107 : decode cX0_spread 107 = .ok (.iload_n 2, 1) := by decide +kernel
theorem dX0_spread_108 : decode cX0_spread 108 = .ok (.aload_n 0, 1) := by decide +kernel
theorem dX0_spread_109 : decode cX0_spread 109 = .ok (.getfield 20, 3) := by decide +kernel
theorem dX0_spread_112 : decode cX0_spread 112 = .ok (.iload_n 2, 1) := by decide +kernel
theorem dX0_spread_113 : decode cX0_spread 113 = .ok (.bipush 16, 2) := by decide +kernel
theorem dX0_spread_115 : decode cX0_spread 115 = .ok (.isub, 1) := by decide +kernel
theorem dX0_spread_116 : decode cX0_spread 116 = .ok (.iaload, 1) := by decide +kernel
theorem dX0_spread_117 : decode cX0_spread 117 = .ok (.iload 5, 2) := by decide +kernel
theorem dX0_spread_119 : decode cX0_spread 119 = .ok (.iadd, 1) := by decide +kernel
theorem dX0_spread_120 : decode cX0_spread 120 = .ok (.aload_n 0, 1) := by decide +kernel
theorem dX0_spread_121 : decode cX0_spread 121 = .ok (.getfield 20, 3) := by decide +kernel
theorem dX0_spread_124 : decode cX0_spread 124 = .ok (.iload_n 2, 1) := by decide +kernel
theorem dX0_spread_125 : decode cX0_spread 125 = .ok (.bipush 7, 2) := by decide +kernel
theorem dX0_spread_127 : decode cX0_spread 127 = .ok (.isub, 1) := by decide +kernel
theorem dX0_spread_128 : decode cX0_spread 128 = .ok (.iaload, 1) := by decide +kernel
theorem dX0_spread_129 : decode cX0_spread 129 = .ok (.iadd, 1) := by decide +kernel
theorem dX0_spread_130 : decode cX0_spread 130 = .ok (.iload 6, 2) := by decide +kernel
theorem dX0_spread_132 : decode cX0_spread 132 = .ok (.iadd, 1) := by decide +kernel
theorem dX0_spread_133 : decode cX0_spread 133 = .ok (.iastore, 1) := by decide +kernel
theorem dX0_spread_134 : decode cX0_spread 134 = .ok (.iinc 2 1, 3) := by decide +kernel
theorem dX0_spread_137 : decode cX0_spread 137 = .ok (.goto (-102), 3) := by decide +kernel
theorem dX0_spread_140 : decode cX0_spread 140 = .ok (.return_, 1) := by decide +kernel
set_option maxRecDepth 20000 in
theorem ggX0_mix_X0_highSum : GoodIn wsX0_mix wsX0_highSum := goodIn_r _ [7, 8, 9, 10, 11] (by decide +kernel) (by decide +kernel)
set_option maxRecDepth 20000 in
theorem gX0_mix_X0_highSum : GoodIn wsX0_mix (va_wsS RX0 80 yX0_highSum wsX0_highSum) := goodIn_app (goodIn_of _ (by decide +kernel)) ggX0_mix_X0_highSum
theorem dX0_mix_0 : decode cX0_mix 0 = .ok (.aload_n 0, 1) := by decide +kernel
theorem dX0_mix_1 : decode cX0_mix 1 = .ok (.getfield 24, 3) := by decide +kernel
theorem dX0_mix_4 : decode cX0_mix 4 = .ok (.iconst 0, 1) := by decide +kernel
theorem dX0_mix_5 : decode cX0_mix 5 = .ok (.iaload, 1) := by decide +kernel
theorem dX0_mix_6 : decode cX0_mix 6 = .ok (.istore_n 1, 1) := by decide +kernel
theorem dX0_mix_7 : decode cX0_mix 7 = .ok (.aload_n 0, 1) := by decide +kernel
theorem dX0_mix_8 : decode cX0_mix 8 = .ok (.getfield 24, 3) := by decide +kernel
theorem dX0_mix_11 : decode cX0_mix 11 = .ok (.iconst 1, 1) := by decide +kernel
theorem dX0_mix_12 : decode cX0_mix 12 = .ok (.iaload, 1) := by decide +kernel
theorem dX0_mix_13 : decode cX0_mix 13 = .ok (.istore_n 2, 1) := by decide +kernel
theorem dX0_mix_14 : decode cX0_mix 14 = .ok (.aload_n 0, 1) := by decide +kernel
theorem dX0_mix_15 : decode cX0_mix 15 = .ok (.getfield 24, 3) := by decide +kernel
theorem dX0_mix_18 : decode cX0_mix 18 = .ok (.iconst 2, 1) := by decide +kernel
theorem dX0_mix_19 : decode cX0_mix 19 = .ok (.iaload, 1) := by decide +kernel
theorem dX0_mix_20 : decode cX0_mix 20 = .ok (.istore_n 3, 1) := by decide +kernel
theorem dX0_mix_21 : decode cX0_mix 21 = .ok (.aload_n 0, 1) := by decide +kernel
theorem dX0_mix_22 : decode cX0_mix 22 = .ok (.getfield 24, 3) := by decide +kernel
theorem dX0_mix_25 : decode cX0_mix 25 = .ok (.iconst 3, 1) := by decide +kernel
theorem dX0_mix_26 : decode cX0_mix 26 = .ok (.iaload, 1) := by decide +kernel
theorem dX0_mix_27 : decode cX0_mix 27 = .ok (.istore 4, 2) := by decide +kernel
theorem dX0_mix_29 : decode cX0_mix 29 = .ok (.aload_n 0, 1) := by decide +kernel
theorem dX0_mix_30 : decode cX0_mix 30 = .ok (.getfield 24, 3) := by decide +kernel
theorem dX0_mix_33 : decode cX0_mix 33 = .ok (.iconst 4, 1) := by decide +kernel
theorem dX0_mix_34 : decode cX0_mix 34 = .ok (.iaload, 1) := by decide +kernel
theorem dX0_mix_35 : decode cX0_mix 35 = .ok (.istore 5, 2) := by decide +kernel
theorem dX0_mix_37 : decode cX0_mix 37 = .ok (.aload_n 0, 1) := by decide +kernel
theorem dX0_mix_38 : decode cX0_mix 38 = .ok (.getfield 24, 3) := by decide +kernel
theorem dX0_mix_41 : decode cX0_mix 41 = .ok (.iconst 5, 1) := by decide +kernel
theorem dX0_mix_42 : decode cX0_mix 42 = .ok (.iaload, 1) := by decide +kernel
theorem dX0_mix_43 : decode cX0_mix 43 = .ok (.istore 6, 2) := by decide +kernel
theorem dX0_mix_45 : decode cX0_mix 45 = .ok (.aload_n 0, 1) := by decide +kernel
theorem dX0_mix_46 : decode cX0_mix 46 = .ok (.getfield 24, 3) := by decide +kernel
theorem dX0_mix_49 : decode cX0_mix 49 = .ok (.bipush 6, 2) := by decide +kernel
theorem dX0_mix_51 : decode cX0_mix 51 = .ok (.iaload, 1) := by decide +kernel
theorem dX0_mix_52 : decode cX0_mix 52 = .ok (.istore 7, 2) := by decide +kernel
theorem dX0_mix_54 : decode cX0_mix 54 = .ok (.aload_n 0, 1) := by decide +kernel
theorem dX0_mix_55 : decode cX0_mix 55 = .ok (.getfield 24, 3) := by decide +kernel
theorem dX0_mix_58 : decode cX0_mix 58 = .ok (.bipush 7, 2) := by decide +kernel
theorem dX0_mix_60 : decode cX0_mix 60 = .ok (.iaload, 1) := by decide +kernel
theorem dX0_mix_61 : decode cX0_mix 61 = .ok (.istore 8, 2) := by decide +kernel
theorem dX0_mix_63 : decode cX0_mix 63 = .ok (.iconst 0, 1) := by decide +kernel
theorem dX0_mix_64 : decode cX0_mix 64 = .ok (.istore 9, 2) := by decide +kernel
theorem dX0_mix_66 : decode cX0_mix 66 = .ok (.iload 9, 2) := by decide +kernel
theorem dX0_mix_68 : decode cX0_mix 68 = .ok (.bipush 64, 2) := by decide +kernel
theorem dX0_mix_70 : decode cX0_mix 70 = .ok (.if_icmp .ge 109, 3) := by decide +kernel
theorem dX0_mix_73 : decode cX0_mix 73 = .ok (.iload 8, 2) := by decide +kernel
theorem dX0_mix_75 : decode cX0_mix 75 = .ok (.iload 5, 2) := by decide +kernel
theorem dX0_mix_77 : decode cX0_mix 77 = .ok (.bipush 6, 2) := by decide +kernel
theorem dX0_mix_79 : decode cX0_mix 79 = .ok (.bipush 11, 2) := by decide +kernel
theorem dX0_mix_81 : decode cX0_mix 81 = .ok (.bipush 25, 2) := by decide +kernel
theorem dX0_mix_83 : decode cX0_mix 83 = .ok (.invokestatic 80, 3) := by decide +kernel
theorem dX0_mix_86 : decode cX0_mix 86 = .ok (.iadd, 1) := by decide +kernel
theorem dX0_mix_87 : decode cX0_mix 87 = .ok (.iload 5, 2) := by decide +kernel
theorem dX0_mix_89 : decode cX0_mix 89 = .ok (.iload 6, 2) := by decide +kernel
theorem dX0_mix_91 : decode cX0_mix 91 = .ok (.iand, 1) := by decide +kernel
theorem dX0_mix_92 : decode cX0_mix 92 = .ok (.iload 5, 2) := by decide +kernel
theorem dX0_mix_94 : decode cX0_mix 94 = .ok (.iconst (-1), 1) := by decide +kernel
theorem dX0_mix_95 : decode cX0_mix 95 = .ok (.ixor, 1) := by decide +kernel
theorem dX0_mix_96 : decode cX0_mix 96 = .ok (.iload 7, 2) := by decide +kernel
theorem dX0_mix_98 : decode cX0_mix 98 = .ok (.iand, 1) := by decide +kernel
theorem dX0_mix_99 : decode cX0_mix 99 = .ok (.ixor, 1) := by decide +kernel
theorem dX0_mix_100 : decode cX0_mix 100 = .ok (.iadd, 1) := by decide +kernel
theorem dX0_mix_101 : decode cX0_mix 101 = .ok (.getstatic 84, 3) := by decide +kernel
theorem dX0_mix_104 : decode cX0_mix 104 = .ok (.iload 9, 2) := by decide +kernel
theorem dX0_mix_106 : decode cX0_mix 106 = .ok (.iaload, 1) := by decide +kernel
theorem dX0_mix_107 : decode cX0_mix 107 = .ok (.iadd, 1) := by decide +kernel
theorem dX0_mix_108 : decode cX0_mix 108 = .ok (.aload_n 0, 1) := by decide +kernel
theorem dX0_mix_109 : decode cX0_mix 109 = .ok (.getfield 20, 3) := by decide +kernel
theorem dX0_mix_112 : decode cX0_mix 112 = .ok (.iload 9, 2) := by decide +kernel
theorem dX0_mix_114 : decode cX0_mix 114 = .ok (.iaload, 1) := by decide +kernel
theorem dX0_mix_115 : decode cX0_mix 115 = .ok (.iadd, 1) := by decide +kernel
theorem dX0_mix_116 : decode cX0_mix 116 = .ok (.istore 10, 2) := by decide +kernel
theorem dX0_mix_118 : decode cX0_mix 118 = .ok (.iload_n 1, 1) := by decide +kernel
theorem dX0_mix_119 : decode cX0_mix 119 = .ok (.iconst 2, 1) := by decide +kernel
theorem dX0_mix_120 : decode cX0_mix 120 = .ok (.bipush 13, 2) := by decide +kernel
theorem dX0_mix_122 : decode cX0_mix 122 = .ok (.bipush 22, 2) := by decide +kernel
theorem dX0_mix_124 : decode cX0_mix 124 = .ok (.invokestatic 80, 3) := by decide +kernel
theorem dX0_mix_127 : decode cX0_mix 127 = .ok (.iload_n 1, 1) := by decide +kernel
theorem dX0_mix_128 : decode cX0_mix 128 = .ok (.iload_n 2, 1) := by decide +kernel
theorem dX0_mix_129 : decode cX0_mix 129 = .ok (.iand, 1) := by decide +kernel
theorem dX0_mix_130 : decode cX0_mix 130 = .ok (.iload_n 1, 1) := by decide +kernel
theorem dX0_mix_131 : decode cX0_mix 131 = .ok (.iload_n 3, 1) := by decide +kernel
theorem dX0_mix_132 : decode cX0_mix 132 = .ok (.iand, 1) := by decide +kernel
theorem dX0_mix_133 : decode cX0_mix 133 = .ok (.ixor, 1) := by decide +kernel
theorem dX0_mix_134 : decode cX0_mix 134 = .ok (.iload_n 2, 1) := by decide +kernel
theorem dX0_mix_135 : decode cX0_mix 135 = .ok (.iload_n 3, 1) := by decide +kernel
theorem dX0_mix_136 : decode cX0_mix 136 = .ok (.iand, 1) := by decide +kernel
theorem dX0_mix_137 : decode cX0_mix 137 = .ok (.ixor, 1) := by decide +kernel
theorem dX0_mix_138 : decode cX0_mix 138 = .ok (.iadd, 1) := by decide +kernel
theorem dX0_mix_139 : decode cX0_mix 139 = .ok (.istore 11, 2) := by decide +kernel
theorem dX0_mix_141 : decode cX0_mix 141 = .ok (.iload 7, 2) := by decide +kernel
theorem dX0_mix_143 : decode cX0_mix 143 = .ok (.istore 8, 2) := by decide +kernel
theorem dX0_mix_145 : decode cX0_mix 145 = .ok (.iload 6, 2) := by decide +kernel
theorem dX0_mix_147 : decode cX0_mix 147 = .ok (.istore 7, 2) := by decide +kernel
theorem dX0_mix_149 : decode cX0_mix 149 = .ok (.iload 5, 2) := by decide +kernel
theorem dX0_mix_151 : decode cX0_mix 151 = .ok (.istore 6, 2) := by decide +kernel
theorem dX0_mix_153 : decode cX0_mix 153 = .ok (.iload 4, 2) := by decide +kernel
theorem dX0_mix_155 : decode cX0_mix 155 = .ok (.iload 10, 2) := by decide +kernel
theorem dX0_mix_157 : decode cX0_mix 157 = .ok (.iadd, 1) := by decide +kernel
theorem dX0_mix_158 : decode cX0_mix 158 = .ok (.istore 5, 2) := by decide +kernel
theorem dX0_mix_160 : decode cX0_mix 160 = .ok (.iload_n 3, 1) := by decide +kernel
theorem dX0_mix_161 : decode cX0_mix 161 = .ok (.istore 4, 2) := by decide +kernel
theorem dX0_mix_163 : decode cX0_mix 163 = .ok (.iload_n 2, 1) := by decide +kernel
theorem dX0_mix_164 : decode cX0_mix 164 = .ok (.istore_n 3, 1) := by decide +kernel
theorem dX0_mix_165 : decode cX0_mix 165 = .ok (.iload_n 1, 1) := by decide +kernel
theorem dX0_mix_166 : decode cX0_mix 166 = .ok (.istore_n 2, 1) := by decide +kernel
theorem dX0_mix_167 : decode cX0_mix 167 = .ok (.iload 10, 2) := by decide +kernel
theorem dX0_mix_169 : decode cX0_mix 169 = .ok (.iload 11, 2) := by decide +kernel
theorem dX0_mix_171 : decode cX0_mix 171 = .ok (.iadd, 1) := by decide +kernel
theorem dX0_mix_172 : decode cX0_mix 172 = .ok (.istore_n 1, 1) := by decide +kernel
theorem dX0_mix_173 : decode cX0_mix 173 = .ok (.iinc 9 1, 3) := by decide +kernel
theorem dX0_mix_176 : decode cX0_mix 176 = .ok (.goto (-110), 3) := by decide +kernel
theorem dX0_mix_179 : decode cX0_mix 179 = .ok (.aload_n 0, 1) := by decide +kernel
theorem dX0_mix_180 : decode cX0_mix 180 = .ok (.getfield 24, 3) := by decide +kernel
theorem dX0_mix_183 : decode cX0_mix 183 = .ok (.iconst 0, 1) := by decide +kernel
theorem dX0_mix_184 : decode cX0_mix 184 = .ok (.dup2, 1) := by decide +kernel
theorem dX0_mix_185 : decode cX0_mix 185 = .ok (.iaload, 1) := by decide +kernel
theorem dX0_mix_186 : decode cX0_mix 186 = .ok (.iload_n 1, 1) := by decide +kernel
theorem dX0_mix_187 : decode cX0_mix 187 = .ok (.iadd, 1) := by decide +kernel
theorem dX0_mix_188 : decode cX0_mix 188 = .ok (.iastore, 1) := by decide +kernel
theorem dX0_mix_189 : decode cX0_mix 189 = .ok (.aload_n 0, 1) := by decide +kernel
theorem dX0_mix_190 : decode cX0_mix 190 = .ok (.getfield 24, 3) := by decide +kernel
theorem dX0_mix_193 : decode cX0_mix 193 = .ok (.iconst 1, 1) := by decide +kernel
theorem dX0_mix_194 : decode cX0_mix 194 = .ok (.dup2, 1) := by decide +kernel
theorem dX0_mix_195 : decode cX0_mix 195 = .ok (.iaload, 1) := by decide +kernel
theorem dX0_mix_196 : decode cX0_mix 196 = .ok (.iload_n 2, 1) := by decide +kernel
theorem dX0_mix_197 : decode cX0_mix 197 = .ok (.iadd, 1) := by decide +kernel
theorem dX0_mix_198 : decode cX0_mix 198 = .ok (.iastore, 1) := by decide +kernel
theorem dX0_mix_199 : decode cX0_mix 199 = .ok (.aload_n 0, 1) := by decide +kernel
theorem dX0_mix_200 : decode cX0_mix 200 = .ok (.getfield 24, 3) := by decide +kernel
theorem dX0_mix_203 : decode cX0_mix 203 = .ok (.iconst 2, 1) := by decide +kernel
theorem dX0_mix_204 : decode cX0_mix 204 = .ok (.dup2, 1) := by decide +kernel
theorem dX0_mix_205 : decode cX0_mix 205 = .ok (.iaload, 1) := by decide +kernel
theorem dX0_mix_206 : decode cX0_mix 206 = .ok (.iload_n 3, 1) := by decide +kernel
theorem dX0_mix_207 : decode cX0_mix 207 = .ok (.iadd, 1) := by decide +kernel
theorem dX0_mix_208 : decode cX0_mix 208 = .ok (.iastore, 1) := by decide +kernel
theorem dX0_mix_209 : decode cX0_mix 209 = .ok (.aload_n 0, 1) := by decide +kernel
theorem dX0_mix_210 : decode cX0_mix 210 = .ok (.getfield 24, 3) := by decide +kernel
theorem dX0_mix_213 : decode cX0_mix 213 = .ok (.iconst 3, 1) := by decide +kernel
theorem dX0_mix_214 : decode cX0_mix 214 = .ok (.dup2, 1) := by decide +kernel
theorem dX0_mix_215 : decode cX0_mix 215 = .ok (.iaload, 1) := by decide +kernel
theorem dX0_mix_216 : decode cX0_mix 216 = .ok (.iload 4, 2) := by decide +kernel
theorem dX0_mix_218 : decode cX0_mix 218 = .ok (.iadd, 1) := by decide +kernel
theorem dX0_mix_219 : decode cX0_mix 219 = .ok (.iastore, 1) := by decide +kernel
theorem dX0_mix_220 : decode cX0_mix 220 = .ok (.aload_n 0, 1) := by decide +kernel
theorem dX0_mix_221 : decode cX0_mix 221 = .ok (.getfield 24, 3) := by decide +kernel
theorem dX0_mix_224 : decode cX0_mix 224 = .ok (.iconst 4, 1) := by decide +kernel
theorem dX0_mix_225 : decode cX0_mix 225 = .ok (.dup2, 1) := by decide +kernel
theorem dX0_mix_226 : decode cX0_mix 226 = .ok (.iaload, 1) := by decide +kernel
theorem dX0_mix_227 : decode cX0_mix 227 = .ok (.iload 5, 2) := by decide +kernel
theorem dX0_mix_229 : decode cX0_mix 229 = .ok (.iadd, 1) := by decide +kernel
theorem dX0_mix_230 : decode cX0_mix 230 = .ok (.iastore, 1) := by decide +kernel
theorem dX0_mix_231 : decode cX0_mix 231 = .ok (.aload_n 0, 1) := by decide +kernel
theorem dX0_mix_232 : decode cX0_mix 232 = .ok (.getfield 24, 3) := by decide +kernel
theorem dX0_mix_235 : decode cX0_mix 235 = .ok (.iconst 5, 1) := by decide +kernel
theorem dX0_mix_236 : decode cX0_mix 236 = .ok (.dup2, 1) := by decide +kernel
theorem dX0_mix_237 : decode cX0_mix 237 = .ok (.iaload, 1) := by decide +kernel
theorem dX0_mix_238 : decode cX0_mix 238 = .ok (.iload 6, 2) := by decide +kernel
theorem dX0_mix_240 : decode cX0_mix 240 = .ok (.iadd, 1) := by decide +kernel
theorem dX0_mix_241 : decode cX0_mix 241 = .ok (.iastore, 1) := by decide +kernel
theorem dX0_mix_242 : decode cX0_mix 242 = .ok (.aload_n 0, 1) := by decide +kernel
theorem dX0_mix_243 : decode cX0_mix 243 = .ok (.getfield 24, 3) := by decide +kernel
theorem dX0_mix_246 : decode cX0_mix 246 = .ok (.bipush 6, 2) := by decide +kernel
theorem dX0_mix_248 : decode cX0_mix 248 = .ok (.dup2, 1) := by decide +kernel
theorem dX0_mix_249 : decode cX0_mix 249 = .ok (.iaload, 1) := by decide +kernel
theorem dX0_mix_250 : decode cX0_mix 250 = .ok (.iload 7, 2) := by decide +kernel
theorem dX0_mix_252 : decode cX0_mix 252 = .ok (.iadd, 1) := by decide +kernel
theorem dX0_mix_253 : decode cX0_mix 253 = .ok (.iastore, 1) := by decide +kernel
theorem dX0_mix_254 : decode cX0_mix 254 = .ok (.aload_n 0, 1) := by decide +kernel
theorem dX0_mix_255 : decode cX0_mix 255 = .ok (.getfield 24, 3) := by decide +kernel
theorem dX0_mix_258 : decode cX0_mix 258 = .ok (.bipush 7, 2) := by decide +kernel
theorem dX0_mix_260 : decode cX0_mix 260 = .ok (.dup2, 1) := by decide +kernel
theorem dX0_mix_261 : decode cX0_mix 261 = .ok (.iaload, 1) := by decide +kernel
theorem dX0_mix_262 : decode cX0_mix 262 = .ok (.iload 8, 2) := by decide +kernel
theorem dX0_mix_264 : decode cX0_mix 264 = .ok (.iadd, 1) := by decide +kernel
theorem dX0_mix_265 : decode cX0_mix 265 = .ok (.iastore, 1) := by decide +kernel
theorem dX0_mix_266 : decode cX0_mix 266 = .ok (.return_, 1) := by decide +kernel
set_option maxRecDepth 20000 in
theorem ggX0_highSum_J6_rotateRight_7cf53 : GoodIn wsX0_highSum wsJ6_rotateRight_7cf53 := goodIn_r _ [4] (by decide +kernel) (by decide +kernel)
set_option maxRecDepth 20000 in
theorem gX0_highSum_J6_rotateRight_7cf53 : GoodIn wsX0_highSum (va_wsS RX0 75 yJ6_rotateRight_7cf53 wsJ6_rotateRight_7cf53) := goodIn_app (goodIn_of _ (by decide +kernel)) ggX0_highSum_J6_rotateRight_7cf53
theorem dX0_highSum_0 : decode cX0_highSum 0 = .ok (.iload_n 0, 1) := by decide +kernel
theorem dX0_highSum_1 : decode cX0_highSum 1 = .ok (.iload_n 1, 1) := by decide +kernel
theorem dX0_highSum_2 : decode cX0_highSum 2 = .ok (.invokestatic 75, 3) := by decide +kernel
theorem dX0_highSum_5 : decode cX0_highSum 5 = .ok (.iload_n 0, 1) := by decide +kernel
theorem dX0_highSum_6 : decode cX0_highSum 6 = .ok (.iload_n 2, 1) := by decide +kernel
theorem dX0_highSum_7 : decode cX0_highSum 7 = .ok (.invokestatic 75, 3) := by decide +kernel
theorem dX0_highSum_10 : decode cX0_highSum 10 = .ok (.ixor, 1) := by decide +kernel
theorem dX0_highSum_11 : decode cX0_highSum 11 = .ok (.iload_n 0, 1) := by decide +kernel
theorem dX0_highSum_12 : decode cX0_highSum 12 = .ok (.iload_n 3, 1) := by decide +kernel
theorem dX0_highSum_13 : decode cX0_highSum 13 = .ok (.invokestatic 75, 3) := by decide +kernel
theorem dX0_highSum_16 : decode cX0_highSum 16 = .ok (.ixor, 1) := by decide +kernel
theorem dX0_highSum_17 : decode cX0_highSum 17 = .ok (.ireturn, 1) := by decide +kernel
set_option maxRecDepth 20000 in
theorem ggX1_init_X0_init : GoodIn wsX1_init wsX0_init := goodIn_r _ [14, 15, 2, 3, 16, 9, 10, 17, 18, 19, 20, 21, 22, 23, 24, 25, 26, 34, 35, 28, 29, 30] (by decide +kernel) (by decide +kernel)
set_option maxRecDepth 20000 in
theorem gX1_init_X0_init_n11 : GoodIn wsX1_init (wsX0_init) := ggX1_init_X0_init
set_option maxRecDepth 20000 in
theorem ggX1_init_X2_init : GoodIn wsX1_init wsX2_init := goodIn_r _ [23, 24, 2, 3, 25, 18, 26, 34, 35] (by decide +kernel) (by decide +kernel)
set_option maxRecDepth 20000 in
theorem gX1_init_X2_init : GoodIn wsX1_init (wsX2_init) := ggX1_init_X2_init
theorem dX1_init_0 : decode cX1_init 0 = .ok (.aload_n 0, 1) := by decide +kernel
theorem dX1_init_1 : decode cX1_init 1 = .ok (.invokespecial 3, 3) := by decide +kernel
theorem dX1_init_4 : decode cX1_init 4 = .ok (.aload_n 0, 1) := by decide +kernel
theorem dX1_init_5 : decode cX1_init 5 = .ok (.new 9, 3) := by decide +kernel
theorem dX1_init_8 : decode cX1_init 8 = .ok (.dup, 1) := by decide +kernel
theorem dX1_init_9 : decode cX1_init 9 = .ok (.invokespecial 11, 3) := by decide +kernel
theorem dX1_init_12 : decode cX1_init 12 = .ok (.putfield 12, 3) := by decide +kernel
theorem dX1_init_15 : decode cX1_init 15 = .ok (.aload_n 0, 1) := by decide +kernel
theorem dX1_init_16 : decode cX1_init 16 = .ok (.new 18, 3) := by decide +kernel
theorem dX1_init_19 : decode cX1_init 19 = .ok (.dup, 1) := by decide +kernel
theorem dX1_init_20 : decode cX1_init 20 = .ok (.bipush 64, 2) := by decide +kernel
theorem dX1_init_22 : decode cX1_init 22 = .ok (.invokespecial 20, 3) := by decide +kernel
theorem dX1_init_25 : decode cX1_init 25 = .ok (.putfield 23, 3) := by decide +kernel
theorem dX1_init_28 : decode cX1_init 28 = .ok (.aload_n 0, 1) := by decide +kernel
theorem dX1_init_29 : decode cX1_init 29 = .ok (.new 18, 3) := by decide +kernel
theorem dX1_init_32 : decode cX1_init 32 = .ok (.dup, 1) := by decide +kernel
theorem dX1_init_33 : decode cX1_init 33 = .ok (.bipush 32, 2) := by decide +kernel
theorem dX1_init_35 : decode cX1_init 35 = .ok (.invokespecial 20, 3) := by decide +kernel
theorem dX1_init_38 : decode cX1_init 38 = .ok (.putfield 27, 3) := by decide +kernel
theorem dX1_init_41 : decode cX1_init 41 = .ok (.return_, 1) := by decide +kernel
set_option maxRecDepth 20000 in
theorem ggX1_begin_X2_empty : GoodIn wsX1_begin wsX2_empty := goodIn_r _ [7, 8, 99, 100] (by decide +kernel) (by decide +kernel)
set_option maxRecDepth 20000 in
theorem gX1_begin_X2_empty : GoodIn wsX1_begin (wsV RX1 30 RX2 yX2_empty wsX2_empty) := goodIn_app (goodIn_of _ (by decide +kernel)) ggX1_begin_X2_empty
set_option maxRecDepth 20000 in
theorem ggX1_begin_X2_size : GoodIn wsX1_begin wsX2_size := goodIn_r _ [12, 8, 99, 100] (by decide +kernel) (by decide +kernel)
set_option maxRecDepth 20000 in
theorem gX1_begin_X2_size : GoodIn wsX1_begin (wsV RX1 33 RX2 yX2_size wsX2_size) := goodIn_app (goodIn_of _ (by decide +kernel)) ggX1_begin_X2_size
set_option maxRecDepth 20000 in
theorem ggX1_begin_X0_begin : GoodIn wsX1_begin wsX0_begin := goodIn_r _ [17, 18, 19, 4, 5, 6, 7, 8, 101, 102, 103, 99, 100] (by decide +kernel) (by decide +kernel)
set_option maxRecDepth 20000 in
theorem gX1_begin_X0_begin : GoodIn wsX1_begin (wsV RX1 37 RX0 yX0_begin wsX0_begin) := goodIn_app (goodIn_of _ (by decide +kernel)) ggX1_begin_X0_begin
set_option maxRecDepth 20000 in
theorem ggX1_begin_X0_add : GoodIn wsX1_begin wsX0_add := goodIn_r _ [23, 18, 24, 10, 11, 6, 12, 8, 25, 26, 27, 28, 29, 30, 31, 32, 33, 34, 35, 36, 37, 101, 102, 103, 99, 100] (by decide +kernel) (by decide +kernel)
set_option maxRecDepth 20000 in
theorem gX1_begin_X0_add : GoodIn wsX1_begin (wsV RX1 40 RX0 yX0_add wsX0_add) := goodIn_app (goodIn_of _ (by decide +kernel)) ggX1_begin_X0_add
set_option maxRecDepth 20000 in
theorem ggX1_begin_X0_end : GoodIn wsX1_begin wsX0_end := goodIn_r _ [41, 42, 43, 44, 45, 46, 47, 18, 48, 49, 50, 16, 51, 24, 10, 11, 6, 12, 8, 52, 35, 36, 37, 33, 53, 54, 55, 56, 57, 58, 59, 60, 34, 61, 62, 63, 64, 65, 66, 67, 68, 69, 70, 71, 72, 73, 74, 75, 76, 77, 78, 79, 80, 81, 82, 83, 84, 85, 19, 4, 5, 7, 101, 102, 103, 99, 100] (by decide +kernel) (by decide +kernel)
set_option maxRecDepth 20000 in
theorem gX1_begin_X0_end : GoodIn wsX1_begin (wsV RX1 44 RX0 yX0_end wsX0_end) := goodIn_app (goodIn_of _ (by decide +kernel)) ggX1_begin_X0_end
set_option maxRecDepth 20000 in
theorem ggX1_begin_X2_append : GoodIn wsX1_begin wsX2_append := goodIn_r _ [28, 8, 29, 30, 31, 32, 33, 34, 35, 36, 6, 37, 99, 100] (by decide +kernel) (by decide +kernel)
set_option maxRecDepth 20000 in
theorem gX1_begin_X2_append : GoodIn wsX1_begin (wsV RX1 47 RX2 yX2_append wsX2_append) := goodIn_app (goodIn_of _ (by decide +kernel)) ggX1_begin_X2_append
set_option maxRecDepth 20000 in
theorem ggX1_begin_X2_put : GoodIn wsX1_begin wsX2_put := goodIn_r _ [37, 8, 33, 99, 100] (by decide +kernel) (by decide +kernel)
set_option maxRecDepth 20000 in
theorem gX1_begin_X2_put : GoodIn wsX1_begin (wsV RX1 51 RX2 yX2_put wsX2_put) := goodIn_app (goodIn_of _ (by decide +kernel)) ggX1_begin_X2_put
set_option maxRecDepth 20000 in
theorem ggX1_begin_X0_addXor : GoodIn wsX1_begin wsX0_addXor := goodIn_r _ [91, 18, 92, 93, 94, 6, 95, 8, 33, 34, 35, 36, 37, 101, 102, 103, 99, 100] (by decide +kernel) (by decide +kernel)
set_option maxRecDepth 20000 in
theorem gX1_begin_X0_addXor : GoodIn wsX1_begin (wsV RX1 54 RX0 yX0_addXor wsX0_addXor) := goodIn_app (goodIn_of _ (by decide +kernel)) ggX1_begin_X0_addXor
theorem dX1_begin_0 : decode cX1_begin 0 = .ok (.aload_n 0, 1) := by decide +kernel
theorem dX1_begin_1 : decode cX1_begin 1 = .ok (.getfield 23, 3) := by decide +kernel
theorem dX1_begin_4 : decode cX1_begin 4 = .ok (.invokevirtual 30, 3) := by decide +kernel
theorem dX1_begin_7 : decode cX1_begin 7 = .ok (.aload_n 1, 1) := by decide +kernel
theorem dX1_begin_8 : decode cX1_begin 8 = .ok (.invokevirtual 33, 3) := by decide +kernel
theorem dX1_begin_11 : decode cX1_begin 11 = .ok (.bipush 64, 2) := by decide +kernel
theorem dX1_begin_13 : decode cX1_begin 13 = .ok (.if_icmp .le 32, 3) := by decide +kernel
theorem dX1_begin_16 : decode cX1_begin 16 = .ok (.aload_n 0, 1) := by decide +kernel
theorem dX1_begin_17 : decode cX1_begin 17 = .ok (.getfield 12, 3) := by decide +kernel
theorem dX1_begin_20 : decode cX1_begin 20 = .ok (.invokevirtual 37, 3) := by decide +kernel
theorem dX1_begin_23 : decode cX1_begin 23 = .ok (.aload_n 0, 1) := by decide +kernel
theorem dX1_begin_24 : decode cX1_begin 24 = .ok (.getfield 12, 3) := by decide +kernel
theorem dX1_begin_27 : decode cX1_begin 27 = .ok (.aload_n 1, 1) := by decide +kernel
theorem dX1_begin_28 : decode cX1_begin 28 = .ok (.invokevirtual 40, 3) := by decide +kernel
theorem dX1_begin_31 : decode cX1_begin 31 = .ok (.aload_n 0, 1) := by decide +kernel
theorem dX1_begin_32 : decode cX1_begin 32 = .ok (.getfield 12, 3) := by decide +kernel
theorem dX1_begin_35 : decode cX1_begin 35 = .ok (.aload_n 0, 1) := by decide +kernel
theorem dX1_begin_36 : decode cX1_begin 36 = .ok (.getfield 23, 3) := by decide +kernel
theorem dX1_begin_39 : decode cX1_begin 39 = .ok (.invokevirtual 44, 3) := by decide +kernel
theorem dX1_begin_42 : decode cX1_begin 42 = .ok (.goto 15, 3) := by decide +kernel
theorem dX1_begin_45 : decode cX1_begin 45 = .ok (.aload_n 0, 1) := by decide +kernel
theorem dX1_begin_46 : decode cX1_begin 46 = .ok (.getfield 23, 3) := by decide +kernel
theorem dX1_begin_49 : decode cX1_begin 49 = .ok (.aload_n 1, 1) := by decide +kernel
theorem dX1_begin_50 : decode cX1_begin 50 = .ok (.aload_n 1, 1) := by decide +kernel
theorem dX1_begin_51 : decode cX1_begin 51 = .ok (.invokevirtual 33, 3) := by decide +kernel
theorem dX1_begin_54 : decode cX1_begin 54 = .ok (.invokevirtual 47, 3) := by decide +kernel
theorem dX1_begin_57 : decode cX1_begin 57 = .ok (.aload_n 0, 1) := by decide +kernel
theorem dX1_begin_58 : decode cX1_begin 58 = .ok (.getfield 23, 3) := by decide +kernel
theorem dX1_begin_61 : decode cX1_begin 61 = .ok (.invokevirtual 33, 3) := by decide +kernel
theorem dX1_begin_64 : decode cX1_begin 64 = .ok (.istore_n 2, 1) := by decide +kernel
theorem dX1_begin_65 : decode cX1_begin 65 = .ok (.iload_n 2, 1) := by decide +kernel
theorem dX1_begin_66 : decode cX1_begin 66 = .ok (.bipush 64, 2) := by decide +kernel
theorem dX1_begin_68 : decode cX1_begin 68 = .ok (.if_icmp .ge 17, 3) := by decide +kernel
theorem dX1_begin_71 : decode cX1_begin 71 = .ok (.aload_n 0, 1) := by decide +kernel
theorem dX1_begin_72 : decode cX1_begin 72 = .ok (.getfield 23, 3) := by decide +kernel
theorem dX1_begin_75 : decode cX1_begin 75 = .ok (.iconst 0, 1) := by decide +kernel
theorem dX1_begin_76 : decode cX1_begin 76 = .ok (.invokevirtual 51, 3) := by decide +kernel
theorem dX1_begin_79 : decode cX1_begin 79 = .ok (.iinc 2 1, 3) := by decide +kernel
theorem dX1_begin_82 : decode cX1_begin 82 = .ok (.goto (-17), 3) := by decide +kernel
theorem dX1_begin_85 : decode cX1_begin 85 = .ok (.aload_n 0, 1) := by decide +kernel
theorem dX1_begin_86 : decode cX1_begin 86 = .ok (.getfield 12, 3) := by decide +kernel
theorem dX1_begin_89 : decode cX1_begin 89 = .ok (.invokevirtual 37, 3) := by decide +kernel
theorem dX1_begin_92 : decode cX1_begin 92 = .ok (.aload_n 0, 1) := by decide +kernel
theorem dX1_begin_93 : decode cX1_begin 93 = .ok (.getfield 12, 3) := by decide +kernel
theorem dX1_begin_96 : decode cX1_begin 96 = .ok (.aload_n 0, 1) := by decide +kernel
theorem dX1_begin_97 : decode cX1_begin 97 = .ok (.getfield 23, 3) := by decide +kernel
theorem dX1_begin_100 : decode cX1_begin 100 = .ok (.bipush 54, 2) := by decide +kernel
theorem dX1_begin_102 : decode cX1_begin 102 = .ok (.invokevirtual 54, 3) := by decide +kernel
theorem dX1_begin_105 : decode cX1_begin 105 = .ok (.return_, 1) := by decide +kernel
set_option maxRecDepth 20000 in
theorem ggX1_add_X0_add : GoodIn wsX1_add wsX0_add := goodIn_r _ [6, 7, 8, 9, 10, 11, 12, 13, 14, 15, 16, 17, 18, 19, 20, 21, 22, 23, 24, 25, 26, 30, 31, 32, 33, 34] (by decide +kernel) (by decide +kernel)
set_option maxRecDepth 20000 in
theorem gX1_add_X0_add : GoodIn wsX1_add (wsV RX1 40 RX0 yX0_add wsX0_add) := goodIn_app (goodIn_of _ (by decide +kernel)) ggX1_add_X0_add
theorem dX1_add_0 : decode cX1_add 0 = .ok (.aload_n 0, 1) := by decide +kernel
theorem dX1_add_1 : decode cX1_add 1 = .ok (.getfield 12, 3) := by decide +kernel
theorem dX1_add_4 : decode cX1_add 4 = .ok (.aload_n 1, 1) := by decide +kernel
theorem dX1_add_5 : decode cX1_add 5 = .ok (.invokevirtual 40, 3) := by decide +kernel
theorem dX1_add_8 : decode cX1_add 8 = .ok (.return_, 1) := by decide +kernel
set_option maxRecDepth 20000 in
theorem ggX1_addByte_X0_addByte : GoodIn wsX1_addByte wsX0_addByte := goodIn_r _ [6, 7, 8, 9, 10, 11, 12, 13, 14, 18, 19, 20, 21, 22] (by decide +kernel) (by decide +kernel)
set_option maxRecDepth 20000 in
theorem gX1_addByte_X0_addByte : GoodIn wsX1_addByte (wsV RX1 57 RX0 yX0_addByte wsX0_addByte) := goodIn_app (goodIn_of _ (by decide +kernel)) ggX1_addByte_X0_addByte
theorem dX1_addByte_0 : decode cX1_addByte 0 = .ok (.aload_n 0, 1) := by decide +kernel
theorem dX1_addByte_1 : decode cX1_addByte 1 = .ok (.getfield 12, 3) := by decide +kernel
theorem dX1_addByte_4 : decode cX1_addByte 4 = .ok (.iload_n 1, 1) := by decide +kernel
theorem dX1_addByte_5 : decode cX1_addByte 5 = .ok (.invokevirtual 57, 3) := by decide +kernel
theorem dX1_addByte_8 : decode cX1_addByte 8 = .ok (.return_, 1) := by decide +kernel
set_option maxRecDepth 20000 in
theorem ggX1_end_X0_end : GoodIn wsX1_end wsX0_end := goodIn_r _ [8, 9, 10, 11, 12, 13, 14, 15, 16, 17, 18, 7, 19, 20, 21, 22, 23, 24, 25, 26, 27, 28, 29, 30, 31, 32, 33, 34, 35, 36, 37, 38, 39, 40, 41, 42, 43, 44, 45, 46, 47, 48, 49, 50, 51, 52, 53, 54, 55, 56, 57, 58, 59, 60, 61, 62, 63, 64, 65, 66, 67, 68, 96, 97, 98, 99, 100] (by decide +kernel) (by decide +kernel)
set_option maxRecDepth 20000 in
theorem gX1_end_X0_end : GoodIn wsX1_end (wsV RX1 44 RX0 yX0_end wsX0_end) := goodIn_app (goodIn_of _ (by decide +kernel)) ggX1_end_X0_end
set_option maxRecDepth 20000 in
theorem ggX1_end_X0_begin : GoodIn wsX1_end wsX0_begin := goodIn_r _ [72, 15, 65, 66, 67, 23, 68, 25, 96, 97, 98, 99, 100] (by decide +kernel) (by decide +kernel)
set_option maxRecDepth 20000 in
theorem gX1_end_X0_begin : GoodIn wsX1_end (wsV RX1 37 RX0 yX0_begin wsX0_begin) := goodIn_app (goodIn_of _ (by decide +kernel)) ggX1_end_X0_begin
set_option maxRecDepth 20000 in
theorem ggX1_end_X0_addXor : GoodIn wsX1_end wsX0_addXor := goodIn_r _ [76, 15, 77, 78, 79, 23, 80, 25, 30, 39, 27, 28, 29, 96, 97, 98, 99, 100] (by decide +kernel) (by decide +kernel)
set_option maxRecDepth 20000 in
theorem gX1_end_X0_addXor : GoodIn wsX1_end (wsV RX1 54 RX0 yX0_addXor wsX0_addXor) := goodIn_app (goodIn_of _ (by decide +kernel)) ggX1_end_X0_addXor
set_option maxRecDepth 20000 in
theorem ggX1_end_X0_add : GoodIn wsX1_end wsX0_add := goodIn_r _ [84, 15, 20, 21, 22, 23, 24, 25, 85, 86, 87, 88, 89, 90, 91, 92, 30, 39, 27, 28, 29, 96, 97, 98, 99, 100] (by decide +kernel) (by decide +kernel)
set_option maxRecDepth 20000 in
theorem gX1_end_X0_add : GoodIn wsX1_end (wsV RX1 40 RX0 yX0_add wsX0_add) := goodIn_app (goodIn_of _ (by decide +kernel)) ggX1_end_X0_add
theorem dX1_end_0 : decode cX1_end 0 = .ok (.aload_n 0, 1) := by decide +kernel
theorem dX1_end_1 : decode cX1_end 1 = .ok (.getfield 12, 3) := by decide +kernel
theorem dX1_end_4 : decode cX1_end 4 = .ok (.aload_n 0, 1) := by decide +kernel
theorem dX1_end_5 : decode cX1_end 5 = .ok (.getfield 27, 3) := by decide +kernel
theorem dX1_end_8 : decode cX1_end 8 = .ok (.invokevirtual 44, 3) := by decide +kernel
theorem dX1_end_11 : decode cX1_end 11 = .ok (.aload_n 0, 1) := by decide +kernel
theorem dX1_end_12 : decode cX1_end 12 = .ok (.getfield 12, 3) := by decide +kernel
theorem dX1_end_15 : decode cX1_end 15 = .ok (.invokevirtual 37, 3) := by decide +kernel
theorem dX1_end_18 : decode cX1_end 18 = .ok (.aload_n 0, 1) := by decide +kernel
theorem dX1_end_19 : decode cX1_end 19 = .ok (.getfield 12, 3) := by decide +kernel
theorem dX1_end_22 : decode cX1_end 22 = .ok (.aload_n 0, 1) := by decide +kernel
theorem dX1_end_23 : decode cX1_end 23 = .ok (.getfield 23, 3) := by decide +kernel
theorem dX1_end_26 : decode cX1_end 26 = .ok (.bipush 92, 2) := by decide +kernel
theorem dX1_end_28 : decode cX1_end 28 = .ok (.invokevirtual 54, 3) := by decide +kernel
theorem dX1_end_31 : decode cX1_end 31 = .ok (.aload_n 0, 1) := by decide +kernel
theorem dX1_end_32 : decode cX1_end 32 = .ok (.getfield 12, 3) := by decide +kernel
theorem dX1_end_35 : decode cX1_end 35 = .ok (.aload_n 0, 1) := by decide +kernel
theorem dX1_end_36 : decode cX1_end 36 = .ok (.getfield 27, 3) := by decide +kernel
theorem dX1_end_39 : decode cX1_end 39 = .ok (.invokevirtual 40, 3) := by decide +kernel
theorem dX1_end_42 : decode cX1_end 42 = .ok (.aload_n 0, 1) := by decide +kernel
theorem dX1_end_43 : decode cX1_end 43 = .ok (.getfield 12, 3) := by decide +kernel
theorem dX1_end_46 : decode cX1_end 46 = .ok (.aload_n 1, 1) := by decide +kernel
theorem dX1_end_47 : decode cX1_end 47 = .ok (.invokevirtual 44, 3) := by decide +kernel
theorem dX1_end_50 : decode cX1_end 50 = .ok (.return_, 1) := by decide +kernel
theorem dX2_init_0 : decode cX2_init 0 = .ok (.aload_n 0, 1) := by decide +kernel
theorem dX2_init_1 : decode cX2_init 1 = .ok (.invokespecial 3, 3) := by decide +kernel
theorem dX2_init_4 : decode cX2_init 4 = .ok (.aload_n 0, 1) := by decide +kernel
theorem dX2_init_5 : decode cX2_init 5 = .ok (.iconst 0, 1) := by decide +kernel
theorem dX2_init_6 : decode cX2_init 6 = .ok (.putfield 9, 3) := by decide +kernel
theorem dX2_init_9 : decode cX2_init 9 = .ok (.aload_n 0, 1) := by decide +kernel
theorem dX2_init_10 : decode cX2_init 10 = .ok (.iload_n 1, 1) := by decide +kernel
theorem dX2_init_11 : decode cX2_init 11 = .ok (.newarray .int, 2) := by decide +kernel
theorem dX2_init_13 : decode cX2_init 13 = .ok (.putfield 15, 3) := by decide +kernel
theorem dX2_init_16 : decode cX2_init 16 = .ok (.return_, 1) := by decide +kernel
theorem dX2_size_0 : decode cX2_size 0 = .ok (.aload_n 0, 1) := by decide +kernel
theorem dX2_size_1 : decode cX2_size 1 = .ok (.getfield 9, 3) := by decide +kernel
theorem dX2_size_4 : decode cX2_size 4 = .ok (.ireturn, 1) := by decide +kernel
theorem dX2_empty_0 : decode cX2_empty 0 = .ok (.aload_n 0, 1) := by decide +kernel
theorem dX2_empty_1 : decode cX2_empty 1 = .ok (.iconst 0, 1) := by decide +kernel
theorem dX2_empty_2 : decode cX2_empty 2 = .ok (.putfield 9, 3) := by decide +kernel
theorem dX2_empty_5 : decode cX2_empty 5 = .ok (.return_, 1) := by decide +kernel
theorem dX2_put_0 : decode cX2_put 0 = .ok (.aload_n 0, 1) := by decide +kernel
theorem dX2_put_1 : decode cX2_put 1 = .ok (.getfield 9, 3) := by decide +kernel
theorem dX2_put_4 : decode cX2_put 4 = .ok (.aload_n 0, 1) := by decide +kernel
theorem dX2_put_5 : decode cX2_put 5 = .ok (.getfield 15, 3) := by decide +kernel
theorem dX2_put_8 : decode cX2_put 8 = .ok (.arraylength, 1) := by decide +kernel
theorem dX2_put_9 : decode cX2_put 9 = .ok (.if_icmp .ge 23, 3) := by decide +kernel
theorem dX2_put_12 : decode cX2_put 12 = .ok (.aload_n 0, 1) := by decide +kernel
theorem dX2_put_13 : decode cX2_put 13 = .ok (.getfield 15, 3) := by decide +kernel
theorem dX2_put_16 : decode cX2_put 16 = .ok (.aload_n 0, 1) := by decide +kernel
theorem dX2_put_17 : decode cX2_put 17 = .ok (.getfield 9, 3) := by decide +kernel
theorem dX2_put_20 : decode cX2_put 20 = .ok (.iload_n 1, 1) := by decide +kernel
theorem dX2_put_21 : decode cX2_put 21 = .ok (.iastore, 1) := by decide +kernel
theorem dX2_put_22 : decode cX2_put 22 = .ok (.aload_n 0, 1) := by decide +kernel
theorem dX2_put_23 : decode cX2_put 23 = .ok (.dup, 1) := by decide +kernel
theorem dX2_put_24 : decode cX2_put 24 = .ok (.getfield 9, 3) := by decide +kernel
theorem dX2_put_27 : decode cX2_put 27 = .ok (.iconst 1, 1) := by decide +kernel
theorem dX2_put_28 : decode cX2_put 28 = .ok (.iadd, 1) := by decide +kernel
theorem dX2_put_29 : decode cX2_put 29 = .ok (.putfield 9, 3) := by decide +kernel
theorem dX2_put_32 : decode cX2_put 32 = .ok (.return_, 1) := by decide +kernel
set_option maxRecDepth 20000 in
theorem ggX2_fill_J7_fill_53178 : GoodIn wsX2_fill wsJ7_fill_53178 := goodIn_r _ [6] (by decide +kernel) (by decide +kernel)
set_option maxRecDepth 20000 in
theorem gX2_fill_J7_fill_53178 : GoodIn wsX2_fill (va_wsS RX2 19 yJ7_fill_53178 wsJ7_fill_53178) := goodIn_app (goodIn_of _ (by decide +kernel)) ggX2_fill_J7_fill_53178
theorem dX2_fill_0 : decode cX2_fill 0 = .ok (.aload_n 0, 1) := by decide +kernel
theorem dX2_fill_1 : decode cX2_fill 1 = .ok (.getfield 15, 3) := by decide +kernel
theorem dX2_fill_4 : decode cX2_fill 4 = .ok (.iload_n 1, 1) := by decide +kernel
theorem dX2_fill_5 : decode cX2_fill 5 = .ok (.invokestatic 19, 3) := by decide +kernel
theorem dX2_fill_8 : decode cX2_fill 8 = .ok (.aload_n 0, 1) := by decide +kernel
theorem dX2_fill_9 : decode cX2_fill 9 = .ok (.aload_n 0, 1) := by decide +kernel
theorem dX2_fill_10 : decode cX2_fill 10 = .ok (.getfield 15, 3) := by decide +kernel
theorem dX2_fill_13 : decode cX2_fill 13 = .ok (.arraylength, 1) := by decide +kernel
theorem dX2_fill_14 : decode cX2_fill 14 = .ok (.putfield 9, 3) := by decide +kernel
theorem dX2_fill_17 : decode cX2_fill 17 = .ok (.return_, 1) := by decide +kernel
set_option maxRecDepth 20000 in
theorem ggX2_append_X2_put : GoodIn wsX2_append wsX2_put := goodIn_r _ [11, 1, 6, 12, 13] (by decide +kernel) (by decide +kernel)
set_option maxRecDepth 20000 in
theorem gX2_append_X2_put : GoodIn wsX2_append (wsV RX2 31 RX2 yX2_put wsX2_put) := goodIn_app (goodIn_of _ (by decide +kernel)) ggX2_append_X2_put
theorem dX2_append_0 : decode cX2_append 0 = .ok (.iload_n 2, 1) := by decide +kernel
theorem dX2_append_1 : decode cX2_append 1 = .ok (.aload_n 1, 1) := by decide +kernel
theorem dX2_append_2 : decode cX2_append 2 = .ok (.getfield 9, 3) := by decide +kernel
theorem dX2_append_5 : decode cX2_append 5 = .ok (.invokestatic 25, 3) := by decide +kernel
theorem dX2_append_8 : decode cX2_append 8 = .ok (.istore_n 3, 1) := by decide +kernel
theorem dX2_append_9 : decode cX2_append 9 = .ok (.iconst 0, 1) := by decide +kernel
theorem dX2_append_10 : decode cX2_append 10 = .ok (.istore 4, 2) := by decide +kernel
theorem dX2_append_12 : decode cX2_append 12 = .ok (.iload 4, 2) := by decide +kernel
theorem dX2_append_14 : decode cX2_append 14 = .ok (.iload_n 3, 1) := by decide +kernel
theorem dX2_append_15 : decode cX2_append 15 = .ok (.if_icmp .ge 20, 3) := by decide +kernel
theorem dX2_append_18 : decode cX2_append 18 = .ok (.aload_n 0, 1) := by decide +kernel
theorem dX2_append_19 : decode cX2_append 19 = .ok (.aload_n 1, 1) := by decide +kernel
theorem dX2_append_20 : decode cX2_append 20 = .ok (.getfield 15, 3) := by decide +kernel
theorem dX2_append_23 : decode cX2_append 23 = .ok (.iload 4, 2) := by decide +kernel
theorem dX2_append_25 : decode cX2_append 25 = .ok (.iaload, 1) := by decide +kernel
theorem dX2_append_26 : decode cX2_append 26 = .ok (.invokevirtual 31, 3) := by decide +kernel
theorem dX2_append_29 : decode cX2_append 29 = .ok (.iinc 4 1, 3) := by decide +kernel
theorem dX2_append_32 : decode cX2_append 32 = .ok (.goto (-20), 3) := by decide +kernel
theorem dX2_append_35 : decode cX2_append 35 = .ok (.return_, 1) := by decide +kernel
set_option maxRecDepth 20000 in
theorem ggX2_appendXor_X2_put : GoodIn wsX2_appendXor wsX2_put := goodIn_r _ [7, 1, 2, 8, 9] (by decide +kernel) (by decide +kernel)
set_option maxRecDepth 20000 in
theorem gX2_appendXor_X2_put : GoodIn wsX2_appendXor (wsV RX2 31 RX2 yX2_put wsX2_put) := goodIn_app (goodIn_of _ (by decide +kernel)) ggX2_appendXor_X2_put
theorem dX2_appendXor_0 : decode cX2_appendXor 0 = .ok (.iconst 0, 1) := by decide +kernel
theorem dX2_appendXor_1 : decode cX2_appendXor 1 = .ok (.istore_n 3, 1) := by decide +kernel
theorem dX2_appendXor_2 : decode cX2_appendXor 2 = .ok (.iload_n 3, 1) := by decide +kernel
theorem dX2_appendXor_3 : decode cX2_appendXor 3 = .ok (.aload_n 1, 1) := by decide +kernel
theorem dX2_appendXor_4 : decode cX2_appendXor 4 = .ok (.getfield 9, 3) := by decide +kernel
theorem dX2_appendXor_7 : decode cX2_appendXor 7 = .ok (.if_icmp .ge 21, 3) := by decide +kernel
theorem dX2_appendXor_10 : decode cX2_appendXor 10 = .ok (.aload_n 0, 1) := by decide +kernel
theorem dX2_appendXor_11 : decode cX2_appendXor 11 = .ok (.aload_n 1, 1) := by decide +kernel
theorem dX2_appendXor_12 : decode cX2_appendXor 12 = .ok (.getfield 15, 3) := by decide +kernel
theorem dX2_appendXor_15 : decode cX2_appendXor 15 = .ok (.iload_n 3, 1) := by decide +kernel
theorem dX2_appendXor_16 : decode cX2_appendXor 16 = .ok (.iaload, 1) := by decide +kernel
theorem dX2_appendXor_17 : decode cX2_appendXor 17 = .ok (.iload_n 2, 1) := by decide +kernel
theorem dX2_appendXor_18 : decode cX2_appendXor 18 = .ok (.ixor, 1) := by decide +kernel
theorem dX2_appendXor_19 : decode cX2_appendXor 19 = .ok (.invokevirtual 31, 3) := by decide +kernel
theorem dX2_appendXor_22 : decode cX2_appendXor 22 = .ok (.iinc 3 1, 3) := by decide +kernel
theorem dX2_appendXor_25 : decode cX2_appendXor 25 = .ok (.goto (-23), 3) := by decide +kernel
theorem dX2_appendXor_28 : decode cX2_appendXor 28 = .ok (.return_, 1) := by decide +kernel
set_option maxRecDepth 20000 in
theorem ggX2_putWord_X2_put : GoodIn wsX2_putWord wsX2_put := goodIn_r _ [5, 6, 7, 8, 9] (by decide +kernel) (by decide +kernel)
set_option maxRecDepth 20000 in
theorem gX2_putWord_X2_put : GoodIn wsX2_putWord (wsV RX2 31 RX2 yX2_put wsX2_put) := goodIn_app (goodIn_of _ (by decide +kernel)) ggX2_putWord_X2_put
theorem dX2_putWord_0 : decode cX2_putWord 0 = .ok (.bipush 24, 2) := by decide +kernel
theorem dX2_putWord_2 : decode cX2_putWord 2 = .ok (.istore_n 2, 1) := by decide +kernel
theorem dX2_putWord_3 : decode cX2_putWord 3 = .ok (.iload_n 2, 1) := by decide +kernel
theorem dX2_putWord_4 : decode cX2_putWord 4 = .ok (.ifCond .lt 20, 3) := by decide +kernel
theorem dX2_putWord_7 : decode cX2_putWord 7 = .ok (.aload_n 0, 1) := by decide +kernel
theorem dX2_putWord_8 : decode cX2_putWord 8 = .ok (.iload_n 1, 1) := by decide +kernel
theorem dX2_putWord_9 : decode cX2_putWord 9 = .ok (.iload_n 2, 1) := by decide +kernel
theorem dX2_putWord_10 : decode cX2_putWord 10 = .ok (.iushr, 1) := by decide +kernel
theorem dX2_putWord_11 : decode cX2_putWord 11 = .ok (.sipush 255, 3) := by decide +kernel
theorem dX2_putWord_14 : decode cX2_putWord 14 = .ok (.iand, 1) := by decide +kernel
theorem dX2_putWord_15 : decode cX2_putWord 15 = .ok (.invokevirtual 31, 3) := by decide +kernel
theorem dX2_putWord_18 : decode cX2_putWord 18 = .ok (.iinc 2 (-8), 3) := by decide +kernel
theorem dX2_putWord_21 : decode cX2_putWord 21 = .ok (.goto (-18), 3) := by decide +kernel
theorem dX2_putWord_24 : decode cX2_putWord 24 = .ok (.return_, 1) := by decide +kernel
theorem dX2_at_0 : decode cX2_at 0 = .ok (.iload_n 1, 1) := by decide +kernel
theorem dX2_at_1 : decode cX2_at 1 = .ok (.ifCond .lt 20, 3) := by decide +kernel
theorem dX2_at_4 : decode cX2_at 4 = .ok (.iload_n 1, 1) := by decide +kernel
theorem dX2_at_5 : decode cX2_at 5 = .ok (.aload_n 0, 1) := by decide +kernel
theorem dX2_at_6 : decode cX2_at 6 = .ok (.getfield 9, 3) := by decide +kernel
theorem dX2_at_9 : decode cX2_at 9 = .ok (.if_icmp .ge 12, 3) := by decide +kernel
theorem dX2_at_12 : decode cX2_at 12 = .ok (.aload_n 0, 1) := by decide +kernel
theorem dX2_at_13 : decode cX2_at 13 = .ok (.getfield 15, 3) := by decide +kernel
theorem dX2_at_16 : decode cX2_at 16 = .ok (.iload_n 1, 1) := by decide +kernel
theorem dX2_at_17 : decode cX2_at 17 = .ok (.iaload, 1) := by decide +kernel
theorem dX2_at_18 : decode cX2_at 18 = .ok (.goto 4, 3) := by decide +kernel
theorem dX2_at_21 : decode cX2_at 21 = .ok (.iconst (-1), 1) := by decide +kernel
theorem dX2_at_22 : decode cX2_at 22 = .ok (.ireturn, 1) := by decide +kernel
set_option maxRecDepth 20000 in
theorem ggX2_wordAt_X2_at : GoodIn wsX2_wordAt wsX2_at := goodIn_r _ [5, 6, 7, 8, 9] (by decide +kernel) (by decide +kernel)
set_option maxRecDepth 20000 in
theorem gX2_wordAt_X2_at : GoodIn wsX2_wordAt (wsV RX2 35 RX2 yX2_at wsX2_at) := goodIn_app (goodIn_of _ (by decide +kernel)) ggX2_wordAt_X2_at
theorem dX2_wordAt_0 : decode cX2_wordAt 0 = .ok (.aload_n 0, 1) := by decide +kernel
theorem dX2_wordAt_1 : decode cX2_wordAt 1 = .ok (.iload_n 1, 1) := by decide +kernel
theorem dX2_wordAt_2 : decode cX2_wordAt 2 = .ok (.invokevirtual 35, 3) := by decide +kernel
theorem dX2_wordAt_5 : decode cX2_wordAt 5 = .ok (.bipush 24, 2) := by decide +kernel
theorem dX2_wordAt_7 : decode cX2_wordAt 7 = .ok (.ishl, 1) := by decide +kernel
theorem dX2_wordAt_8 : decode cX2_wordAt 8 = .ok (.aload_n 0, 1) := by decide +kernel
theorem dX2_wordAt_9 : decode cX2_wordAt 9 = .ok (.iload_n 1, 1) := by decide +kernel
theorem dX2_wordAt_10 : decode cX2_wordAt 10 = .ok (.iconst 1, 1) := by decide +kernel
theorem dX2_wordAt_11 : decode cX2_wordAt 11 = .ok (.iadd, 1) := by decide +kernel
theorem dX2_wordAt_12 : decode cX2_wordAt 12 = .ok (.invokevirtual 35, 3) := by decide +kernel
theorem dX2_wordAt_15 : decode cX2_wordAt 15 = .ok (.bipush 16, 2) := by decide +kernel
theorem dX2_wordAt_17 : decode cX2_wordAt 17 = .ok (.ishl, 1) := by decide +kernel
theorem dX2_wordAt_18 : decode cX2_wordAt 18 = .ok (.ior, 1) := by decide +kernel
theorem dX2_wordAt_19 : decode cX2_wordAt 19 = .ok (.aload_n 0, 1) := by decide +kernel
theorem dX2_wordAt_20 : decode cX2_wordAt 20 = .ok (.iload_n 1, 1) := by decide +kernel
theorem dX2_wordAt_21 : decode cX2_wordAt 21 = .ok (.iconst 2, 1) := by decide +kernel
theorem dX2_wordAt_22 : decode cX2_wordAt 22 = .ok (.iadd, 1) := by decide +kernel
theorem dX2_wordAt_23 : decode cX2_wordAt 23 = .ok (.invokevirtual 35, 3) := by decide +kernel
theorem dX2_wordAt_26 : decode cX2_wordAt 26 = .ok (.bipush 8, 2) := by decide +kernel
theorem dX2_wordAt_28 : decode cX2_wordAt 28 = .ok (.ishl, 1) := by decide +kernel
theorem dX2_wordAt_29 : decode cX2_wordAt 29 = .ok (.ior, 1) := by decide +kernel
theorem dX2_wordAt_30 : decode cX2_wordAt 30 = .ok (.aload_n 0, 1) := by decide +kernel
theorem dX2_wordAt_31 : decode cX2_wordAt 31 = .ok (.iload_n 1, 1) := by decide +kernel
theorem dX2_wordAt_32 : decode cX2_wordAt 32 = .ok (.iconst 3, 1) := by decide +kernel
theorem dX2_wordAt_33 : decode cX2_wordAt 33 = .ok (.iadd, 1) := by decide +kernel
theorem dX2_wordAt_34 : decode cX2_wordAt 34 = .ok (.invokevirtual 35, 3) := by decide +kernel
theorem dX2_wordAt_37 : decode cX2_wordAt 37 = .ok (.ior, 1) := by decide +kernel
theorem dX2_wordAt_38 : decode cX2_wordAt 38 = .ok (.ireturn, 1) := by decide +kernel
theorem dX2_sameAs_0 : decode cX2_sameAs 0 = .ok (.aload_n 0, 1) := by decide +kernel
theorem dX2_sameAs_1 : decode cX2_sameAs 1 = .ok (.getfield 9, 3) := by decide +kernel
theorem dX2_sameAs_4 : decode cX2_sameAs 4 = .ok (.aload_n 1, 1) := by decide +kernel
theorem dX2_sameAs_5 : decode cX2_sameAs 5 = .ok (.getfield 9, 3) := by decide +kernel
theorem dX2_sameAs_8 : decode cX2_sameAs 8 = .ok (.if_icmp .eq 5, 3) := by decide +kernel
theorem dX2_sameAs_11 : decode cX2_sameAs 11 = .ok (.iconst 0, 1) := by decide +kernel
theorem dX2_sameAs_12 : decode cX2_sameAs 12 = .ok (.ireturn, 1) := by decide +kernel
theorem dX2_sameAs_13 : decode cX2_sameAs 13 = .ok (.iconst 0, 1) := by decide +kernel
theorem dX2_sameAs_14 : decode cX2_sameAs 14 = .ok (.istore_n 2, 1) := by decide +kernel
theorem dX2_sameAs_15 : decode cX2_sameAs 15 = .ok (.iload_n 2, 1) := by decide +kernel
theorem dX2_sameAs_16 : decode cX2_sameAs 16 = .ok (.aload_n 0, 1) := by decide +kernel
theorem dX2_sameAs_17 : decode cX2_sameAs 17 = .ok (.getfield 9, 3) := by decide +kernel
theorem dX2_sameAs_20 : decode cX2_sameAs 20 = .ok (.if_icmp .ge 26, 3) := by decide +kernel
theorem dX2_sameAs_23 : decode cX2_sameAs 23 = .ok (.aload_n 0, 1) := by decide +kernel
theorem dX2_sameAs_24 : decode cX2_sameAs 24 = .ok (.getfield 15, 3) := by decide +kernel
theorem dX2_sameAs_27 : decode cX2_sameAs 27 = .ok (.iload_n 2, 1) := by decide +kernel
theorem dX2_sameAs_28 : decode cX2_sameAs 28 = .ok (.iaload, 1) := by decide +kernel
theorem dX2_sameAs_29 : decode cX2_sameAs 29 = .ok (.aload_n 1, 1) := by decide +kernel
theorem dX2_sameAs_30 : decode cX2_sameAs 30 = .ok (.getfield 15, 3) := by decide +kernel
theorem dX2_sameAs_33 : decode cX2_sameAs 33 = .ok (.iload_n 2, 1) := by decide +kernel
theorem dX2_sameAs_34 : decode cX2_sameAs 34 = .ok (.iaload, 1) := by decide +kernel
theorem dX2_sameAs_35 : decode cX2_sameAs 35 = .ok (.if_icmp .eq 5, 3) := by decide +kernel
theorem dX2_sameAs_38 : decode cX2_sameAs 38 = .ok (.iconst 0, 1) := by decide +kernel
theorem dX2_sameAs_39 : decode cX2_sameAs 39 = .ok (.ireturn, 1) := by decide +kernel
theorem dX2_sameAs_40 : decode cX2_sameAs 40 = .ok (.iinc 2 1, 3) := by decide +kernel
theorem dX2_sameAs_43 : decode cX2_sameAs 43 = .ok (.goto (-28), 3) := by decide +kernel
theorem dX2_sameAs_46 : decode cX2_sameAs 46 = .ok (.iconst 1, 1) := by decide +kernel
theorem dX2_sameAs_47 : decode cX2_sameAs 47 = .ok (.ireturn, 1) := by decide +kernel
theorem dJ6_rotateRight_7cf53_0 : decode cJ6_rotateRight_7cf53 0 = .ok (.iload_n 0, 1) := by decide +kernel
theorem dJ6_rotateRight_7cf53_1 : decode cJ6_rotateRight_7cf53 1 = .ok (.iload_n 1, 1) := by decide +kernel
theorem dJ6_rotateRight_7cf53_2 : decode cJ6_rotateRight_7cf53 2 = .ok (.iushr, 1) := by decide +kernel
theorem dJ6_rotateRight_7cf53_3 : decode cJ6_rotateRight_7cf53 3 = .ok (.iload_n 0, 1) := by decide +kernel
theorem dJ6_rotateRight_7cf53_4 : decode cJ6_rotateRight_7cf53 4 = .ok (.iload_n 1, 1) := by decide +kernel
theorem dJ6_rotateRight_7cf53_5 : decode cJ6_rotateRight_7cf53 5 = .ok (.ineg, 1) := by decide +kernel
theorem dJ6_rotateRight_7cf53_6 : decode cJ6_rotateRight_7cf53 6 = .ok (.ishl, 1) := by decide +kernel
theorem dJ6_rotateRight_7cf53_7 : decode cJ6_rotateRight_7cf53 7 = .ok (.ior, 1) := by decide +kernel
theorem dJ6_rotateRight_7cf53_8 : decode cJ6_rotateRight_7cf53 8 = .ok (.ireturn, 1) := by decide +kernel
theorem dJ9_floorMod_7cf53_0 : decode cJ9_floorMod_7cf53 0 = .ok (.iload_n 0, 1) := by decide +kernel
theorem dJ9_floorMod_7cf53_1 : decode cJ9_floorMod_7cf53 1 = .ok (.iload_n 1, 1) := by decide +kernel
theorem dJ9_floorMod_7cf53_2 : decode cJ9_floorMod_7cf53 2 = .ok (.irem, 1) := by decide +kernel
theorem dJ9_floorMod_7cf53_3 : decode cJ9_floorMod_7cf53 3 = .ok (.istore_n 2, 1) := by decide +kernel
theorem dJ9_floorMod_7cf53_4 : decode cJ9_floorMod_7cf53 4 = .ok (.iload_n 0, 1) := by decide +kernel
theorem dJ9_floorMod_7cf53_5 : decode cJ9_floorMod_7cf53 5 = .ok (.iload_n 1, 1) := by decide +kernel
theorem dJ9_floorMod_7cf53_6 : decode cJ9_floorMod_7cf53 6 = .ok (.ixor, 1) := by decide +kernel
theorem dJ9_floorMod_7cf53_7 : decode cJ9_floorMod_7cf53 7 = .ok (.ifCond .ge 11, 3) := by decide +kernel
theorem dJ9_floorMod_7cf53_10 : decode cJ9_floorMod_7cf53 10 = .ok (.iload_n 2, 1) := by decide +kernel
theorem dJ9_floorMod_7cf53_11 : decode cJ9_floorMod_7cf53 11 = .ok (.ifCond .eq 7, 3) := by decide +kernel
theorem dJ9_floorMod_7cf53_14 : decode cJ9_floorMod_7cf53 14 = .ok (.iload_n 2, 1) := by decide +kernel
theorem dJ9_floorMod_7cf53_15 : decode cJ9_floorMod_7cf53 15 = .ok (.iload_n 1, 1) := by decide +kernel
theorem dJ9_floorMod_7cf53_16 : decode cJ9_floorMod_7cf53 16 = .ok (.iadd, 1) := by decide +kernel
theorem dJ9_floorMod_7cf53_17 : decode cJ9_floorMod_7cf53 17 = .ok (.ireturn, 1) := by decide +kernel
theorem dJ9_floorMod_7cf53_18 : decode cJ9_floorMod_7cf53 18 = .ok (.iload_n 2, 1) := by decide +kernel
theorem dJ9_floorMod_7cf53_19 : decode cJ9_floorMod_7cf53 19 = .ok (.ireturn, 1) := by decide +kernel
theorem dJ9_min_7cf53_0 : decode cJ9_min_7cf53 0 = .ok (.iload_n 0, 1) := by decide +kernel
theorem dJ9_min_7cf53_1 : decode cJ9_min_7cf53 1 = .ok (.iload_n 1, 1) := by decide +kernel
theorem dJ9_min_7cf53_2 : decode cJ9_min_7cf53 2 = .ok (.if_icmp .gt 7, 3) := by decide +kernel
theorem dJ9_min_7cf53_5 : decode cJ9_min_7cf53 5 = .ok (.iload_n 0, 1) := by decide +kernel
theorem dJ9_min_7cf53_6 : decode cJ9_min_7cf53 6 = .ok (.goto 4, 3) := by decide +kernel
theorem dJ9_min_7cf53_9 : decode cJ9_min_7cf53 9 = .ok (.iload_n 1, 1) := by decide +kernel
theorem dJ9_min_7cf53_10 : decode cJ9_min_7cf53 10 = .ok (.ireturn, 1) := by decide +kernel
theorem dJ7_fill_53178_0 : decode cJ7_fill_53178 0 = .ok (.iconst 0, 1) := by decide +kernel
theorem dJ7_fill_53178_1 : decode cJ7_fill_53178 1 = .ok (.istore_n 2, 1) := by decide +kernel
theorem dJ7_fill_53178_2 : decode cJ7_fill_53178 2 = .ok (.aload_n 0, 1) := by decide +kernel
theorem dJ7_fill_53178_3 : decode cJ7_fill_53178 3 = .ok (.arraylength, 1) := by decide +kernel
theorem dJ7_fill_53178_4 : decode cJ7_fill_53178 4 = .ok (.istore_n 3, 1) := by decide +kernel
theorem dJ7_fill_53178_5 : decode cJ7_fill_53178 5 = .ok (.iload_n 2, 1) := by decide +kernel
theorem dJ7_fill_53178_6 : decode cJ7_fill_53178 6 = .ok (.iload_n 3, 1) := by decide +kernel
theorem dJ7_fill_53178_7 : decode cJ7_fill_53178 7 = .ok (.if_icmp .ge 13, 3) := by decide +kernel
theorem dJ7_fill_53178_10 : decode cJ7_fill_53178 10 = .ok (.aload_n 0, 1) := by decide +kernel
theorem dJ7_fill_53178_11 : decode cJ7_fill_53178 11 = .ok (.iload_n 2, 1) := by decide +kernel
theorem dJ7_fill_53178_12 : decode cJ7_fill_53178 12 = .ok (.iload_n 1, 1) := by decide +kernel
theorem dJ7_fill_53178_13 : decode cJ7_fill_53178 13 = .ok (.iastore, 1) := by decide +kernel
theorem dJ7_fill_53178_14 : decode cJ7_fill_53178 14 = .ok (.iinc 2 1, 3) := by decide +kernel
theorem dJ7_fill_53178_17 : decode cJ7_fill_53178 17 = .ok (.goto (-12), 3) := by decide +kernel
theorem dJ7_fill_53178_20 : decode cJ7_fill_53178 20 = .ok (.return_, 1) := by decide +kernel
