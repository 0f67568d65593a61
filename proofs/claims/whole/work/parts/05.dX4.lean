set_option maxRecDepth 20000 in
theorem ggX4_init_X2_init : GoodIn wsX4_init wsX2_init := goodIn_r _ [27, 28, 2, 3, 4, 29, 68, 69] (by decide +kernel) (by decide +kernel)
set_option maxRecDepth 20000 in
theorem gX4_init_X2_init : GoodIn wsX4_init (wsX2_init) := ggX4_init_X2_init
set_option maxRecDepth 20000 in
theorem ggX4_init_X0_init : GoodIn wsX4_init wsX0_init := goodIn_r _ [32, 33, 2, 3, 34, 35, 36, 4, 37, 38, 39, 40, 41, 42, 70, 71, 72, 73, 74, 75, 76, 77, 78] (by decide +kernel) (by decide +kernel)
set_option maxRecDepth 20000 in
theorem gX4_init_X0_init : GoodIn wsX4_init (wsX0_init) := ggX4_init_X0_init
set_option maxRecDepth 20000 in
theorem ggX4_init_X3_init : GoodIn wsX4_init wsX3_init := goodIn_r _ [45, 46, 2, 3, 4, 47, 48, 49, 34, 50, 79, 80, 81, 82, 83] (by decide +kernel) (by decide +kernel)
set_option maxRecDepth 20000 in
theorem gX4_init_X3_init : GoodIn wsX4_init (wsX3_init) := ggX4_init_X3_init
set_option maxRecDepth 20000 in
theorem ggX4_init_X1_init : GoodIn wsX4_init wsX1_init := goodIn_r _ [53, 54, 2, 3, 4, 55, 56, 57, 84, 85, 86, 87, 88, 89, 90, 91] (by decide +kernel) (by decide +kernel)
set_option maxRecDepth 20000 in
theorem gX4_init_X1_init : GoodIn wsX4_init (wsX1_init) := ggX4_init_X1_init
theorem dX4_init_0 : decode cX4_init 0 = .ok (.aload_n 0, 1) := by decide +kernel
theorem dX4_init_1 : decode cX4_init 1 = .ok (.invokespecial 3, 3) := by decide +kernel
theorem dX4_init_4 : decode cX4_init 4 = .ok (.aload_n 0, 1) := by decide +kernel
theorem dX4_init_5 : decode cX4_init 5 = .ok (.iconst 5, 1) := by decide +kernel
theorem dX4_init_6 : decode cX4_init 6 = .ok (.newarray .int, 2) := by decide +kernel
theorem dX4_init_8 : decode cX4_init 8 = .ok (.putfield 9, 3) := by decide +kernel
theorem dX4_init_11 : decode cX4_init 11 = .ok (.aload_n 0, 1) := by decide +kernel
theorem dX4_init_12 : decode cX4_init 12 = .ok (.getfield 9, 3) := by decide +kernel
theorem dX4_init_15 : decode cX4_init 15 = .ok (.iconst 0, 1) := by decide +kernel
theorem dX4_init_16 : decode cX4_init 16 = .ok (.bipush 20, 2) := by decide +kernel
theorem dX4_init_18 : decode cX4_init 18 = .ok (.iastore, 1) := by decide +kernel
theorem dX4_init_19 : decode cX4_init 19 = .ok (.aload_n 0, 1) := by decide +kernel
theorem dX4_init_20 : decode cX4_init 20 = .ok (.getfield 9, 3) := by decide +kernel
theorem dX4_init_23 : decode cX4_init 23 = .ok (.iconst 1, 1) := by decide +kernel
theorem dX4_init_24 : decode cX4_init 24 = .ok (.iconst 2, 1) := by decide +kernel
theorem dX4_init_25 : decode cX4_init 25 = .ok (.iastore, 1) := by decide +kernel
theorem dX4_init_26 : decode cX4_init 26 = .ok (.aload_n 0, 1) := by decide +kernel
theorem dX4_init_27 : decode cX4_init 27 = .ok (.getfield 9, 3) := by decide +kernel
theorem dX4_init_30 : decode cX4_init 30 = .ok (.iconst 2, 1) := by decide +kernel
theorem dX4_init_31 : decode cX4_init 31 = .ok (.iconst 2, 1) := by decide +kernel
theorem dX4_init_32 : decode cX4_init 32 = .ok (.iastore, 1) := by decide +kernel
theorem dX4_init_33 : decode cX4_init 33 = .ok (.aload_n 0, 1) := by decide +kernel
theorem dX4_init_34 : decode cX4_init 34 = .ok (.getfield 9, 3) := by decide +kernel
theorem dX4_init_37 : decode cX4_init 37 = .ok (.iconst 3, 1) := by decide +kernel
theorem dX4_init_38 : decode cX4_init 38 = .ok (.bipush 10, 2) := by decide +kernel
theorem dX4_init_40 : decode cX4_init 40 = .ok (.iastore, 1) := by decide +kernel
theorem dX4_init_41 : decode cX4_init 41 = .ok (.aload_n 0, 1) := by decide +kernel
theorem dX4_init_42 : decode cX4_init 42 = .ok (.getfield 9, 3) := by decide +kernel
theorem dX4_init_45 : decode cX4_init 45 = .ok (.iconst 4, 1) := by decide +kernel
theorem dX4_init_46 : decode cX4_init 46 = .ok (.bipush 20, 2) := by decide +kernel
theorem dX4_init_48 : decode cX4_init 48 = .ok (.iastore, 1) := by decide +kernel
theorem dX4_init_49 : decode cX4_init 49 = .ok (.aload_n 0, 1) := by decide +kernel
theorem dX4_init_50 : decode cX4_init 50 = .ok (.bipush 6, 2) := by decide +kernel
theorem dX4_init_52 : decode cX4_init 52 = .ok (.newarray .int, 2) := by decide +kernel
theorem dX4_init_54 : decode cX4_init 54 = .ok (.putfield 13, 3) := by decide +kernel
theorem dX4_init_57 : decode cX4_init 57 = .ok (.aload_n 0, 1) := by decide +kernel
theorem dX4_init_58 : decode cX4_init 58 = .ok (.new 16, 3) := by decide +kernel
theorem dX4_init_61 : decode cX4_init 61 = .ok (.dup, 1) := by decide +kernel
theorem dX4_init_62 : decode cX4_init 62 = .ok (.invokespecial 18, 3) := by decide +kernel
theorem dX4_init_65 : decode cX4_init 65 = .ok (.putfield 19, 3) := by decide +kernel
theorem dX4_init_68 : decode cX4_init 68 = .ok (.aload_n 0, 1) := by decide +kernel
theorem dX4_init_69 : decode cX4_init 69 = .ok (.new 23, 3) := by decide +kernel
theorem dX4_init_72 : decode cX4_init 72 = .ok (.dup, 1) := by decide +kernel
theorem dX4_init_73 : decode cX4_init 73 = .ok (.invokespecial 25, 3) := by decide +kernel
theorem dX4_init_76 : decode cX4_init 76 = .ok (.putfield 26, 3) := by decide +kernel
theorem dX4_init_79 : decode cX4_init 79 = .ok (.aload_n 0, 1) := by decide +kernel
theorem dX4_init_80 : decode cX4_init 80 = .ok (.new 30, 3) := by decide +kernel
theorem dX4_init_83 : decode cX4_init 83 = .ok (.dup, 1) := by decide +kernel
theorem dX4_init_84 : decode cX4_init 84 = .ok (.invokespecial 32, 3) := by decide +kernel
theorem dX4_init_87 : decode cX4_init 87 = .ok (.putfield 33, 3) := by decide +kernel
theorem dX4_init_90 : decode cX4_init 90 = .ok (.aload_n 0, 1) := by decide +kernel
theorem dX4_init_91 : decode cX4_init 91 = .ok (.bipush 26, 2) := by decide +kernel
theorem dX4_init_93 : decode cX4_init 93 = .ok (.newarray .int, 2) := by decide +kernel
theorem dX4_init_95 : decode cX4_init 95 = .ok (.putfield 37, 3) := by decide +kernel
theorem dX4_init_98 : decode cX4_init 98 = .ok (.aload_n 0, 1) := by decide +kernel
theorem dX4_init_99 : decode cX4_init 99 = .ok (.new 40, 3) := by decide +kernel
theorem dX4_init_102 : decode cX4_init 102 = .ok (.dup, 1) := by decide +kernel
theorem dX4_init_103 : decode cX4_init 103 = .ok (.invokespecial 42, 3) := by decide +kernel
theorem dX4_init_106 : decode cX4_init 106 = .ok (.putfield 43, 3) := by decide +kernel
theorem dX4_init_109 : decode cX4_init 109 = .ok (.aload_n 0, 1) := by decide +kernel
theorem dX4_init_110 : decode cX4_init 110 = .ok (.new 40, 3) := by decide +kernel
theorem dX4_init_113 : decode cX4_init 113 = .ok (.dup, 1) := by decide +kernel
theorem dX4_init_114 : decode cX4_init 114 = .ok (.invokespecial 42, 3) := by decide +kernel
theorem dX4_init_117 : decode cX4_init 117 = .ok (.putfield 47, 3) := by decide +kernel
theorem dX4_init_120 : decode cX4_init 120 = .ok (.return_, 1) := by decide +kernel
theorem dX4_set_0 : decode cX4_set 0 = .ok (.iload_n 1, 1) := by decide +kernel
theorem dX4_set_1 : decode cX4_set 1 = .ok (.ifCond .lt 8, 3) := by decide +kernel
theorem dX4_set_4 : decode cX4_set 4 = .ok (.iload_n 1, 1) := by decide +kernel
theorem dX4_set_5 : decode cX4_set 5 = .ok (.iconst 5, 1) := by decide +kernel
theorem dX4_set_6 : decode cX4_set 6 = .ok (.if_icmp .lt 13, 3) := by decide +kernel
theorem dX4_set_9 : decode cX4_set 9 = .ok (.new 50, 3) := by decide +kernel
theorem dX4_set_12 : decode cX4_set 12 = .ok (.dup, 1) := by decide +kernel
theorem dX4_set_13 : decode cX4_set 13 = .ok (.ldc 52, 2) := by decide +kernel
theorem dX4_set_15 : decode cX4_set 15 = .ok (.invokespecial 54, 3) := by decide +kernel
theorem dX4_set_18 : decode cX4_set 18 = .ok (.athrow, 1) := by decide +kernel
theorem dX4_set_19 : decode cX4_set 19 = .ok (.iload_n 2, 1) := by decide +kernel
theorem dX4_set_20 : decode cX4_set 20 = .ok (.getstatic 57, 3) := by decide +kernel
theorem dX4_set_23 : decode cX4_set 23 = .ok (.iload_n 1, 1) := by decide +kernel
theorem dX4_set_24 : decode cX4_set 24 = .ok (.iaload, 1) := by decide +kernel
theorem dX4_set_25 : decode cX4_set 25 = .ok (.if_icmp .lt 12, 3) := by decide +kernel
theorem dX4_set_28 : decode cX4_set 28 = .ok (.iload_n 2, 1) := by decide +kernel
theorem dX4_set_29 : decode cX4_set 29 = .ok (.getstatic 60, 3) := by decide +kernel
theorem dX4_set_32 : decode cX4_set 32 = .ok (.iload_n 1, 1) := by decide +kernel
theorem dX4_set_33 : decode cX4_set 33 = .ok (.iaload, 1) := by decide +kernel
theorem dX4_set_34 : decode cX4_set 34 = .ok (.if_icmp .le 13, 3) := by decide +kernel
theorem dX4_set_37 : decode cX4_set 37 = .ok (.new 50, 3) := by decide +kernel
theorem dX4_set_40 : decode cX4_set 40 = .ok (.dup, 1) := by decide +kernel
theorem dX4_set_41 : decode cX4_set 41 = .ok (.ldc 63, 2) := by decide +kernel
theorem dX4_set_43 : decode cX4_set 43 = .ok (.invokespecial 54, 3) := by decide +kernel
theorem dX4_set_46 : decode cX4_set 46 = .ok (.athrow, 1) := by decide +kernel
theorem dX4_set_47 : decode cX4_set 47 = .ok (.aload_n 0, 1) := by decide +kernel
theorem dX4_set_48 : decode cX4_set 48 = .ok (.getfield 9, 3) := by decide +kernel
theorem dX4_set_51 : decode cX4_set 51 = .ok (.iload_n 1, 1) := by decide +kernel
theorem dX4_set_52 : decode cX4_set 52 = .ok (.iaload, 1) := by decide +kernel
theorem dX4_set_53 : decode cX4_set 53 = .ok (.istore_n 3, 1) := by decide +kernel
theorem dX4_set_54 : decode cX4_set 54 = .ok (.aload_n 0, 1) := by decide +kernel
theorem dX4_set_55 : decode cX4_set 55 = .ok (.getfield 9, 3) := by decide +kernel
theorem dX4_set_58 : decode cX4_set 58 = .ok (.iload_n 1, 1) := by decide +kernel
theorem dX4_set_59 : decode cX4_set 59 = .ok (.iload_n 2, 1) := by decide +kernel
theorem dX4_set_60 : decode cX4_set 60 = .ok (.iastore, 1) := by decide +kernel
theorem dX4_set_61 : decode cX4_set 61 = .ok (.iload_n 3, 1) := by decide +kernel
theorem dX4_set_62 : decode cX4_set 62 = .ok (.ireturn, 1) := by decide +kernel
theorem dX4_push_0 : decode cX4_push 0 = .ok (.iload_n 1, 1) := by decide +kernel
theorem dX4_push_1 : decode cX4_push 1 = .ok (.iconst 1, 1) := by decide +kernel
theorem dX4_push_2 : decode cX4_push 2 = .ok (.if_icmp .lt 9, 3) := by decide +kernel
theorem dX4_push_5 : decode cX4_push 5 = .ok (.iload_n 1, 1) := by decide +kernel
theorem dX4_push_6 : decode cX4_push 6 = .ok (.bipush 20, 2) := by decide +kernel
theorem dX4_push_8 : decode cX4_push 8 = .ok (.if_icmp .le 13, 3) := by decide +kernel
theorem dX4_push_11 : decode cX4_push 11 = .ok (.new 50, 3) := by decide +kernel
theorem dX4_push_14 : decode cX4_push 14 = .ok (.dup, 1) := by decide +kernel
theorem dX4_push_15 : decode cX4_push 15 = .ok (.ldc 65, 2) := by decide +kernel
theorem dX4_push_17 : decode cX4_push 17 = .ok (.invokespecial 54, 3) := by decide +kernel
theorem dX4_push_20 : decode cX4_push 20 = .ok (.athrow, 1) := by decide +kernel
theorem dX4_push_21 : decode cX4_push 21 = .ok (.aload_n 0, 1) := by decide +kernel
theorem dX4_push_22 : decode cX4_push 22 = .ok (.getfield 67, 3) := by decide +kernel
theorem dX4_push_25 : decode cX4_push 25 = .ok (.bipush 6, 2) := by decide +kernel
theorem dX4_push_27 : decode cX4_push 27 = .ok (.if_icmp .lt 5, 3) := by decide +kernel
theorem dX4_push_30 : decode cX4_push 30 = .ok (.iconst (-1), 1) := by decide +kernel
theorem dX4_push_31 : decode cX4_push 31 = .ok (.ireturn, 1) := by decide +kernel
theorem dX4_push_32 : decode cX4_push 32 = .ok (.aload_n 0, 1) := by decide +kernel
theorem dX4_push_33 : decode cX4_push 33 = .ok (.getfield 13, 3) := by decide +kernel
theorem dX4_push_36 : decode cX4_push 36 = .ok (.aload_n 0, 1) := by decide +kernel
theorem dX4_push_37 : decode cX4_push 37 = .ok (.getfield 67, 3) := by decide +kernel
theorem dX4_push_40 : decode cX4_push 40 = .ok (.iload_n 1, 1) := by decide +kernel
theorem dX4_push_41 : decode cX4_push 41 = .ok (.iastore, 1) := by decide +kernel
theorem dX4_push_42 : decode cX4_push 42 = .ok (.aload_n 0, 1) := by decide +kernel
theorem dX4_push_43 : decode cX4_push 43 = .ok (.dup, 1) := by decide +kernel
theorem dX4_push_44 : decode cX4_push 44 = .ok (.getfield 67, 3) := by decide +kernel
theorem dX4_push_47 : decode cX4_push 47 = .ok (.iconst 1, 1) := by decide +kernel
theorem dX4_push_48 : decode cX4_push 48 = .ok (.iadd, 1) := by decide +kernel
theorem dX4_push_49 : decode cX4_push 49 = .ok (.putfield 67, 3) := by decide +kernel
theorem dX4_push_52 : decode cX4_push 52 = .ok (.aload_n 0, 1) := by decide +kernel
theorem dX4_push_53 : decode cX4_push 53 = .ok (.getfield 67, 3) := by decide +kernel
theorem dX4_push_56 : decode cX4_push 56 = .ok (.ireturn, 1) := by decide +kernel
set_option maxRecDepth 20000 in
theorem ggX4_feed_X2_hasRoom : GoodIn wsX4_feed wsX2_hasRoom := goodIn_r _ [6, 7, 27, 28] (by decide +kernel) (by decide +kernel)
set_option maxRecDepth 20000 in
theorem gX4_feed_X2_hasRoom : GoodIn wsX4_feed (wsV RX4 71 RX2 yX2_hasRoom wsX2_hasRoom) := goodIn_app (goodIn_of _ (by decide +kernel)) ggX4_feed_X2_hasRoom
set_option maxRecDepth 20000 in
theorem ggX4_feed_X2_append : GoodIn wsX4_feed wsX2_append := goodIn_r _ [11, 7, 12, 27, 28] (by decide +kernel) (by decide +kernel)
set_option maxRecDepth 20000 in
theorem gX4_feed_X2_append : GoodIn wsX4_feed (wsV RX4 75 RX2 yX2_append wsX2_append) := goodIn_app (goodIn_of _ (by decide +kernel)) ggX4_feed_X2_append
set_option maxRecDepth 20000 in
theorem ggX4_feed_X2_length : GoodIn wsX4_feed wsX2_length := goodIn_r _ [16, 7, 27, 28] (by decide +kernel) (by decide +kernel)
set_option maxRecDepth 20000 in
theorem gX4_feed_X2_length : GoodIn wsX4_feed (wsV RX4 79 RX2 yX2_length wsX2_length) := goodIn_app (goodIn_of _ (by decide +kernel)) ggX4_feed_X2_length
theorem dX4_feed_0 : decode cX4_feed 0 = .ok (.aload_n 0, 1) := by decide +kernel
theorem dX4_feed_1 : decode cX4_feed 1 = .ok (.getfield 19, 3) := by decide +kernel
theorem dX4_feed_4 : decode cX4_feed 4 = .ok (.invokevirtual 71, 3) := by decide +kernel
theorem dX4_feed_7 : decode cX4_feed 7 = .ok (.ifCond .ne 5, 3) := by decide +kernel
theorem dX4_feed_10 : decode cX4_feed 10 = .ok (.iconst (-1), 1) := by decide +kernel
theorem dX4_feed_11 : decode cX4_feed 11 = .ok (.ireturn, 1) := by decide +kernel
theorem dX4_feed_12 : decode cX4_feed 12 = .ok (.aload_n 0, 1) := by decide +kernel
theorem dX4_feed_13 : decode cX4_feed 13 = .ok (.getfield 19, 3) := by decide +kernel
theorem dX4_feed_16 : decode cX4_feed 16 = .ok (.iload_n 1, 1) := by decide +kernel
theorem dX4_feed_17 : decode cX4_feed 17 = .ok (.invokevirtual 75, 3) := by decide +kernel
theorem dX4_feed_20 : decode cX4_feed 20 = .ok (.aload_n 0, 1) := by decide +kernel
theorem dX4_feed_21 : decode cX4_feed 21 = .ok (.getfield 19, 3) := by decide +kernel
theorem dX4_feed_24 : decode cX4_feed 24 = .ok (.iload_n 2, 1) := by decide +kernel
theorem dX4_feed_25 : decode cX4_feed 25 = .ok (.invokevirtual 75, 3) := by decide +kernel
theorem dX4_feed_28 : decode cX4_feed 28 = .ok (.aload_n 0, 1) := by decide +kernel
theorem dX4_feed_29 : decode cX4_feed 29 = .ok (.getfield 19, 3) := by decide +kernel
theorem dX4_feed_32 : decode cX4_feed 32 = .ok (.iload_n 3, 1) := by decide +kernel
theorem dX4_feed_33 : decode cX4_feed 33 = .ok (.invokevirtual 75, 3) := by decide +kernel
theorem dX4_feed_36 : decode cX4_feed 36 = .ok (.aload_n 0, 1) := by decide +kernel
theorem dX4_feed_37 : decode cX4_feed 37 = .ok (.getfield 19, 3) := by decide +kernel
theorem dX4_feed_40 : decode cX4_feed 40 = .ok (.iload 4, 2) := by decide +kernel
theorem dX4_feed_42 : decode cX4_feed 42 = .ok (.invokevirtual 75, 3) := by decide +kernel
theorem dX4_feed_45 : decode cX4_feed 45 = .ok (.aload_n 0, 1) := by decide +kernel
theorem dX4_feed_46 : decode cX4_feed 46 = .ok (.getfield 19, 3) := by decide +kernel
theorem dX4_feed_49 : decode cX4_feed 49 = .ok (.iload 5, 2) := by decide +kernel
theorem dX4_feed_51 : decode cX4_feed 51 = .ok (.invokevirtual 75, 3) := by decide +kernel
theorem dX4_feed_54 : decode cX4_feed 54 = .ok (.aload_n 0, 1) := by decide +kernel
theorem dX4_feed_55 : decode cX4_feed 55 = .ok (.getfield 19, 3) := by decide +kernel
theorem dX4_feed_58 : decode cX4_feed 58 = .ok (.invokevirtual 79, 3) := by decide +kernel
theorem dX4_feed_61 : decode cX4_feed 61 = .ok (.ireturn, 1) := by decide +kernel
set_option maxRecDepth 20000 in
theorem ggX4_entry_X2_length : GoodIn wsX4_entry wsX2_length := goodIn_r _ [11, 12, 48, 49] (by decide +kernel) (by decide +kernel)
set_option maxRecDepth 20000 in
theorem gX4_entry_X2_length : GoodIn wsX4_entry (wsV RX4 79 RX2 yX2_length wsX2_length) := goodIn_app (goodIn_of _ (by decide +kernel)) ggX4_entry_X2_length
set_option maxRecDepth 20000 in
theorem ggX4_entry_X2_headAt : GoodIn wsX4_entry wsX2_headAt := goodIn_r _ [16, 12, 17, 48, 49] (by decide +kernel) (by decide +kernel)
set_option maxRecDepth 20000 in
theorem gX4_entry_X2_headAt : GoodIn wsX4_entry (wsV RX4 85 RX2 yX2_headAt wsX2_headAt) := goodIn_app (goodIn_of _ (by decide +kernel)) ggX4_entry_X2_headAt
set_option maxRecDepth 20000 in
theorem ggX4_entry_X2_clear : GoodIn wsX4_entry wsX2_clear := goodIn_r _ [21, 12, 48, 49] (by decide +kernel) (by decide +kernel)
set_option maxRecDepth 20000 in
theorem gX4_entry_X2_clear : GoodIn wsX4_entry (wsV RX4 89 RX2 yX2_clear wsX2_clear) := goodIn_app (goodIn_of _ (by decide +kernel)) ggX4_entry_X2_clear
set_option maxRecDepth 20000 in
theorem ggX4_entry_X0_admit : GoodIn wsX4_entry wsX0_admit := goodIn_r _ [26, 27, 28, 29, 30, 31, 32, 33, 34, 35, 36, 25, 37, 50, 51, 52, 53, 54, 55, 56, 57, 58] (by decide +kernel) (by decide +kernel)
set_option maxRecDepth 20000 in
theorem gX4_entry_X0_admit : GoodIn wsX4_entry (wsV RX4 92 RX0 yX0_admit wsX0_admit) := goodIn_app (goodIn_of _ (by decide +kernel)) ggX4_entry_X0_admit
theorem dX4_entry_0 : decode cX4_entry 0 = .ok (.iload_n 1, 1) := by decide +kernel
theorem dX4_entry_1 : decode cX4_entry 1 = .ok (.ifCond .lt 14, 3) := by decide +kernel
theorem dX4_entry_4 : decode cX4_entry 4 = .ok (.iload_n 1, 1) := by decide +kernel
theorem dX4_entry_5 : decode cX4_entry 5 = .ok (.aload_n 0, 1) := by decide +kernel
theorem dX4_entry_6 : decode cX4_entry 6 = .ok (.getfield 19, 3) := by decide +kernel
theorem dX4_entry_9 : decode cX4_entry 9 = .ok (.invokevirtual 79, 3) := by decide +kernel
theorem dX4_entry_12 : decode cX4_entry 12 = .ok (.if_icmp .le 13, 3) := by decide +kernel
theorem dX4_entry_15 : decode cX4_entry 15 = .ok (.new 50, 3) := by decide +kernel
theorem dX4_entry_18 : decode cX4_entry 18 = .ok (.dup, 1) := by decide +kernel
theorem dX4_entry_19 : decode cX4_entry 19 = .ok (.ldc 83, 2) := by decide +kernel
theorem dX4_entry_21 : decode cX4_entry 21 = .ok (.invokespecial 54, 3) := by decide +kernel
theorem dX4_entry_24 : decode cX4_entry 24 = .ok (.athrow, 1) := by decide +kernel
theorem dX4_entry_25 : decode cX4_entry 25 = .ok (.aload_n 0, 1) := by decide +kernel
theorem dX4_entry_26 : decode cX4_entry 26 = .ok (.getfield 19, 3) := by decide +kernel
theorem dX4_entry_29 : decode cX4_entry 29 = .ok (.iconst 0, 1) := by decide +kernel
theorem dX4_entry_30 : decode cX4_entry 30 = .ok (.iload_n 1, 1) := by decide +kernel
theorem dX4_entry_31 : decode cX4_entry 31 = .ok (.invokevirtual 85, 3) := by decide +kernel
theorem dX4_entry_34 : decode cX4_entry 34 = .ok (.lstore_n 2, 1) := by decide +kernel
theorem dX4_entry_35 : decode cX4_entry 35 = .ok (.aload_n 0, 1) := by decide +kernel
theorem dX4_entry_36 : decode cX4_entry 36 = .ok (.getfield 67, 3) := by decide +kernel
theorem dX4_entry_39 : decode cX4_entry 39 = .ok (.istore 4, 2) := by decide +kernel
theorem dX4_entry_41 : decode cX4_entry 41 = .ok (.aload_n 0, 1) := by decide +kernel
theorem dX4_entry_42 : decode cX4_entry 42 = .ok (.getfield 19, 3) := by decide +kernel
theorem dX4_entry_45 : decode cX4_entry 45 = .ok (.invokevirtual 89, 3) := by decide +kernel
theorem dX4_entry_48 : decode cX4_entry 48 = .ok (.aload_n 0, 1) := by decide +kernel
theorem dX4_entry_49 : decode cX4_entry 49 = .ok (.iconst 0, 1) := by decide +kernel
theorem dX4_entry_50 : decode cX4_entry 50 = .ok (.putfield 67, 3) := by decide +kernel
theorem dX4_entry_53 : decode cX4_entry 53 = .ok (.lload_n 2, 1) := by decide +kernel
theorem dX4_entry_54 : decode cX4_entry 54 = .ok (.lconst 0, 1) := by decide +kernel
theorem dX4_entry_55 : decode cX4_entry 55 = .ok (.lcmp, 1) := by decide +kernel
theorem dX4_entry_56 : decode cX4_entry 56 = .ok (.ifCond .ne 5, 3) := by decide +kernel
theorem dX4_entry_59 : decode cX4_entry 59 = .ok (.iconst (-1), 1) := by decide +kernel
theorem dX4_entry_60 : decode cX4_entry 60 = .ok (.ireturn, 1) := by decide +kernel
theorem dX4_entry_61 : decode cX4_entry 61 = .ok (.iload 4, 2) := by decide +kernel
theorem dX4_entry_63 : decode cX4_entry 63 = .ok (.ifCond .ne 6, 3) := by decide +kernel
theorem dX4_entry_66 : decode cX4_entry 66 = .ok (.bipush (-2), 2) := by decide +kernel
theorem dX4_entry_68 : decode cX4_entry 68 = .ok (.ireturn, 1) := by decide +kernel
theorem dX4_entry_69 : decode cX4_entry 69 = .ok (.aload_n 0, 1) := by decide +kernel
theorem dX4_entry_70 : decode cX4_entry 70 = .ok (.getfield 26, 3) := by decide +kernel
theorem dX4_entry_73 : decode cX4_entry 73 = .ok (.lload_n 2, 1) := by decide +kernel
theorem dX4_entry_74 : decode cX4_entry 74 = .ok (.lconst 0, 1) := by decide +kernel
theorem dX4_entry_75 : decode cX4_entry 75 = .ok (.aload_n 0, 1) := by decide +kernel
theorem dX4_entry_76 : decode cX4_entry 76 = .ok (.getfield 13, 3) := by decide +kernel
theorem dX4_entry_79 : decode cX4_entry 79 = .ok (.iload 4, 2) := by decide +kernel
theorem dX4_entry_81 : decode cX4_entry 81 = .ok (.invokevirtual 92, 3) := by decide +kernel
theorem dX4_entry_84 : decode cX4_entry 84 = .ok (.ireturn, 1) := by decide +kernel
set_option maxRecDepth 20000 in
theorem ggX4_see_X2_length : GoodIn wsX4_see wsX2_length := goodIn_r _ [10, 11, 47, 48] (by decide +kernel) (by decide +kernel)
set_option maxRecDepth 20000 in
theorem gX4_see_X2_length : GoodIn wsX4_see (wsV RX4 79 RX2 yX2_length wsX2_length) := goodIn_app (goodIn_of _ (by decide +kernel)) ggX4_see_X2_length
set_option maxRecDepth 20000 in
theorem ggX4_see_X2_headAt : GoodIn wsX4_see wsX2_headAt := goodIn_r _ [15, 11, 16, 47, 48] (by decide +kernel) (by decide +kernel)
set_option maxRecDepth 20000 in
theorem gX4_see_X2_headAt : GoodIn wsX4_see (wsV RX4 85 RX2 yX2_headAt wsX2_headAt) := goodIn_app (goodIn_of _ (by decide +kernel)) ggX4_see_X2_headAt
set_option maxRecDepth 20000 in
theorem ggX4_see_X2_clear : GoodIn wsX4_see wsX2_clear := goodIn_r _ [20, 11, 47, 48] (by decide +kernel) (by decide +kernel)
set_option maxRecDepth 20000 in
theorem gX4_see_X2_clear : GoodIn wsX4_see (wsV RX4 89 RX2 yX2_clear wsX2_clear) := goodIn_app (goodIn_of _ (by decide +kernel)) ggX4_see_X2_clear
set_option maxRecDepth 20000 in
theorem ggX4_see_X0_admit : GoodIn wsX4_see wsX0_admit := goodIn_r _ [25, 26, 27, 28, 29, 30, 31, 32, 33, 34, 35, 24, 36, 49, 50, 51, 52, 53, 54, 55, 56, 57] (by decide +kernel) (by decide +kernel)
set_option maxRecDepth 20000 in
theorem gX4_see_X0_admit : GoodIn wsX4_see (wsV RX4 92 RX0 yX0_admit wsX0_admit) := goodIn_app (goodIn_of _ (by decide +kernel)) ggX4_see_X0_admit
theorem dX4_see_0 : decode cX4_see 0 = .ok (.aload_n 0, 1) := by decide +kernel
theorem dX4_see_1 : decode cX4_see 1 = .ok (.getfield 19, 3) := by decide +kernel
theorem dX4_see_4 : decode cX4_see 4 = .ok (.invokevirtual 79, 3) := by decide +kernel
theorem dX4_see_7 : decode cX4_see 7 = .ok (.istore_n 3, 1) := by decide +kernel
theorem dX4_see_8 : decode cX4_see 8 = .ok (.iload_n 1, 1) := by decide +kernel
theorem dX4_see_9 : decode cX4_see 9 = .ok (.ifCond .lt 24, 3) := by decide +kernel
theorem dX4_see_12 : decode cX4_see 12 = .ok (.iload_n 1, 1) := by decide +kernel
theorem dX4_see_13 : decode cX4_see 13 = .ok (.iload_n 3, 1) := by decide +kernel
theorem dX4_see_14 : decode cX4_see 14 = .ok (.if_icmp .gt 19, 3) := by decide +kernel
theorem dX4_see_17 : decode cX4_see 17 = .ok (.iload_n 2, 1) := by decide +kernel
theorem dX4_see_18 : decode cX4_see 18 = .ok (.ifCond .lt 15, 3) := by decide +kernel
theorem dX4_see_21 : decode cX4_see 21 = .ok (.iload_n 2, 1) := by decide +kernel
theorem dX4_see_22 : decode cX4_see 22 = .ok (.iload_n 3, 1) := by decide +kernel
theorem dX4_see_23 : decode cX4_see 23 = .ok (.if_icmp .gt 10, 3) := by decide +kernel
theorem dX4_see_26 : decode cX4_see 26 = .ok (.iload_n 1, 1) := by decide +kernel
theorem dX4_see_27 : decode cX4_see 27 = .ok (.iload_n 2, 1) := by decide +kernel
theorem dX4_see_28 : decode cX4_see 28 = .ok (.iadd, 1) := by decide +kernel
theorem dX4_see_29 : decode cX4_see 29 = .ok (.iload_n 3, 1) := by decide +kernel
theorem dX4_see_30 : decode cX4_see 30 = .ok (.if_icmp .le 13, 3) := by decide +kernel
theorem dX4_see_33 : decode cX4_see 33 = .ok (.new 50, 3) := by decide +kernel
theorem dX4_see_36 : decode cX4_see 36 = .ok (.dup, 1) := by decide +kernel
theorem dX4_see_37 : decode cX4_see 37 = .ok (.ldc 83, 2) := by decide +kernel
theorem dX4_see_39 : decode cX4_see 39 = .ok (.invokespecial 54, 3) := by decide +kernel
theorem dX4_see_42 : decode cX4_see 42 = .ok (.athrow, 1) := by decide +kernel
theorem dX4_see_43 : decode cX4_see 43 = .ok (.aload_n 0, 1) := by decide +kernel
theorem dX4_see_44 : decode cX4_see 44 = .ok (.getfield 19, 3) := by decide +kernel
theorem dX4_see_47 : decode cX4_see 47 = .ok (.iconst 0, 1) := by decide +kernel
theorem dX4_see_48 : decode cX4_see 48 = .ok (.iload_n 1, 1) := by decide +kernel
theorem dX4_see_49 : decode cX4_see 49 = .ok (.invokevirtual 85, 3) := by decide +kernel
theorem dX4_see_52 : decode cX4_see 52 = .ok (.lstore 4, 2) := by decide +kernel
theorem dX4_see_54 : decode cX4_see 54 = .ok (.aload_n 0, 1) := by decide +kernel
theorem dX4_see_55 : decode cX4_see 55 = .ok (.getfield 19, 3) := by decide +kernel
theorem dX4_see_58 : decode cX4_see 58 = .ok (.iload_n 1, 1) := by decide +kernel
theorem dX4_see_59 : decode cX4_see 59 = .ok (.iload_n 2, 1) := by decide +kernel
theorem dX4_see_60 : decode cX4_see 60 = .ok (.invokevirtual 85, 3) := by decide +kernel
theorem dX4_see_63 : decode cX4_see 63 = .ok (.lstore 6, 2) := by decide +kernel
theorem dX4_see_65 : decode cX4_see 65 = .ok (.aload_n 0, 1) := by decide +kernel
theorem dX4_see_66 : decode cX4_see 66 = .ok (.getfield 19, 3) := by decide +kernel
theorem dX4_see_69 : decode cX4_see 69 = .ok (.invokevirtual 89, 3) := by decide +kernel
theorem dX4_see_72 : decode cX4_see 72 = .ok (.lload 4, 2) := by decide +kernel
theorem dX4_see_74 : decode cX4_see 74 = .ok (.lconst 0, 1) := by decide +kernel
theorem dX4_see_75 : decode cX4_see 75 = .ok (.lcmp, 1) := by decide +kernel
theorem dX4_see_76 : decode cX4_see 76 = .ok (.ifCond .eq 10, 3) := by decide +kernel
theorem dX4_see_79 : decode cX4_see 79 = .ok (.lload 6, 2) := by decide +kernel
theorem dX4_see_81 : decode cX4_see 81 = .ok (.lconst 0, 1) := by decide +kernel
theorem dX4_see_82 : decode cX4_see 82 = .ok (.lcmp, 1) := by decide +kernel
theorem dX4_see_83 : decode cX4_see 83 = .ok (.ifCond .ne 5, 3) := by decide +kernel
theorem dX4_see_86 : decode cX4_see 86 = .ok (.iconst (-1), 1) := by decide +kernel
theorem dX4_see_87 : decode cX4_see 87 = .ok (.ireturn, 1) := by decide +kernel
theorem dX4_see_88 : decode cX4_see 88 = .ok (.aload_n 0, 1) := by decide +kernel
theorem dX4_see_89 : decode cX4_see 89 = .ok (.getfield 26, 3) := by decide +kernel
theorem dX4_see_92 : decode cX4_see 92 = .ok (.lload 4, 2) := by decide +kernel
theorem dX4_see_94 : decode cX4_see 94 = .ok (.lload 6, 2) := by decide +kernel
theorem dX4_see_96 : decode cX4_see 96 = .ok (.getstatic 96, 3) := by decide +kernel
theorem dX4_see_99 : decode cX4_see 99 = .ok (.iconst 1, 1) := by decide +kernel
theorem dX4_see_100 : decode cX4_see 100 = .ok (.invokevirtual 92, 3) := by decide +kernel
theorem dX4_see_103 : decode cX4_see 103 = .ok (.ireturn, 1) := by decide +kernel
set_option maxRecDepth 20000 in
theorem ggX4_drop_X4_checkEntry : GoodIn wsX4_drop wsX4_checkEntry := goodIn_ca (goodIn_r _ [6, 7, 8, 1, 17, 18, 19, 20, 21, 22, 23, 24, 25, 26, 27, 28, 29, 30, 31, 32, 33, 34, 35] (by decide +kernel) (by decide +kernel)) (goodIn_sub (fun _ h => List.mem_cons_of_mem _ (List.mem_append_right _ h)) (by decide +kernel))
set_option maxRecDepth 20000 in
theorem gX4_drop_X4_checkEntry : GoodIn wsX4_drop (wsV RX4 99 RX4 yX4_checkEntry wsX4_checkEntry) := goodIn_app (goodIn_of _ (by decide +kernel)) ggX4_drop_X4_checkEntry
set_option maxRecDepth 20000 in
theorem ggX4_drop_X0_remove : GoodIn wsX4_drop wsX0_remove := goodIn_r _ [13, 14, 15, 16, 27, 28, 29, 30, 31, 32, 33, 34, 35] (by decide +kernel) (by decide +kernel)
set_option maxRecDepth 20000 in
theorem gX4_drop_X0_remove : GoodIn wsX4_drop (wsV RX4 102 RX0 yX0_remove wsX0_remove) := goodIn_app (goodIn_of _ (by decide +kernel)) ggX4_drop_X0_remove
theorem dX4_drop_0 : decode cX4_drop 0 = .ok (.aload_n 0, 1) := by decide +kernel
theorem dX4_drop_1 : decode cX4_drop 1 = .ok (.iload_n 1, 1) := by decide +kernel
theorem dX4_drop_2 : decode cX4_drop 2 = .ok (.invokevirtual 99, 3) := by decide +kernel
theorem dX4_drop_5 : decode cX4_drop 5 = .ok (.aload_n 0, 1) := by decide +kernel
theorem dX4_drop_6 : decode cX4_drop 6 = .ok (.getfield 26, 3) := by decide +kernel
theorem dX4_drop_9 : decode cX4_drop 9 = .ok (.iload_n 1, 1) := by decide +kernel
theorem dX4_drop_10 : decode cX4_drop 10 = .ok (.invokevirtual 102, 3) := by decide +kernel
theorem dX4_drop_13 : decode cX4_drop 13 = .ok (.ireturn, 1) := by decide +kernel
set_option maxRecDepth 20000 in
theorem ggX4_order_X0_inOrder : GoodIn wsX4_order wsX0_inOrder := goodIn_r _ [6, 7, 8, 19, 20, 21, 22, 23, 24, 25, 26, 27] (by decide +kernel) (by decide +kernel)
set_option maxRecDepth 20000 in
theorem gX4_order_X0_inOrder : GoodIn wsX4_order (wsV RX4 106 RX0 yX0_inOrder wsX0_inOrder) := goodIn_app (goodIn_of _ (by decide +kernel)) ggX4_order_X0_inOrder
theorem dX4_order_0 : decode cX4_order 0 = .ok (.aload_n 0, 1) := by decide +kernel
theorem dX4_order_1 : decode cX4_order 1 = .ok (.getfield 26, 3) := by decide +kernel
theorem dX4_order_4 : decode cX4_order 4 = .ok (.iload_n 1, 1) := by decide +kernel
theorem dX4_order_5 : decode cX4_order 5 = .ok (.invokevirtual 106, 3) := by decide +kernel
theorem dX4_order_8 : decode cX4_order 8 = .ok (.ireturn, 1) := by decide +kernel
set_option maxRecDepth 20000 in
theorem ggX4_leads_X4_checkEntry : GoodIn wsX4_leads wsX4_checkEntry := goodIn_ca (goodIn_r _ [6, 7, 8, 1, 31, 32, 33, 34, 35, 36, 37, 38, 39, 40, 41, 42, 43, 44, 45, 46, 47, 48, 49] (by decide +kernel) (by decide +kernel)) (goodIn_sub (fun _ h => List.mem_cons_of_mem _ (List.mem_append_right _ h)) (by decide +kernel))
set_option maxRecDepth 20000 in
theorem gX4_leads_X4_checkEntry : GoodIn wsX4_leads (wsV RX4 99 RX4 yX4_checkEntry wsX4_checkEntry) := goodIn_app (goodIn_of _ (by decide +kernel)) ggX4_leads_X4_checkEntry
set_option maxRecDepth 20000 in
theorem ggX4_leads_X0_follow : GoodIn wsX4_leads wsX0_follow := goodIn_r _ [13, 14, 15, 16, 17, 18, 19, 20, 21, 22, 12, 23, 24, 25, 26, 27, 28, 29, 30, 41, 42, 43, 44, 45, 46, 47, 48, 49] (by decide +kernel) (by decide +kernel)
set_option maxRecDepth 20000 in
theorem gX4_leads_X0_follow : GoodIn wsX4_leads (wsV RX4 110 RX0 yX0_follow wsX0_follow) := goodIn_app (goodIn_of _ (by decide +kernel)) ggX4_leads_X0_follow
theorem dX4_leads_0 : decode cX4_leads 0 = .ok (.aload_n 0, 1) := by decide +kernel
theorem dX4_leads_1 : decode cX4_leads 1 = .ok (.iload_n 1, 1) := by decide +kernel
theorem dX4_leads_2 : decode cX4_leads 2 = .ok (.invokevirtual 99, 3) := by decide +kernel
theorem dX4_leads_5 : decode cX4_leads 5 = .ok (.aload_n 0, 1) := by decide +kernel
theorem dX4_leads_6 : decode cX4_leads 6 = .ok (.getfield 26, 3) := by decide +kernel
theorem dX4_leads_9 : decode cX4_leads 9 = .ok (.iload_n 1, 1) := by decide +kernel
theorem dX4_leads_10 : decode cX4_leads 10 = .ok (.invokevirtual 110, 3) := by decide +kernel
theorem dX4_leads_13 : decode cX4_leads 13 = .ok (.ireturn, 1) := by decide +kernel
set_option maxRecDepth 20000 in
theorem ggX4_set__X3_compose : GoodIn wsX4_set_ wsX3_compose := goodIn_r _ [11, 12, 13, 14, 15, 16, 17, 18, 19, 20, 21, 22, 23, 10, 24, 25, 26, 27, 28, 29, 30, 31, 32, 33, 34, 35, 36, 37, 38, 39, 40, 41, 42, 43, 44, 45, 46, 47, 48, 49, 50, 51, 52, 53, 54, 55, 56, 57, 58, 59, 60, 61, 62, 63, 64, 65, 66, 67, 68, 69, 116, 117, 118, 119, 120, 108, 109, 110, 111, 112, 113, 114, 115, 121, 122, 123, 124, 125, 126, 127, 128, 129] (by decide +kernel) (by decide +kernel)
set_option maxRecDepth 20000 in
theorem gX4_set__X3_compose : GoodIn wsX4_set_ (wsV RX4 113 RX3 yX3_compose wsX3_compose) := goodIn_app (goodIn_of _ (by decide +kernel)) ggX4_set__X3_compose
set_option maxRecDepth 20000 in
theorem ggX4_set__X1_pagesUnlike : GoodIn wsX4_set_ wsX1_pagesUnlike := goodIn_r _ [73, 63, 74, 75, 76, 77, 78, 79, 80, 59, 81, 82, 83, 84, 85, 61, 62, 86, 87, 88, 89, 90, 91, 92, 93, 94, 95, 96, 64, 97, 108, 109, 110, 111, 112, 113, 114, 115] (by decide +kernel) (by decide +kernel)
set_option maxRecDepth 20000 in
theorem gX4_set__X1_pagesUnlike : GoodIn wsX4_set_ (wsV RX4 117 RX1 yX1_pagesUnlike wsX1_pagesUnlike) := goodIn_app (goodIn_of _ (by decide +kernel)) ggX4_set__X1_pagesUnlike
theorem dX4_set__0 : decode cX4_set_ 0 = .ok (.aload_n 0, 1) := by decide +kernel
theorem dX4_set__1 : decode cX4_set_ 1 = .ok (.getfield 33, 3) := by decide +kernel
theorem dX4_set__4 : decode cX4_set_ 4 = .ok (.aload_n 0, 1) := by decide +kernel
theorem dX4_set__5 : decode cX4_set_ 5 = .ok (.getfield 9, 3) := by decide +kernel
theorem dX4_set__8 : decode cX4_set_ 8 = .ok (.aload_n 0, 1) := by decide +kernel
theorem dX4_set__9 : decode cX4_set_ 9 = .ok (.getfield 26, 3) := by decide +kernel
theorem dX4_set__12 : decode cX4_set_ 12 = .ok (.aload_n 0, 1) := by decide +kernel
theorem dX4_set__13 : decode cX4_set_ 13 = .ok (.getfield 47, 3) := by decide +kernel
theorem dX4_set__16 : decode cX4_set_ 16 = .ok (.invokevirtual 113, 3) := by decide +kernel
theorem dX4_set__19 : decode cX4_set_ 19 = .ok (.ifCond .ne 5, 3) := by decide +kernel
theorem dX4_set__22 : decode cX4_set_ 22 = .ok (.iconst (-1), 1) := by decide +kernel
theorem dX4_set__23 : decode cX4_set_ 23 = .ok (.ireturn, 1) := by decide +kernel
theorem dX4_set__24 : decode cX4_set_ 24 = .ok (.aload_n 0, 1) := by decide +kernel
theorem dX4_set__25 : decode cX4_set_ 25 = .ok (.getfield 43, 3) := by decide +kernel
theorem dX4_set__28 : decode cX4_set_ 28 = .ok (.astore_n 1, 1) := by decide +kernel
theorem dX4_set__29 : decode cX4_set_ 29 = .ok (.aload_n 0, 1) := by decide +kernel
theorem dX4_set__30 : decode cX4_set_ 30 = .ok (.aload_n 0, 1) := by decide +kernel
theorem dX4_set__31 : decode cX4_set_ 31 = .ok (.getfield 47, 3) := by decide +kernel
theorem dX4_set__34 : decode cX4_set_ 34 = .ok (.putfield 43, 3) := by decide +kernel
theorem dX4_set__37 : decode cX4_set_ 37 = .ok (.aload_n 0, 1) := by decide +kernel
theorem dX4_set__38 : decode cX4_set_ 38 = .ok (.aload_n 1, 1) := by decide +kernel
theorem dX4_set__39 : decode cX4_set_ 39 = .ok (.putfield 47, 3) := by decide +kernel
theorem dX4_set__42 : decode cX4_set_ 42 = .ok (.aload_n 0, 1) := by decide +kernel
theorem dX4_set__43 : decode cX4_set_ 43 = .ok (.aload_n 0, 1) := by decide +kernel
theorem dX4_set__44 : decode cX4_set_ 44 = .ok (.getfield 43, 3) := by decide +kernel
theorem dX4_set__47 : decode cX4_set_ 47 = .ok (.aload_n 1, 1) := by decide +kernel
theorem dX4_set__48 : decode cX4_set_ 48 = .ok (.invokevirtual 117, 3) := by decide +kernel
theorem dX4_set__51 : decode cX4_set_ 51 = .ok (.putfield 121, 3) := by decide +kernel
theorem dX4_set__54 : decode cX4_set_ 54 = .ok (.aload_n 0, 1) := by decide +kernel
theorem dX4_set__55 : decode cX4_set_ 55 = .ok (.getfield 43, 3) := by decide +kernel
theorem dX4_set__58 : decode cX4_set_ 58 = .ok (.getfield 124, 3) := by decide +kernel
theorem dX4_set__61 : decode cX4_set_ 61 = .ok (.ireturn, 1) := by decide +kernel
theorem dX4_told_0 : decode cX4_told 0 = .ok (.iload_n 1, 1) := by decide +kernel
theorem dX4_told_1 : decode cX4_told 1 = .ok (.tableswitch 72 0 4 #[35, 43, 51, 59, 67], 35) := by decide +kernel
theorem dX4_told_36 : decode cX4_told 36 = .ok (.aload_n 0, 1) := by decide +kernel
theorem dX4_told_37 : decode cX4_told 37 = .ok (.getfield 43, 3) := by decide +kernel
theorem dX4_told_40 : decode cX4_told 40 = .ok (.getfield 124, 3) := by decide +kernel
theorem dX4_told_43 : decode cX4_told 43 = .ok (.ireturn, 1) := by decide +kernel
theorem dX4_told_44 : decode cX4_told 44 = .ok (.aload_n 0, 1) := by decide +kernel
theorem dX4_told_45 : decode cX4_told 45 = .ok (.getfield 43, 3) := by decide +kernel
theorem dX4_told_48 : decode cX4_told 48 = .ok (.getfield 127, 3) := by decide +kernel
theorem dX4_told_51 : decode cX4_told 51 = .ok (.ireturn, 1) := by decide +kernel
theorem dX4_told_52 : decode cX4_told 52 = .ok (.aload_n 0, 1) := by decide +kernel
theorem dX4_told_53 : decode cX4_told 53 = .ok (.getfield 43, 3) := by decide +kernel
theorem dX4_told_56 : decode cX4_told 56 = .ok (.getfield 130, 3) := by decide +kernel
theorem dX4_told_59 : decode cX4_told 59 = .ok (.ireturn, 1) := by decide +kernel
theorem dX4_told_60 : decode cX4_told 60 = .ok (.aload_n 0, 1) := by decide +kernel
theorem dX4_told_61 : decode cX4_told 61 = .ok (.getfield 43, 3) := by decide +kernel
theorem dX4_told_64 : decode cX4_told 64 = .ok (.getfield 133, 3) := by decide +kernel
theorem dX4_told_67 : decode cX4_told 67 = .ok (.ireturn, 1) := by decide +kernel
theorem dX4_told_68 : decode cX4_told 68 = .ok (.aload_n 0, 1) := by decide +kernel
theorem dX4_told_69 : decode cX4_told 69 = .ok (.getfield 121, 3) := by decide +kernel
theorem dX4_told_72 : decode cX4_told 72 = .ok (.ireturn, 1) := by decide +kernel
theorem dX4_told_73 : decode cX4_told 73 = .ok (.new 50, 3) := by decide +kernel
theorem dX4_told_76 : decode cX4_told 76 = .ok (.dup, 1) := by decide +kernel
theorem dX4_told_77 : decode cX4_told 77 = .ok (.ldc 136, 2) := by decide +kernel
theorem dX4_told_79 : decode cX4_told 79 = .ok (.invokespecial 54, 3) := by decide +kernel
theorem dX4_told_82 : decode cX4_told 82 = .ok (.athrow, 1) := by decide +kernel
set_option maxRecDepth 20000 in
theorem ggX4_column_X1_entryOf : GoodIn wsX4_column wsX1_entryOf := goodIn_r _ [10, 11, 26, 27, 28, 29, 30, 31, 32, 33] (by decide +kernel) (by decide +kernel)
set_option maxRecDepth 20000 in
theorem gX4_column_X1_entryOf : GoodIn wsX4_column (wsV RX4 146 RX1 yX1_entryOf wsX1_entryOf) := goodIn_app (goodIn_of _ (by decide +kernel)) ggX4_column_X1_entryOf
set_option maxRecDepth 20000 in
theorem ggX4_column_X1_senseOf : GoodIn wsX4_column wsX1_senseOf := goodIn_r _ [15, 11, 26, 27, 28, 29, 30, 31, 32, 33] (by decide +kernel) (by decide +kernel)
set_option maxRecDepth 20000 in
theorem gX4_column_X1_senseOf : GoodIn wsX4_column (wsV RX4 149 RX1 yX1_senseOf wsX1_senseOf) := goodIn_app (goodIn_of _ (by decide +kernel)) ggX4_column_X1_senseOf
theorem dX4_column_0 : decode cX4_column 0 = .ok (.iload_n 1, 1) := by decide +kernel
theorem dX4_column_1 : decode cX4_column 1 = .ok (.ifCond .lt 14, 3) := by decide +kernel
theorem dX4_column_4 : decode cX4_column 4 = .ok (.iload_n 1, 1) := by decide +kernel
theorem dX4_column_5 : decode cX4_column 5 = .ok (.aload_n 0, 1) := by decide +kernel
theorem dX4_column_6 : decode cX4_column 6 = .ok (.getfield 43, 3) := by decide +kernel
theorem dX4_column_9 : decode cX4_column 9 = .ok (.getfield 130, 3) := by decide +kernel
theorem dX4_column_12 : decode cX4_column 12 = .ok (.if_icmp .lt 13, 3) := by decide +kernel
theorem dX4_column_15 : decode cX4_column 15 = .ok (.new 138, 3) := by decide +kernel
theorem dX4_column_18 : decode cX4_column 18 = .ok (.dup, 1) := by decide +kernel
theorem dX4_column_19 : decode cX4_column 19 = .ok (.ldc 140, 2) := by decide +kernel
theorem dX4_column_21 : decode cX4_column 21 = .ok (.invokespecial 142, 3) := by decide +kernel
theorem dX4_column_24 : decode cX4_column 24 = .ok (.athrow, 1) := by decide +kernel
theorem dX4_column_25 : decode cX4_column 25 = .ok (.aload_n 0, 1) := by decide +kernel
theorem dX4_column_26 : decode cX4_column 26 = .ok (.getfield 43, 3) := by decide +kernel
theorem dX4_column_29 : decode cX4_column 29 = .ok (.getfield 143, 3) := by decide +kernel
theorem dX4_column_32 : decode cX4_column 32 = .ok (.iload_n 1, 1) := by decide +kernel
theorem dX4_column_33 : decode cX4_column 33 = .ok (.iaload, 1) := by decide +kernel
theorem dX4_column_34 : decode cX4_column 34 = .ok (.istore_n 3, 1) := by decide +kernel
theorem dX4_column_35 : decode cX4_column 35 = .ok (.iload_n 2, 1) := by decide +kernel
theorem dX4_column_36 : decode cX4_column 36 = .ok (.tableswitch 74 0 3 #[32, 41, 50, 64], 32) := by decide +kernel
theorem dX4_column_68 : decode cX4_column 68 = .ok (.aload_n 0, 1) := by decide +kernel
theorem dX4_column_69 : decode cX4_column 69 = .ok (.getfield 43, 3) := by decide +kernel
theorem dX4_column_72 : decode cX4_column 72 = .ok (.iload_n 3, 1) := by decide +kernel
theorem dX4_column_73 : decode cX4_column 73 = .ok (.invokevirtual 146, 3) := by decide +kernel
theorem dX4_column_76 : decode cX4_column 76 = .ok (.ireturn, 1) := by decide +kernel
theorem dX4_column_77 : decode cX4_column 77 = .ok (.aload_n 0, 1) := by decide +kernel
theorem dX4_column_78 : decode cX4_column 78 = .ok (.getfield 43, 3) := by decide +kernel
theorem dX4_column_81 : decode cX4_column 81 = .ok (.iload_n 3, 1) := by decide +kernel
theorem dX4_column_82 : decode cX4_column 82 = .ok (.invokevirtual 149, 3) := by decide +kernel
theorem dX4_column_85 : decode cX4_column 85 = .ok (.ireturn, 1) := by decide +kernel
theorem dX4_column_86 : decode cX4_column 86 = .ok (.aload_n 0, 1) := by decide +kernel
theorem dX4_column_87 : decode cX4_column 87 = .ok (.getfield 43, 3) := by decide +kernel
theorem dX4_column_90 : decode cX4_column 90 = .ok (.getfield 143, 3) := by decide +kernel
theorem dX4_column_93 : decode cX4_column 93 = .ok (.iload_n 1, 1) := by decide +kernel
theorem dX4_column_94 : decode cX4_column 94 = .ok (.iconst 1, 1) := by decide +kernel
theorem dX4_column_95 : decode cX4_column 95 = .ok (.iadd, 1) := by decide +kernel
theorem dX4_column_96 : decode cX4_column 96 = .ok (.iaload, 1) := by decide +kernel
theorem dX4_column_97 : decode cX4_column 97 = .ok (.iload_n 3, 1) := by decide +kernel
theorem dX4_column_98 : decode cX4_column 98 = .ok (.isub, 1) := by decide +kernel
theorem dX4_column_99 : decode cX4_column 99 = .ok (.ireturn, 1) := by decide +kernel
theorem dX4_column_100 : decode cX4_column 100 = .ok (.aload_n 0, 1) := by decide +kernel
theorem dX4_column_101 : decode cX4_column 101 = .ok (.getfield 43, 3) := by decide +kernel
theorem dX4_column_104 : decode cX4_column 104 = .ok (.getfield 152, 3) := by decide +kernel
theorem dX4_column_107 : decode cX4_column 107 = .ok (.iload_n 1, 1) := by decide +kernel
theorem dX4_column_108 : decode cX4_column 108 = .ok (.iaload, 1) := by decide +kernel
theorem dX4_column_109 : decode cX4_column 109 = .ok (.ireturn, 1) := by decide +kernel
theorem dX4_column_110 : decode cX4_column 110 = .ok (.new 50, 3) := by decide +kernel
theorem dX4_column_113 : decode cX4_column 113 = .ok (.dup, 1) := by decide +kernel
theorem dX4_column_114 : decode cX4_column 114 = .ok (.ldc 155, 2) := by decide +kernel
theorem dX4_column_116 : decode cX4_column 116 = .ok (.invokespecial 54, 3) := by decide +kernel
theorem dX4_column_119 : decode cX4_column 119 = .ok (.athrow, 1) := by decide +kernel
set_option maxRecDepth 20000 in
theorem ggX4_where_X4_checkEntry : GoodIn wsX4_where wsX4_checkEntry := goodIn_ca (goodIn_r _ [6, 7, 8, 9, 18, 19, 20, 21, 22, 23, 24, 25, 26, 27, 28, 29, 30, 31, 32, 33, 34, 35, 36] (by decide +kernel) (by decide +kernel)) (goodIn_sub (fun _ h => List.mem_cons_of_mem _ (List.mem_append_right _ h)) (by decide +kernel))
set_option maxRecDepth 20000 in
theorem gX4_where_X4_checkEntry : GoodIn wsX4_where (wsV RX4 99 RX4 yX4_checkEntry wsX4_checkEntry) := goodIn_app (goodIn_of _ (by decide +kernel)) ggX4_where_X4_checkEntry
set_option maxRecDepth 20000 in
theorem ggX4_where_X1_columnWith : GoodIn wsX4_where wsX1_columnWith := goodIn_r _ [14, 15, 16, 17, 37, 38, 39, 40, 41, 42, 43, 44] (by decide +kernel) (by decide +kernel)
set_option maxRecDepth 20000 in
theorem gX4_where_X1_columnWith : GoodIn wsX4_where (wsV RX4 157 RX1 yX1_columnWith wsX1_columnWith) := goodIn_app (goodIn_of _ (by decide +kernel)) ggX4_where_X1_columnWith
theorem dX4_where_0 : decode cX4_where 0 = .ok (.aload_n 0, 1) := by decide +kernel
theorem dX4_where_1 : decode cX4_where 1 = .ok (.iload_n 1, 1) := by decide +kernel
theorem dX4_where_2 : decode cX4_where 2 = .ok (.invokevirtual 99, 3) := by decide +kernel
theorem dX4_where_5 : decode cX4_where 5 = .ok (.iload_n 2, 1) := by decide +kernel
theorem dX4_where_6 : decode cX4_where 6 = .ok (.ifCond .lt 9, 3) := by decide +kernel
theorem dX4_where_9 : decode cX4_where 9 = .ok (.iload_n 2, 1) := by decide +kernel
theorem dX4_where_10 : decode cX4_where 10 = .ok (.bipush 6, 2) := by decide +kernel
theorem dX4_where_12 : decode cX4_where 12 = .ok (.if_icmp .lt 5, 3) := by decide +kernel
theorem dX4_where_15 : decode cX4_where 15 = .ok (.iconst (-1), 1) := by decide +kernel
theorem dX4_where_16 : decode cX4_where 16 = .ok (.ireturn, 1) := by decide +kernel
theorem dX4_where_17 : decode cX4_where 17 = .ok (.aload_n 0, 1) := by decide +kernel
theorem dX4_where_18 : decode cX4_where 18 = .ok (.getfield 43, 3) := by decide +kernel
theorem dX4_where_21 : decode cX4_where 21 = .ok (.iload_n 1, 1) := by decide +kernel
theorem dX4_where_22 : decode cX4_where 22 = .ok (.bipush 6, 2) := by decide +kernel
theorem dX4_where_24 : decode cX4_where 24 = .ok (.imul, 1) := by decide +kernel
theorem dX4_where_25 : decode cX4_where 25 = .ok (.iload_n 2, 1) := by decide +kernel
theorem dX4_where_26 : decode cX4_where 26 = .ok (.iadd, 1) := by decide +kernel
theorem dX4_where_27 : decode cX4_where 27 = .ok (.invokevirtual 157, 3) := by decide +kernel
theorem dX4_where_30 : decode cX4_where 30 = .ok (.ireturn, 1) := by decide +kernel
set_option maxRecDepth 20000 in
theorem ggX4_guide_X1_firstGuide : GoodIn wsX4_guide wsX1_firstGuide := goodIn_r _ [10, 11, 12, 13, 14, 9, 15, 16, 17, 18, 19, 20, 21, 22, 23, 24, 25, 26, 27, 28, 29, 30, 31, 32, 33, 34, 49, 50, 51, 52, 53, 54, 55, 56] (by decide +kernel) (by decide +kernel)
set_option maxRecDepth 20000 in
theorem gX4_guide_X1_firstGuide : GoodIn wsX4_guide (wsV RX4 164 RX1 yX1_firstGuide wsX1_firstGuide) := goodIn_app (goodIn_of _ (by decide +kernel)) ggX4_guide_X1_firstGuide
set_option maxRecDepth 20000 in
theorem ggX4_guide_X1_lastGuide : GoodIn wsX4_guide wsX1_lastGuide := goodIn_r _ [38, 11, 12, 13, 14, 9, 15, 16, 17, 18, 19, 20, 21, 22, 23, 24, 25, 26, 27, 28, 29, 30, 31, 32, 33, 34, 49, 50, 51, 52, 53, 54, 55, 56] (by decide +kernel) (by decide +kernel)
set_option maxRecDepth 20000 in
theorem gX4_guide_X1_lastGuide : GoodIn wsX4_guide (wsV RX4 167 RX1 yX1_lastGuide wsX1_lastGuide) := goodIn_app (goodIn_of _ (by decide +kernel)) ggX4_guide_X1_lastGuide
theorem dX4_guide_0 : decode cX4_guide 0 = .ok (.iload_n 1, 1) := by decide +kernel
theorem dX4_guide_1 : decode cX4_guide 1 = .ok (.ifCond .lt 14, 3) := by decide +kernel
theorem dX4_guide_4 : decode cX4_guide 4 = .ok (.iload_n 1, 1) := by decide +kernel
theorem dX4_guide_5 : decode cX4_guide 5 = .ok (.aload_n 0, 1) := by decide +kernel
theorem dX4_guide_6 : decode cX4_guide 6 = .ok (.getfield 43, 3) := by decide +kernel
theorem dX4_guide_9 : decode cX4_guide 9 = .ok (.getfield 127, 3) := by decide +kernel
theorem dX4_guide_12 : decode cX4_guide 12 = .ok (.if_icmp .lt 13, 3) := by decide +kernel
theorem dX4_guide_15 : decode cX4_guide 15 = .ok (.new 138, 3) := by decide +kernel
theorem dX4_guide_18 : decode cX4_guide 18 = .ok (.dup, 1) := by decide +kernel
theorem dX4_guide_19 : decode cX4_guide 19 = .ok (.ldc 160, 2) := by decide +kernel
theorem dX4_guide_21 : decode cX4_guide 21 = .ok (.invokespecial 142, 3) := by decide +kernel
theorem dX4_guide_24 : decode cX4_guide 24 = .ok (.athrow, 1) := by decide +kernel
theorem dX4_guide_25 : decode cX4_guide 25 = .ok (.iload_n 2, 1) := by decide +kernel
theorem dX4_guide_26 : decode cX4_guide 26 = .ok (.ifCond .eq 18, 3) := by decide +kernel
theorem dX4_guide_29 : decode cX4_guide 29 = .ok (.iload_n 2, 1) := by decide +kernel
theorem dX4_guide_30 : decode cX4_guide 30 = .ok (.iconst 1, 1) := by decide +kernel
theorem dX4_guide_31 : decode cX4_guide 31 = .ok (.if_icmp .eq 13, 3) := by decide +kernel
theorem dX4_guide_34 : decode cX4_guide 34 = .ok (.new 50, 3) := by decide +kernel
theorem dX4_guide_37 : decode cX4_guide 37 = .ok (.dup, 1) := by decide +kernel
theorem dX4_guide_38 : decode cX4_guide 38 = .ok (.ldc 162, 2) := by decide +kernel
theorem dX4_guide_40 : decode cX4_guide 40 = .ok (.invokespecial 54, 3) := by decide +kernel
theorem dX4_guide_43 : decode cX4_guide 43 = .ok (.athrow, 1) := by decide +kernel
theorem dX4_guide_44 : decode cX4_guide 44 = .ok (.iload_n 2, 1) := by decide +kernel
theorem dX4_guide_45 : decode cX4_guide 45 = .ok (.ifCond .ne 14, 3) := by decide +kernel
theorem dX4_guide_48 : decode cX4_guide 48 = .ok (.aload_n 0, 1) := by decide +kernel
theorem dX4_guide_49 : decode cX4_guide 49 = .ok (.getfield 43, 3) := by decide +kernel
theorem dX4_guide_52 : decode cX4_guide 52 = .ok (.iload_n 1, 1) := by decide +kernel
theorem dX4_guide_53 : decode cX4_guide 53 = .ok (.invokevirtual 164, 3) := by decide +kernel
theorem dX4_guide_56 : decode cX4_guide 56 = .ok (.goto 11, 3) := by decide +kernel
theorem dX4_guide_59 : decode cX4_guide 59 = .ok (.aload_n 0, 1) := by decide +kernel
theorem dX4_guide_60 : decode cX4_guide 60 = .ok (.getfield 43, 3) := by decide +kernel
theorem dX4_guide_63 : decode cX4_guide 63 = .ok (.iload_n 1, 1) := by decide +kernel
theorem dX4_guide_64 : decode cX4_guide 64 = .ok (.invokevirtual 167, 3) := by decide +kernel
theorem dX4_guide_67 : decode cX4_guide 67 = .ok (.ireturn, 1) := by decide +kernel
set_option maxRecDepth 20000 in
theorem ggX4_thumb_X0_sumLines : GoodIn wsX4_thumb wsX0_sumLines := goodIn_r _ [10, 11, 12, 13, 14, 15, 16, 17, 18, 19, 20, 21, 9, 22, 23, 24, 25, 26, 27, 38, 39, 40, 41, 42, 43, 44, 45, 46] (by decide +kernel) (by decide +kernel)
set_option maxRecDepth 20000 in
theorem gX4_thumb_X0_sumLines : GoodIn wsX4_thumb (wsV RX4 174 RX0 yX0_sumLines wsX0_sumLines) := goodIn_app (goodIn_of _ (by decide +kernel)) ggX4_thumb_X0_sumLines
theorem dX4_thumb_0 : decode cX4_thumb 0 = .ok (.iload_n 1, 1) := by decide +kernel
theorem dX4_thumb_1 : decode cX4_thumb 1 = .ok (.ifCond .lt 9, 3) := by decide +kernel
theorem dX4_thumb_4 : decode cX4_thumb 4 = .ok (.iload_n 1, 1) := by decide +kernel
theorem dX4_thumb_5 : decode cX4_thumb 5 = .ok (.bipush 26, 2) := by decide +kernel
theorem dX4_thumb_7 : decode cX4_thumb 7 = .ok (.if_icmp .lt 13, 3) := by decide +kernel
theorem dX4_thumb_10 : decode cX4_thumb 10 = .ok (.new 50, 3) := by decide +kernel
theorem dX4_thumb_13 : decode cX4_thumb 13 = .ok (.dup, 1) := by decide +kernel
theorem dX4_thumb_14 : decode cX4_thumb 14 = .ok (.ldc 170, 2) := by decide +kernel
theorem dX4_thumb_16 : decode cX4_thumb 16 = .ok (.invokespecial 54, 3) := by decide +kernel
theorem dX4_thumb_19 : decode cX4_thumb 19 = .ok (.athrow, 1) := by decide +kernel
theorem dX4_thumb_20 : decode cX4_thumb 20 = .ok (.iload_n 2, 1) := by decide +kernel
theorem dX4_thumb_21 : decode cX4_thumb 21 = .ok (.iconst 1, 1) := by decide +kernel
theorem dX4_thumb_22 : decode cX4_thumb 22 = .ok (.if_icmp .lt 10, 3) := by decide +kernel
theorem dX4_thumb_25 : decode cX4_thumb 25 = .ok (.iload_n 2, 1) := by decide +kernel
theorem dX4_thumb_26 : decode cX4_thumb 26 = .ok (.sipush 10000, 3) := by decide +kernel
theorem dX4_thumb_29 : decode cX4_thumb 29 = .ok (.if_icmp .le 13, 3) := by decide +kernel
theorem dX4_thumb_32 : decode cX4_thumb 32 = .ok (.new 50, 3) := by decide +kernel
theorem dX4_thumb_35 : decode cX4_thumb 35 = .ok (.dup, 1) := by decide +kernel
theorem dX4_thumb_36 : decode cX4_thumb 36 = .ok (.ldc 172, 2) := by decide +kernel
theorem dX4_thumb_38 : decode cX4_thumb 38 = .ok (.invokespecial 54, 3) := by decide +kernel
theorem dX4_thumb_41 : decode cX4_thumb 41 = .ok (.athrow, 1) := by decide +kernel
theorem dX4_thumb_42 : decode cX4_thumb 42 = .ok (.aload_n 0, 1) := by decide +kernel
theorem dX4_thumb_43 : decode cX4_thumb 43 = .ok (.getfield 26, 3) := by decide +kernel
theorem dX4_thumb_46 : decode cX4_thumb 46 = .ok (.aload_n 0, 1) := by decide +kernel
theorem dX4_thumb_47 : decode cX4_thumb 47 = .ok (.getfield 37, 3) := by decide +kernel
theorem dX4_thumb_50 : decode cX4_thumb 50 = .ok (.aload_n 0, 1) := by decide +kernel
theorem dX4_thumb_51 : decode cX4_thumb 51 = .ok (.getfield 9, 3) := by decide +kernel
theorem dX4_thumb_54 : decode cX4_thumb 54 = .ok (.iconst 2, 1) := by decide +kernel
theorem dX4_thumb_55 : decode cX4_thumb 55 = .ok (.iaload, 1) := by decide +kernel
theorem dX4_thumb_56 : decode cX4_thumb 56 = .ok (.invokevirtual 174, 3) := by decide +kernel
theorem dX4_thumb_59 : decode cX4_thumb 59 = .ok (.istore_n 3, 1) := by decide +kernel
theorem dX4_thumb_60 : decode cX4_thumb 60 = .ok (.aload_n 0, 1) := by decide +kernel
theorem dX4_thumb_61 : decode cX4_thumb 61 = .ok (.getfield 37, 3) := by decide +kernel
theorem dX4_thumb_64 : decode cX4_thumb 64 = .ok (.iload_n 1, 1) := by decide +kernel
theorem dX4_thumb_65 : decode cX4_thumb 65 = .ok (.iaload, 1) := by decide +kernel
theorem dX4_thumb_66 : decode cX4_thumb 66 = .ok (.istore 4, 2) := by decide +kernel
theorem dX4_thumb_68 : decode cX4_thumb 68 = .ok (.iload 4, 2) := by decide +kernel
theorem dX4_thumb_70 : decode cX4_thumb 70 = .ok (.ifCond .eq 7, 3) := by decide +kernel
theorem dX4_thumb_73 : decode cX4_thumb 73 = .ok (.iload_n 3, 1) := by decide +kernel
theorem dX4_thumb_74 : decode cX4_thumb 74 = .ok (.ifCond .ne 5, 3) := by decide +kernel
theorem dX4_thumb_77 : decode cX4_thumb 77 = .ok (.iconst (-1), 1) := by decide +kernel
theorem dX4_thumb_78 : decode cX4_thumb 78 = .ok (.ireturn, 1) := by decide +kernel
theorem dX4_thumb_79 : decode cX4_thumb 79 = .ok (.iconst 0, 1) := by decide +kernel
theorem dX4_thumb_80 : decode cX4_thumb 80 = .ok (.istore 5, 2) := by decide +kernel
theorem dX4_thumb_82 : decode cX4_thumb 82 = .ok (.iconst 0, 1) := by decide +kernel
theorem dX4_thumb_83 : decode cX4_thumb 83 = .ok (.istore 6, 2) := by decide +kernel
theorem dX4_thumb_85 : decode cX4_thumb 85 = .ok (.iload 6, 2) := by decide +kernel
theorem dX4_thumb_87 : decode cX4_thumb 87 = .ok (.iload_n 1, 1) := by decide +kernel
theorem dX4_thumb_88 : decode cX4_thumb 88 = .ok (.if_icmp .ge 21, 3) := by decide +kernel
theorem dX4_thumb_91 : decode cX4_thumb 91 = .ok (.iload 5, 2) := by decide +kernel
theorem dX4_thumb_93 : decode cX4_thumb 93 = .ok (.aload_n 0, 1) := by decide +kernel
theorem dX4_thumb_94 : decode cX4_thumb 94 = .ok (.getfield 37, 3) := by decide +kernel
theorem dX4_thumb_97 : decode cX4_thumb 97 = .ok (.iload 6, 2) := by decide +kernel
theorem dX4_thumb_99 : decode cX4_thumb 99 = .ok (.iaload, 1) := by decide +kernel
theorem dX4_thumb_100 : decode cX4_thumb 100 = .ok (.iadd, 1) := by decide +kernel
theorem dX4_thumb_101 : decode cX4_thumb 101 = .ok (.istore 5, 2) := by decide +kernel
theorem dX4_thumb_103 : decode cX4_thumb 103 = .ok (.iinc 6 1, 3) := by decide +kernel
theorem dX4_thumb_106 : decode cX4_thumb 106 = .ok (.goto (-21), 3) := by decide +kernel
theorem dX4_thumb_109 : decode cX4_thumb 109 = .ok (.iload_n 2, 1) := by decide +kernel
theorem dX4_thumb_110 : decode cX4_thumb 110 = .ok (.iconst 2, 1) := by decide +kernel
theorem dX4_thumb_111 : decode cX4_thumb 111 = .ok (.iload 5, 2) := by decide +kernel
theorem dX4_thumb_113 : decode cX4_thumb 113 = .ok (.imul, 1) := by decide +kernel
theorem dX4_thumb_114 : decode cX4_thumb 114 = .ok (.iload 4, 2) := by decide +kernel
theorem dX4_thumb_116 : decode cX4_thumb 116 = .ok (.iadd, 1) := by decide +kernel
theorem dX4_thumb_117 : decode cX4_thumb 117 = .ok (.imul, 1) := by decide +kernel
theorem dX4_thumb_118 : decode cX4_thumb 118 = .ok (.iconst 2, 1) := by decide +kernel
theorem dX4_thumb_119 : decode cX4_thumb 119 = .ok (.iload_n 3, 1) := by decide +kernel
theorem dX4_thumb_120 : decode cX4_thumb 120 = .ok (.imul, 1) := by decide +kernel
theorem dX4_thumb_121 : decode cX4_thumb 121 = .ok (.idiv, 1) := by decide +kernel
theorem dX4_thumb_122 : decode cX4_thumb 122 = .ok (.ireturn, 1) := by decide +kernel
set_option maxRecDepth 20000 in
theorem ggX4_volume_X0_sumLines : GoodIn wsX4_volume wsX0_sumLines := goodIn_r _ [12, 13, 14, 15, 16, 17, 18, 19, 20, 21, 22, 23, 11, 24, 25, 26, 27, 28, 29, 40, 41, 42, 43, 44, 45, 46, 47, 48] (by decide +kernel) (by decide +kernel)
set_option maxRecDepth 20000 in
theorem gX4_volume_X0_sumLines : GoodIn wsX4_volume (wsV RX4 174 RX0 yX0_sumLines wsX0_sumLines) := goodIn_app (goodIn_of _ (by decide +kernel)) ggX4_volume_X0_sumLines
theorem dX4_volume_0 : decode cX4_volume 0 = .ok (.aload_n 0, 1) := by decide +kernel
theorem dX4_volume_1 : decode cX4_volume 1 = .ok (.getfield 26, 3) := by decide +kernel
theorem dX4_volume_4 : decode cX4_volume 4 = .ok (.aload_n 0, 1) := by decide +kernel
theorem dX4_volume_5 : decode cX4_volume 5 = .ok (.getfield 37, 3) := by decide +kernel
theorem dX4_volume_8 : decode cX4_volume 8 = .ok (.aload_n 0, 1) := by decide +kernel
theorem dX4_volume_9 : decode cX4_volume 9 = .ok (.getfield 9, 3) := by decide +kernel
theorem dX4_volume_12 : decode cX4_volume 12 = .ok (.iconst 2, 1) := by decide +kernel
theorem dX4_volume_13 : decode cX4_volume 13 = .ok (.iaload, 1) := by decide +kernel
theorem dX4_volume_14 : decode cX4_volume 14 = .ok (.invokevirtual 174, 3) := by decide +kernel
theorem dX4_volume_17 : decode cX4_volume 17 = .ok (.istore_n 1, 1) := by decide +kernel
theorem dX4_volume_18 : decode cX4_volume 18 = .ok (.iconst (-1), 1) := by decide +kernel
theorem dX4_volume_19 : decode cX4_volume 19 = .ok (.istore_n 2, 1) := by decide +kernel
theorem dX4_volume_20 : decode cX4_volume 20 = .ok (.iconst 0, 1) := by decide +kernel
theorem dX4_volume_21 : decode cX4_volume 21 = .ok (.istore_n 3, 1) := by decide +kernel
theorem dX4_volume_22 : decode cX4_volume 22 = .ok (.iconst 0, 1) := by decide +kernel
theorem dX4_volume_23 : decode cX4_volume 23 = .ok (.istore 4, 2) := by decide +kernel
theorem dX4_volume_25 : decode cX4_volume 25 = .ok (.iconst 0, 1) := by decide +kernel
theorem dX4_volume_26 : decode cX4_volume 26 = .ok (.istore 5, 2) := by decide +kernel
theorem dX4_volume_28 : decode cX4_volume 28 = .ok (.iload 5, 2) := by decide +kernel
theorem dX4_volume_30 : decode cX4_volume 30 = .ok (.bipush 26, 2) := by decide +kernel
theorem dX4_volume_32 : decode cX4_volume 32 = .ok (.if_icmp .ge 63, 3) := by decide +kernel
theorem dX4_volume_35 : decode cX4_volume 35 = .ok (.aload_n 0, 1) := by decide +kernel
theorem dX4_volume_36 : decode cX4_volume 36 = .ok (.getfield 37, 3) := by decide +kernel
theorem dX4_volume_39 : decode cX4_volume 39 = .ok (.iload 5, 2) := by decide +kernel
theorem dX4_volume_41 : decode cX4_volume 41 = .ok (.iaload, 1) := by decide +kernel
theorem dX4_volume_42 : decode cX4_volume 42 = .ok (.istore 6, 2) := by decide +kernel
theorem dX4_volume_44 : decode cX4_volume 44 = .ok (.iload 6, 2) := by decide +kernel
theorem dX4_volume_46 : decode cX4_volume 46 = .ok (.ifCond .le 36, 3) := by decide +kernel
theorem dX4_volume_49 : decode cX4_volume 49 = .ok (.iload 4, 2) := by decide +kernel
theorem dX4_volume_51 : decode cX4_volume 51 = .ok (.ifCond .le 31, 3) := by decide +kernel
theorem dX4_volume_54 : decode cX4_volume 54 = .ok (.iload_n 1, 1) := by decide +kernel
theorem dX4_volume_55 : decode cX4_volume 55 = .ok (.iconst 2, 1) := by decide +kernel
theorem dX4_volume_56 : decode cX4_volume 56 = .ok (.iload 4, 2) := by decide +kernel
theorem dX4_volume_58 : decode cX4_volume 58 = .ok (.imul, 1) := by decide +kernel
theorem dX4_volume_59 : decode cX4_volume 59 = .ok (.isub, 1) := by decide +kernel
theorem dX4_volume_60 : decode cX4_volume 60 = .ok (.invokestatic 178, 3) := by decide +kernel
theorem dX4_volume_63 : decode cX4_volume 63 = .ok (.istore 7, 2) := by decide +kernel
theorem dX4_volume_65 : decode cX4_volume 65 = .ok (.iload_n 2, 1) := by decide +kernel
theorem dX4_volume_66 : decode cX4_volume 66 = .ok (.iconst (-1), 1) := by decide +kernel
theorem dX4_volume_67 : decode cX4_volume 67 = .ok (.if_icmp .eq 9, 3) := by decide +kernel
theorem dX4_volume_70 : decode cX4_volume 70 = .ok (.iload 7, 2) := by decide +kernel
theorem dX4_volume_72 : decode cX4_volume 72 = .ok (.iload_n 3, 1) := by decide +kernel
theorem dX4_volume_73 : decode cX4_volume 73 = .ok (.if_icmp .ge 9, 3) := by decide +kernel
theorem dX4_volume_76 : decode cX4_volume 76 = .ok (.iload 5, 2) := by decide +kernel
theorem dX4_volume_78 : decode cX4_volume 78 = .ok (.istore_n 2, 1) := by decide +kernel
theorem dX4_volume_79 : decode cX4_volume 79 = .ok (.iload 7, 2) := by decide +kernel
theorem dX4_volume_81 : decode cX4_volume 81 = .ok (.istore_n 3, 1) := by decide +kernel
theorem dX4_volume_82 : decode cX4_volume 82 = .ok (.iload 4, 2) := by decide +kernel
theorem dX4_volume_84 : decode cX4_volume 84 = .ok (.iload 6, 2) := by decide +kernel
theorem dX4_volume_86 : decode cX4_volume 86 = .ok (.iadd, 1) := by decide +kernel
theorem dX4_volume_87 : decode cX4_volume 87 = .ok (.istore 4, 2) := by decide +kernel
theorem dX4_volume_89 : decode cX4_volume 89 = .ok (.iinc 5 1, 3) := by decide +kernel
theorem dX4_volume_92 : decode cX4_volume 92 = .ok (.goto (-64), 3) := by decide +kernel
theorem dX4_volume_95 : decode cX4_volume 95 = .ok (.iload_n 2, 1) := by decide +kernel
theorem dX4_volume_96 : decode cX4_volume 96 = .ok (.ireturn, 1) := by decide +kernel
set_option maxRecDepth 20000 in
theorem ggX4_count_X2_length : GoodIn wsX4_count wsX2_length := goodIn_r _ [8, 9, 29, 30] (by decide +kernel) (by decide +kernel)
set_option maxRecDepth 20000 in
theorem gX4_count_X2_length : GoodIn wsX4_count (wsV RX4 79 RX2 yX2_length wsX2_length) := goodIn_app (goodIn_of _ (by decide +kernel)) ggX4_count_X2_length
theorem dX4_count_0 : decode cX4_count 0 = .ok (.iload_n 1, 1) := by decide +kernel
theorem dX4_count_1 : decode cX4_count 1 = .ok (.tableswitch 60 0 3 #[31, 39, 47, 52], 31) := by decide +kernel
theorem dX4_count_32 : decode cX4_count 32 = .ok (.aload_n 0, 1) := by decide +kernel
theorem dX4_count_33 : decode cX4_count 33 = .ok (.getfield 26, 3) := by decide +kernel
theorem dX4_count_36 : decode cX4_count 36 = .ok (.getfield 183, 3) := by decide +kernel
theorem dX4_count_39 : decode cX4_count 39 = .ok (.ireturn, 1) := by decide +kernel
theorem dX4_count_40 : decode cX4_count 40 = .ok (.aload_n 0, 1) := by decide +kernel
theorem dX4_count_41 : decode cX4_count 41 = .ok (.getfield 26, 3) := by decide +kernel
theorem dX4_count_44 : decode cX4_count 44 = .ok (.getfield 186, 3) := by decide +kernel
theorem dX4_count_47 : decode cX4_count 47 = .ok (.ireturn, 1) := by decide +kernel
theorem dX4_count_48 : decode cX4_count 48 = .ok (.aload_n 0, 1) := by decide +kernel
theorem dX4_count_49 : decode cX4_count 49 = .ok (.getfield 67, 3) := by decide +kernel
theorem dX4_count_52 : decode cX4_count 52 = .ok (.ireturn, 1) := by decide +kernel
theorem dX4_count_53 : decode cX4_count 53 = .ok (.aload_n 0, 1) := by decide +kernel
theorem dX4_count_54 : decode cX4_count 54 = .ok (.getfield 19, 3) := by decide +kernel
theorem dX4_count_57 : decode cX4_count 57 = .ok (.invokevirtual 79, 3) := by decide +kernel
theorem dX4_count_60 : decode cX4_count 60 = .ok (.ireturn, 1) := by decide +kernel
theorem dX4_count_61 : decode cX4_count 61 = .ok (.iconst (-1), 1) := by decide +kernel
theorem dX4_count_62 : decode cX4_count 62 = .ok (.ireturn, 1) := by decide +kernel
theorem dX4_checkEntry_0 : decode cX4_checkEntry 0 = .ok (.iload_n 1, 1) := by decide +kernel
theorem dX4_checkEntry_1 : decode cX4_checkEntry 1 = .ok (.ifCond .lt 14, 3) := by decide +kernel
theorem dX4_checkEntry_4 : decode cX4_checkEntry 4 = .ok (.iload_n 1, 1) := by decide +kernel
theorem dX4_checkEntry_5 : decode cX4_checkEntry 5 = .ok (.aload_n 0, 1) := by decide +kernel
theorem dX4_checkEntry_6 : decode cX4_checkEntry 6 = .ok (.getfield 26, 3) := by decide +kernel
theorem dX4_checkEntry_9 : decode cX4_checkEntry 9 = .ok (.getfield 186, 3) := by decide +kernel
theorem dX4_checkEntry_12 : decode cX4_checkEntry 12 = .ok (.if_icmp .lt 13, 3) := by decide +kernel
theorem dX4_checkEntry_15 : decode cX4_checkEntry 15 = .ok (.new 138, 3) := by decide +kernel
theorem dX4_checkEntry_18 : decode cX4_checkEntry 18 = .ok (.dup, 1) := by decide +kernel
theorem dX4_checkEntry_19 : decode cX4_checkEntry 19 = .ok (.ldc 189, 2) := by decide +kernel
theorem dX4_checkEntry_21 : decode cX4_checkEntry 21 = .ok (.invokespecial 142, 3) := by decide +kernel
theorem dX4_checkEntry_24 : decode cX4_checkEntry 24 = .ok (.athrow, 1) := by decide +kernel
theorem dX4_checkEntry_25 : decode cX4_checkEntry 25 = .ok (.return_, 1) := by decide +kernel
