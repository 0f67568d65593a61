theorem dX0_init_0 : decode cX0_init 0 = .ok (.aload_n 0, 1) := by decide +kernel
theorem dX0_init_1 : decode cX0_init 1 = .ok (.invokespecial 3, 3) := by decide +kernel
theorem dX0_init_4 : decode cX0_init 4 = .ok (.aload_n 0, 1) := by decide +kernel
theorem dX0_init_5 : decode cX0_init 5 = .ok (.sipush 150, 3) := by decide +kernel
theorem dX0_init_8 : decode cX0_init 8 = .ok (.newarray .long, 2) := by decide +kernel
theorem dX0_init_10 : decode cX0_init 10 = .ok (.putfield 9, 3) := by decide +kernel
theorem dX0_init_13 : decode cX0_init 13 = .ok (.aload_n 0, 1) := by decide +kernel
theorem dX0_init_14 : decode cX0_init 14 = .ok (.sipush 150, 3) := by decide +kernel
theorem dX0_init_17 : decode cX0_init 17 = .ok (.newarray .long, 2) := by decide +kernel
theorem dX0_init_19 : decode cX0_init 19 = .ok (.putfield 15, 3) := by decide +kernel
theorem dX0_init_22 : decode cX0_init 22 = .ok (.aload_n 0, 1) := by decide +kernel
theorem dX0_init_23 : decode cX0_init 23 = .ok (.sipush 150, 3) := by decide +kernel
theorem dX0_init_26 : decode cX0_init 26 = .ok (.newarray .int, 2) := by decide +kernel
theorem dX0_init_28 : decode cX0_init 28 = .ok (.putfield 18, 3) := by decide +kernel
theorem dX0_init_31 : decode cX0_init 31 = .ok (.aload_n 0, 1) := by decide +kernel
theorem dX0_init_32 : decode cX0_init 32 = .ok (.sipush 900, 3) := by decide +kernel
theorem dX0_init_35 : decode cX0_init 35 = .ok (.newarray .int, 2) := by decide +kernel
theorem dX0_init_37 : decode cX0_init 37 = .ok (.putfield 22, 3) := by decide +kernel
theorem dX0_init_40 : decode cX0_init 40 = .ok (.aload_n 0, 1) := by decide +kernel
theorem dX0_init_41 : decode cX0_init 41 = .ok (.sipush 150, 3) := by decide +kernel
theorem dX0_init_44 : decode cX0_init 44 = .ok (.newarray .boolean, 2) := by decide +kernel
theorem dX0_init_46 : decode cX0_init 46 = .ok (.putfield 25, 3) := by decide +kernel
theorem dX0_init_49 : decode cX0_init 49 = .ok (.aload_n 0, 1) := by decide +kernel
theorem dX0_init_50 : decode cX0_init 50 = .ok (.sipush 150, 3) := by decide +kernel
theorem dX0_init_53 : decode cX0_init 53 = .ok (.newarray .int, 2) := by decide +kernel
theorem dX0_init_55 : decode cX0_init 55 = .ok (.putfield 29, 3) := by decide +kernel
theorem dX0_init_58 : decode cX0_init 58 = .ok (.aload_n 0, 1) := by decide +kernel
theorem dX0_init_59 : decode cX0_init 59 = .ok (.sipush 150, 3) := by decide +kernel
theorem dX0_init_62 : decode cX0_init 62 = .ok (.newarray .int, 2) := by decide +kernel
theorem dX0_init_64 : decode cX0_init 64 = .ok (.putfield 32, 3) := by decide +kernel
theorem dX0_init_67 : decode cX0_init 67 = .ok (.return_, 1) := by decide +kernel
set_option maxRecDepth 20000 in
theorem ggX0_admit_X0_headsBelow : GoodIn wsX0_admit wsX0_headsBelow := goodIn_r _ [12, 6, 2, 7, 13, 14, 15, 16, 17, 18, 19, 20, 21] (by decide +kernel) (by decide +kernel)
set_option maxRecDepth 20000 in
theorem gX0_admit_X0_headsBelow : GoodIn wsX0_admit (wsV RX0 39 RX0 yX0_headsBelow wsX0_headsBelow) := goodIn_app (goodIn_of _ (by decide +kernel)) ggX0_admit_X0_headsBelow
theorem dX0_admit_0 : decode cX0_admit 0 = .ok (.aload_n 0, 1) := by decide +kernel
theorem dX0_admit_1 : decode cX0_admit 1 = .ok (.getfield 35, 3) := by decide +kernel
theorem dX0_admit_4 : decode cX0_admit 4 = .ok (.sipush 150, 3) := by decide +kernel
theorem dX0_admit_7 : decode cX0_admit 7 = .ok (.if_icmp .lt 6, 3) := by decide +kernel
theorem dX0_admit_10 : decode cX0_admit 10 = .ok (.bipush (-3), 2) := by decide +kernel
theorem dX0_admit_12 : decode cX0_admit 12 = .ok (.ireturn, 1) := by decide +kernel
theorem dX0_admit_13 : decode cX0_admit 13 = .ok (.aload_n 0, 1) := by decide +kernel
theorem dX0_admit_14 : decode cX0_admit 14 = .ok (.getfield 35, 3) := by decide +kernel
theorem dX0_admit_17 : decode cX0_admit 17 = .ok (.istore 7, 2) := by decide +kernel
theorem dX0_admit_19 : decode cX0_admit 19 = .ok (.aload_n 0, 1) := by decide +kernel
theorem dX0_admit_20 : decode cX0_admit 20 = .ok (.getfield 9, 3) := by decide +kernel
theorem dX0_admit_23 : decode cX0_admit 23 = .ok (.iload 7, 2) := by decide +kernel
theorem dX0_admit_25 : decode cX0_admit 25 = .ok (.lload_n 1, 1) := by decide +kernel
theorem dX0_admit_26 : decode cX0_admit 26 = .ok (.lastore, 1) := by decide +kernel
theorem dX0_admit_27 : decode cX0_admit 27 = .ok (.aload_n 0, 1) := by decide +kernel
theorem dX0_admit_28 : decode cX0_admit 28 = .ok (.getfield 15, 3) := by decide +kernel
theorem dX0_admit_31 : decode cX0_admit 31 = .ok (.iload 7, 2) := by decide +kernel
theorem dX0_admit_33 : decode cX0_admit 33 = .ok (.lload_n 3, 1) := by decide +kernel
theorem dX0_admit_34 : decode cX0_admit 34 = .ok (.lastore, 1) := by decide +kernel
theorem dX0_admit_35 : decode cX0_admit 35 = .ok (.aload_n 0, 1) := by decide +kernel
theorem dX0_admit_36 : decode cX0_admit 36 = .ok (.getfield 18, 3) := by decide +kernel
theorem dX0_admit_39 : decode cX0_admit 39 = .ok (.iload 7, 2) := by decide +kernel
theorem dX0_admit_41 : decode cX0_admit 41 = .ok (.iload 6, 2) := by decide +kernel
theorem dX0_admit_43 : decode cX0_admit 43 = .ok (.iastore, 1) := by decide +kernel
theorem dX0_admit_44 : decode cX0_admit 44 = .ok (.iconst 0, 1) := by decide +kernel
theorem dX0_admit_45 : decode cX0_admit 45 = .ok (.istore 8, 2) := by decide +kernel
theorem dX0_admit_47 : decode cX0_admit 47 = .ok (.iload 8, 2) := by decide +kernel
theorem dX0_admit_49 : decode cX0_admit 49 = .ok (.iload 6, 2) := by decide +kernel
theorem dX0_admit_51 : decode cX0_admit 51 = .ok (.if_icmp .ge 27, 3) := by decide +kernel
theorem dX0_admit_54 : decode cX0_admit 54 = .ok (.aload_n 0, 1) := by decide +kernel
theorem dX0_admit_55 : decode cX0_admit 55 = .ok (.getfield 22, 3) := by decide +kernel
theorem dX0_admit_58 : decode cX0_admit 58 = .ok (.iload 7, 2) := by decide +kernel
theorem dX0_admit_60 : decode cX0_admit 60 = .ok (.bipush 6, 2) := by decide +kernel
theorem dX0_admit_62 : decode cX0_admit 62 = .ok (.imul, 1) := by decide +kernel
theorem dX0_admit_63 : decode cX0_admit 63 = .ok (.iload 8, 2) := by decide +kernel
theorem dX0_admit_65 : decode cX0_admit 65 = .ok (.iadd, 1) := by decide +kernel
theorem dX0_admit_66 : decode cX0_admit 66 = .ok (.aload 5, 2) := by decide +kernel
theorem dX0_admit_68 : decode cX0_admit 68 = .ok (.iload 8, 2) := by decide +kernel
theorem dX0_admit_70 : decode cX0_admit 70 = .ok (.iaload, 1) := by decide +kernel
theorem dX0_admit_71 : decode cX0_admit 71 = .ok (.iastore, 1) := by decide +kernel
theorem dX0_admit_72 : decode cX0_admit 72 = .ok (.iinc 8 1, 3) := by decide +kernel
theorem dX0_admit_75 : decode cX0_admit 75 = .ok (.goto (-28), 3) := by decide +kernel
theorem dX0_admit_78 : decode cX0_admit 78 = .ok (.aload_n 0, 1) := by decide +kernel
theorem dX0_admit_79 : decode cX0_admit 79 = .ok (.lload_n 1, 1) := by decide +kernel
theorem dX0_admit_80 : decode cX0_admit 80 = .ok (.lconst 1, 1) := by decide +kernel
theorem dX0_admit_81 : decode cX0_admit 81 = .ok (.ladd, 1) := by decide +kernel
theorem dX0_admit_82 : decode cX0_admit 82 = .ok (.invokevirtual 39, 3) := by decide +kernel
theorem dX0_admit_85 : decode cX0_admit 85 = .ok (.istore 8, 2) := by decide +kernel
theorem dX0_admit_87 : decode cX0_admit 87 = .ok (.aload_n 0, 1) := by decide +kernel
theorem dX0_admit_88 : decode cX0_admit 88 = .ok (.getfield 43, 3) := by decide +kernel
theorem dX0_admit_91 : decode cX0_admit 91 = .ok (.istore 9, 2) := by decide +kernel
theorem dX0_admit_93 : decode cX0_admit 93 = .ok (.iload 9, 2) := by decide +kernel
theorem dX0_admit_95 : decode cX0_admit 95 = .ok (.iload 8, 2) := by decide +kernel
theorem dX0_admit_97 : decode cX0_admit 97 = .ok (.if_icmp .le 25, 3) := by decide +kernel
theorem dX0_admit_100 : decode cX0_admit 100 = .ok (.aload_n 0, 1) := by decide +kernel
theorem dX0_admit_101 : decode cX0_admit 101 = .ok (.getfield 29, 3) := by decide +kernel
theorem dX0_admit_104 : decode cX0_admit 104 = .ok (.iload 9, 2) := by decide +kernel
theorem dX0_admit_106 : decode cX0_admit 106 = .ok (.aload_n 0, 1) := by decide +kernel
theorem dX0_admit_107 : decode cX0_admit 107 = .ok (.getfield 29, 3) := by decide +kernel
theorem dX0_admit_110 : decode cX0_admit 110 = .ok (.iload 9, 2) := by decide +kernel
theorem dX0_admit_112 : decode cX0_admit 112 = .ok (.iconst 1, 1) := by decide +kernel
theorem dX0_admit_113 : decode cX0_admit 113 = .ok (.isub, 1) := by decide +kernel
theorem dX0_admit_114 : decode cX0_admit 114 = .ok (.iaload, 1) := by decide +kernel
theorem dX0_admit_115 : decode cX0_admit 115 = .ok (.iastore, 1) := by decide +kernel
theorem dX0_admit_116 : decode cX0_admit 116 = .ok (.iinc 9 (-1), 3) := by decide +kernel
theorem dX0_admit_119 : decode cX0_admit 119 = .ok (.goto (-26), 3) := by decide +kernel
theorem dX0_admit_122 : decode cX0_admit 122 = .ok (.aload_n 0, 1) := by decide +kernel
theorem dX0_admit_123 : decode cX0_admit 123 = .ok (.getfield 29, 3) := by decide +kernel
theorem dX0_admit_126 : decode cX0_admit 126 = .ok (.iload 8, 2) := by decide +kernel
theorem dX0_admit_128 : decode cX0_admit 128 = .ok (.iload 7, 2) := by decide +kernel
theorem dX0_admit_130 : decode cX0_admit 130 = .ok (.iastore, 1) := by decide +kernel
theorem dX0_admit_131 : decode cX0_admit 131 = .ok (.aload_n 0, 1) := by decide +kernel
theorem dX0_admit_132 : decode cX0_admit 132 = .ok (.dup, 1) := by decide +kernel
theorem dX0_admit_133 : decode cX0_admit 133 = .ok (.getfield 43, 3) := by decide +kernel
theorem dX0_admit_136 : decode cX0_admit 136 = .ok (.iconst 1, 1) := by decide +kernel
theorem dX0_admit_137 : decode cX0_admit 137 = .ok (.iadd, 1) := by decide +kernel
theorem dX0_admit_138 : decode cX0_admit 138 = .ok (.putfield 43, 3) := by decide +kernel
theorem dX0_admit_141 : decode cX0_admit 141 = .ok (.aload_n 0, 1) := by decide +kernel
theorem dX0_admit_142 : decode cX0_admit 142 = .ok (.dup, 1) := by decide +kernel
theorem dX0_admit_143 : decode cX0_admit 143 = .ok (.getfield 35, 3) := by decide +kernel
theorem dX0_admit_146 : decode cX0_admit 146 = .ok (.iconst 1, 1) := by decide +kernel
theorem dX0_admit_147 : decode cX0_admit 147 = .ok (.iadd, 1) := by decide +kernel
theorem dX0_admit_148 : decode cX0_admit 148 = .ok (.putfield 35, 3) := by decide +kernel
theorem dX0_admit_151 : decode cX0_admit 151 = .ok (.iload 7, 2) := by decide +kernel
theorem dX0_admit_153 : decode cX0_admit 153 = .ok (.ireturn, 1) := by decide +kernel
theorem dX0_remove_0 : decode cX0_remove 0 = .ok (.aload_n 0, 1) := by decide +kernel
theorem dX0_remove_1 : decode cX0_remove 1 = .ok (.getfield 25, 3) := by decide +kernel
theorem dX0_remove_4 : decode cX0_remove 4 = .ok (.iload_n 1, 1) := by decide +kernel
theorem dX0_remove_5 : decode cX0_remove 5 = .ok (.baload, 1) := by decide +kernel
theorem dX0_remove_6 : decode cX0_remove 6 = .ok (.ifCond .eq 5, 3) := by decide +kernel
theorem dX0_remove_9 : decode cX0_remove 9 = .ok (.iconst 0, 1) := by decide +kernel
theorem dX0_remove_10 : decode cX0_remove 10 = .ok (.ireturn, 1) := by decide +kernel
theorem dX0_remove_11 : decode cX0_remove 11 = .ok (.aload_n 0, 1) := by decide +kernel
theorem dX0_remove_12 : decode cX0_remove 12 = .ok (.getfield 25, 3) := by decide +kernel
theorem dX0_remove_15 : decode cX0_remove 15 = .ok (.iload_n 1, 1) := by decide +kernel
theorem dX0_remove_16 : decode cX0_remove 16 = .ok (.iconst 1, 1) := by decide +kernel
theorem dX0_remove_17 : decode cX0_remove 17 = .ok (.bastore, 1) := by decide +kernel
theorem dX0_remove_18 : decode cX0_remove 18 = .ok (.iconst 0, 1) := by decide +kernel
theorem dX0_remove_19 : decode cX0_remove 19 = .ok (.istore_n 2, 1) := by decide +kernel
theorem dX0_remove_20 : decode cX0_remove 20 = .ok (.iconst 0, 1) := by decide +kernel
theorem dX0_remove_21 : decode cX0_remove 21 = .ok (.istore_n 3, 1) := by decide +kernel
theorem dX0_remove_22 : decode cX0_remove 22 = .ok (.iload_n 3, 1) := by decide +kernel
theorem dX0_remove_23 : decode cX0_remove 23 = .ok (.aload_n 0, 1) := by decide +kernel
theorem dX0_remove_24 : decode cX0_remove 24 = .ok (.getfield 43, 3) := by decide +kernel
theorem dX0_remove_27 : decode cX0_remove 27 = .ok (.if_icmp .ge 34, 3) := by decide +kernel
theorem dX0_remove_30 : decode cX0_remove 30 = .ok (.aload_n 0, 1) := by decide +kernel
theorem dX0_remove_31 : decode cX0_remove 31 = .ok (.getfield 29, 3) := by decide +kernel
theorem dX0_remove_34 : decode cX0_remove 34 = .ok (.iload_n 3, 1) := by decide +kernel
theorem dX0_remove_35 : decode cX0_remove 35 = .ok (.iaload, 1) := by decide +kernel
theorem dX0_remove_36 : decode cX0_remove 36 = .ok (.iload_n 1, 1) := by decide +kernel
theorem dX0_remove_37 : decode cX0_remove 37 = .ok (.if_icmp .eq 18, 3) := by decide +kernel
theorem dX0_remove_40 : decode cX0_remove 40 = .ok (.aload_n 0, 1) := by decide +kernel
theorem dX0_remove_41 : decode cX0_remove 41 = .ok (.getfield 29, 3) := by decide +kernel
theorem dX0_remove_44 : decode cX0_remove 44 = .ok (.iload_n 2, 1) := by decide +kernel
theorem dX0_remove_45 : decode cX0_remove 45 = .ok (.aload_n 0, 1) := by decide +kernel
theorem dX0_remove_46 : decode cX0_remove 46 = .ok (.getfield 29, 3) := by decide +kernel
theorem dX0_remove_49 : decode cX0_remove 49 = .ok (.iload_n 3, 1) := by decide +kernel
theorem dX0_remove_50 : decode cX0_remove 50 = .ok (.iaload, 1) := by decide +kernel
theorem dX0_remove_51 : decode cX0_remove 51 = .ok (.iastore, 1) := by decide +kernel
theorem dX0_remove_52 : decode cX0_remove 52 = .ok (.iinc 2 1, 3) := by decide +kernel
theorem dX0_remove_55 : decode cX0_remove 55 = .ok (.iinc 3 1, 3) := by decide +kernel
theorem dX0_remove_58 : decode cX0_remove 58 = .ok (.goto (-36), 3) := by decide +kernel
theorem dX0_remove_61 : decode cX0_remove 61 = .ok (.aload_n 0, 1) := by decide +kernel
theorem dX0_remove_62 : decode cX0_remove 62 = .ok (.iload_n 2, 1) := by decide +kernel
theorem dX0_remove_63 : decode cX0_remove 63 = .ok (.putfield 43, 3) := by decide +kernel
theorem dX0_remove_66 : decode cX0_remove 66 = .ok (.iconst 1, 1) := by decide +kernel
theorem dX0_remove_67 : decode cX0_remove 67 = .ok (.ireturn, 1) := by decide +kernel
theorem dX0_inOrder_0 : decode cX0_inOrder 0 = .ok (.iload_n 1, 1) := by decide +kernel
theorem dX0_inOrder_1 : decode cX0_inOrder 1 = .ok (.ifCond .lt 11, 3) := by decide +kernel
theorem dX0_inOrder_4 : decode cX0_inOrder 4 = .ok (.iload_n 1, 1) := by decide +kernel
theorem dX0_inOrder_5 : decode cX0_inOrder 5 = .ok (.aload_n 0, 1) := by decide +kernel
theorem dX0_inOrder_6 : decode cX0_inOrder 6 = .ok (.getfield 43, 3) := by decide +kernel
theorem dX0_inOrder_9 : decode cX0_inOrder 9 = .ok (.if_icmp .lt 7, 3) := by decide +kernel
theorem dX0_inOrder_12 : decode cX0_inOrder 12 = .ok (.iconst (-1), 1) := by decide +kernel
theorem dX0_inOrder_13 : decode cX0_inOrder 13 = .ok (.goto 9, 3) := by decide +kernel
theorem dX0_inOrder_16 : decode cX0_inOrder 16 = .ok (.aload_n 0, 1) := by decide +kernel
theorem dX0_inOrder_17 : decode cX0_inOrder 17 = .ok (.getfield 29, 3) := by decide +kernel
theorem dX0_inOrder_20 : decode cX0_inOrder 20 = .ok (.iload_n 1, 1) := by decide +kernel
theorem dX0_inOrder_21 : decode cX0_inOrder 21 = .ok (.iaload, 1) := by decide +kernel
theorem dX0_inOrder_22 : decode cX0_inOrder 22 = .ok (.ireturn, 1) := by decide +kernel
set_option maxRecDepth 20000 in
theorem ggX0_letterOf_X2_firstLetter : GoodIn wsX0_letterOf wsX2_firstLetter := goodIn_r _ [5] (by decide +kernel) (by decide +kernel)
set_option maxRecDepth 20000 in
theorem gX0_letterOf_X2_firstLetter : GoodIn wsX0_letterOf (va_wsS RX0 46 yX2_firstLetter wsX2_firstLetter) := goodIn_app (goodIn_of _ (by decide +kernel)) ggX0_letterOf_X2_firstLetter
theorem dX0_letterOf_0 : decode cX0_letterOf 0 = .ok (.aload_n 0, 1) := by decide +kernel
theorem dX0_letterOf_1 : decode cX0_letterOf 1 = .ok (.getfield 9, 3) := by decide +kernel
theorem dX0_letterOf_4 : decode cX0_letterOf 4 = .ok (.iload_n 1, 1) := by decide +kernel
theorem dX0_letterOf_5 : decode cX0_letterOf 5 = .ok (.laload, 1) := by decide +kernel
theorem dX0_letterOf_6 : decode cX0_letterOf 6 = .ok (.invokestatic 46, 3) := by decide +kernel
theorem dX0_letterOf_9 : decode cX0_letterOf 9 = .ok (.ireturn, 1) := by decide +kernel
set_option maxRecDepth 20000 in
theorem ggX0_follow_J7_fill_53178 : GoodIn wsX0_follow wsJ7_fill_53178 := goodIn_r _ [6] (by decide +kernel) (by decide +kernel)
set_option maxRecDepth 20000 in
theorem gX0_follow_J7_fill_53178 : GoodIn wsX0_follow (va_wsS RX0 51 yJ7_fill_53178 wsJ7_fill_53178) := goodIn_app (goodIn_of _ (by decide +kernel)) ggX0_follow_J7_fill_53178
set_option maxRecDepth 20000 in
theorem ggX0_follow_X0_firstWith : GoodIn wsX0_follow wsX0_firstWith := goodIn_r _ [11, 12, 13, 14, 15, 16, 17, 10, 18, 19, 20, 21, 22, 23, 24, 25, 26, 27] (by decide +kernel) (by decide +kernel)
set_option maxRecDepth 20000 in
theorem gX0_follow_X0_firstWith : GoodIn wsX0_follow (wsV RX0 57 RX0 yX0_firstWith wsX0_firstWith) := goodIn_app (goodIn_of _ (by decide +kernel)) ggX0_follow_X0_firstWith
theorem dX0_follow_0 : decode cX0_follow 0 = .ok (.aload_n 0, 1) := by decide +kernel
theorem dX0_follow_1 : decode cX0_follow 1 = .ok (.getfield 32, 3) := by decide +kernel
theorem dX0_follow_4 : decode cX0_follow 4 = .ok (.iconst 0, 1) := by decide +kernel
theorem dX0_follow_5 : decode cX0_follow 5 = .ok (.invokestatic 51, 3) := by decide +kernel
theorem dX0_follow_8 : decode cX0_follow 8 = .ok (.iload_n 1, 1) := by decide +kernel
theorem dX0_follow_9 : decode cX0_follow 9 = .ok (.istore_n 2, 1) := by decide +kernel
theorem dX0_follow_10 : decode cX0_follow 10 = .ok (.iconst 0, 1) := by decide +kernel
theorem dX0_follow_11 : decode cX0_follow 11 = .ok (.istore_n 3, 1) := by decide +kernel
theorem dX0_follow_12 : decode cX0_follow 12 = .ok (.iload_n 3, 1) := by decide +kernel
theorem dX0_follow_13 : decode cX0_follow 13 = .ok (.sipush 150, 3) := by decide +kernel
theorem dX0_follow_16 : decode cX0_follow 16 = .ok (.if_icmp .gt 64, 3) := by decide +kernel
theorem dX0_follow_19 : decode cX0_follow 19 = .ok (.aload_n 0, 1) := by decide +kernel
theorem dX0_follow_20 : decode cX0_follow 20 = .ok (.getfield 15, 3) := by decide +kernel
theorem dX0_follow_23 : decode cX0_follow 23 = .ok (.iload_n 2, 1) := by decide +kernel
theorem dX0_follow_24 : decode cX0_follow 24 = .ok (.laload, 1) := by decide +kernel
theorem dX0_follow_25 : decode cX0_follow 25 = .ok (.lconst 0, 1) := by decide +kernel
theorem dX0_follow_26 : decode cX0_follow 26 = .ok (.lcmp, 1) := by decide +kernel
theorem dX0_follow_27 : decode cX0_follow 27 = .ok (.ifCond .ne 5, 3) := by decide +kernel
theorem dX0_follow_30 : decode cX0_follow 30 = .ok (.iload_n 2, 1) := by decide +kernel
theorem dX0_follow_31 : decode cX0_follow 31 = .ok (.ireturn, 1) := by decide +kernel
theorem dX0_follow_32 : decode cX0_follow 32 = .ok (.aload_n 0, 1) := by decide +kernel
theorem dX0_follow_33 : decode cX0_follow 33 = .ok (.getfield 32, 3) := by decide +kernel
theorem dX0_follow_36 : decode cX0_follow 36 = .ok (.iload_n 2, 1) := by decide +kernel
theorem dX0_follow_37 : decode cX0_follow 37 = .ok (.iaload, 1) := by decide +kernel
theorem dX0_follow_38 : decode cX0_follow 38 = .ok (.ifCond .eq 6, 3) := by decide +kernel
theorem dX0_follow_41 : decode cX0_follow 41 = .ok (.bipush (-2), 2) := by decide +kernel
theorem dX0_follow_43 : decode cX0_follow 43 = .ok (.ireturn, 1) := by decide +kernel
theorem dX0_follow_44 : decode cX0_follow 44 = .ok (.aload_n 0, 1) := by decide +kernel
theorem dX0_follow_45 : decode cX0_follow 45 = .ok (.getfield 32, 3) := by decide +kernel
theorem dX0_follow_48 : decode cX0_follow 48 = .ok (.iload_n 2, 1) := by decide +kernel
theorem dX0_follow_49 : decode cX0_follow 49 = .ok (.iconst 1, 1) := by decide +kernel
theorem dX0_follow_50 : decode cX0_follow 50 = .ok (.iastore, 1) := by decide +kernel
theorem dX0_follow_51 : decode cX0_follow 51 = .ok (.aload_n 0, 1) := by decide +kernel
theorem dX0_follow_52 : decode cX0_follow 52 = .ok (.aload_n 0, 1) := by decide +kernel
theorem dX0_follow_53 : decode cX0_follow 53 = .ok (.getfield 15, 3) := by decide +kernel
theorem dX0_follow_56 : decode cX0_follow 56 = .ok (.iload_n 2, 1) := by decide +kernel
theorem dX0_follow_57 : decode cX0_follow 57 = .ok (.laload, 1) := by decide +kernel
theorem dX0_follow_58 : decode cX0_follow 58 = .ok (.invokevirtual 57, 3) := by decide +kernel
theorem dX0_follow_61 : decode cX0_follow 61 = .ok (.istore 4, 2) := by decide +kernel
theorem dX0_follow_63 : decode cX0_follow 63 = .ok (.iload 4, 2) := by decide +kernel
theorem dX0_follow_65 : decode cX0_follow 65 = .ok (.iconst (-1), 1) := by decide +kernel
theorem dX0_follow_66 : decode cX0_follow 66 = .ok (.if_icmp .ne 5, 3) := by decide +kernel
theorem dX0_follow_69 : decode cX0_follow 69 = .ok (.iconst (-1), 1) := by decide +kernel
theorem dX0_follow_70 : decode cX0_follow 70 = .ok (.ireturn, 1) := by decide +kernel
theorem dX0_follow_71 : decode cX0_follow 71 = .ok (.iload 4, 2) := by decide +kernel
theorem dX0_follow_73 : decode cX0_follow 73 = .ok (.istore_n 2, 1) := by decide +kernel
theorem dX0_follow_74 : decode cX0_follow 74 = .ok (.iinc 3 1, 3) := by decide +kernel
theorem dX0_follow_77 : decode cX0_follow 77 = .ok (.goto (-65), 3) := by decide +kernel
theorem dX0_follow_80 : decode cX0_follow 80 = .ok (.bipush (-2), 2) := by decide +kernel
theorem dX0_follow_82 : decode cX0_follow 82 = .ok (.ireturn, 1) := by decide +kernel
set_option maxRecDepth 20000 in
theorem ggX0_sumLines_J7_fill_53178 : GoodIn wsX0_sumLines wsJ7_fill_53178 := goodIn_r _ [8] (by decide +kernel) (by decide +kernel)
set_option maxRecDepth 20000 in
theorem gX0_sumLines_J7_fill_53178 : GoodIn wsX0_sumLines (va_wsS RX0 51 yJ7_fill_53178 wsJ7_fill_53178) := goodIn_app (goodIn_of _ (by decide +kernel)) ggX0_sumLines_J7_fill_53178
set_option maxRecDepth 20000 in
theorem ggX0_sumLines_X0_letterOf : GoodIn wsX0_sumLines wsX0_letterOf := goodIn_r _ [13, 14, 15, 16, 17, 18, 19, 20, 21, 22, 23, 24, 25, 26, 27] (by decide +kernel) (by decide +kernel)
set_option maxRecDepth 20000 in
theorem gX0_sumLines_X0_letterOf : GoodIn wsX0_sumLines (wsV RX0 60 RX0 yX0_letterOf wsX0_letterOf) := goodIn_app (goodIn_of _ (by decide +kernel)) ggX0_sumLines_X0_letterOf
theorem dX0_sumLines_0 : decode cX0_sumLines 0 = .ok (.aload_n 1, 1) := by decide +kernel
theorem dX0_sumLines_1 : decode cX0_sumLines 1 = .ok (.iconst 0, 1) := by decide +kernel
theorem dX0_sumLines_2 : decode cX0_sumLines 2 = .ok (.invokestatic 51, 3) := by decide +kernel
theorem dX0_sumLines_5 : decode cX0_sumLines 5 = .ok (.iconst 0, 1) := by decide +kernel
theorem dX0_sumLines_6 : decode cX0_sumLines 6 = .ok (.istore_n 3, 1) := by decide +kernel
theorem dX0_sumLines_7 : decode cX0_sumLines 7 = .ok (.iconst 0, 1) := by decide +kernel
theorem dX0_sumLines_8 : decode cX0_sumLines 8 = .ok (.istore 4, 2) := by decide +kernel
theorem dX0_sumLines_10 : decode cX0_sumLines 10 = .ok (.iload 4, 2) := by decide +kernel
theorem dX0_sumLines_12 : decode cX0_sumLines 12 = .ok (.aload_n 0, 1) := by decide +kernel
theorem dX0_sumLines_13 : decode cX0_sumLines 13 = .ok (.getfield 43, 3) := by decide +kernel
theorem dX0_sumLines_16 : decode cX0_sumLines 16 = .ok (.if_icmp .ge 93, 3) := by decide +kernel
theorem dX0_sumLines_19 : decode cX0_sumLines 19 = .ok (.aload_n 0, 1) := by decide +kernel
theorem dX0_sumLines_20 : decode cX0_sumLines 20 = .ok (.getfield 29, 3) := by decide +kernel
theorem dX0_sumLines_23 : decode cX0_sumLines 23 = .ok (.iload 4, 2) := by decide +kernel
theorem dX0_sumLines_25 : decode cX0_sumLines 25 = .ok (.iaload, 1) := by decide +kernel
theorem dX0_sumLines_26 : decode cX0_sumLines 26 = .ok (.istore 5, 2) := by decide +kernel
theorem dX0_sumLines_28 : decode cX0_sumLines 28 = .ok (.aload_n 0, 1) := by decide +kernel
theorem dX0_sumLines_29 : decode cX0_sumLines 29 = .ok (.iload 5, 2) := by decide +kernel
theorem dX0_sumLines_31 : decode cX0_sumLines 31 = .ok (.invokevirtual 60, 3) := by decide +kernel
theorem dX0_sumLines_34 : decode cX0_sumLines 34 = .ok (.istore 6, 2) := by decide +kernel
theorem dX0_sumLines_36 : decode cX0_sumLines 36 = .ok (.aload_n 1, 1) := by decide +kernel
theorem dX0_sumLines_37 : decode cX0_sumLines 37 = .ok (.iload 6, 2) := by decide +kernel
theorem dX0_sumLines_39 : decode cX0_sumLines 39 = .ok (.iaload, 1) := by decide +kernel
theorem dX0_sumLines_40 : decode cX0_sumLines 40 = .ok (.ifCond .ne 7, 3) := by decide +kernel
theorem dX0_sumLines_43 : decode cX0_sumLines 43 = .ok (.iload_n 2, 1) := by decide +kernel
theorem dX0_sumLines_44 : decode cX0_sumLines 44 = .ok (.goto 4, 3) := by decide +kernel
theorem dX0_sumLines_47 : decode cX0_sumLines 47 = .ok (.iconst 0, 1) := by decide +kernel
theorem dX0_sumLines_48 : decode cX0_sumLines 48 = .ok (.istore 7, 2) := by decide +kernel
theorem dX0_sumLines_50 : decode cX0_sumLines 50 = .ok (.iconst 0, 1) := by decide +kernel
theorem dX0_sumLines_51 : decode cX0_sumLines 51 = .ok (.istore 8, 2) := by decide +kernel
theorem dX0_sumLines_53 : decode cX0_sumLines 53 = .ok (.iload 8, 2) := by decide +kernel
theorem dX0_sumLines_55 : decode cX0_sumLines 55 = .ok (.aload_n 0, 1) := by decide +kernel
theorem dX0_sumLines_56 : decode cX0_sumLines 56 = .ok (.getfield 18, 3) := by decide +kernel
theorem dX0_sumLines_59 : decode cX0_sumLines 59 = .ok (.iload 5, 2) := by decide +kernel
theorem dX0_sumLines_61 : decode cX0_sumLines 61 = .ok (.iaload, 1) := by decide +kernel
theorem dX0_sumLines_62 : decode cX0_sumLines 62 = .ok (.if_icmp .ge 27, 3) := by decide +kernel
theorem dX0_sumLines_65 : decode cX0_sumLines 65 = .ok (.iload 7, 2) := by decide +kernel
theorem dX0_sumLines_67 : decode cX0_sumLines 67 = .ok (.aload_n 0, 1) := by decide +kernel
theorem dX0_sumLines_68 : decode cX0_sumLines 68 = .ok (.getfield 22, 3) := by decide +kernel
theorem dX0_sumLines_71 : decode cX0_sumLines 71 = .ok (.iload 5, 2) := by decide +kernel
theorem dX0_sumLines_73 : decode cX0_sumLines 73 = .ok (.bipush 6, 2) := by decide +kernel
theorem dX0_sumLines_75 : decode cX0_sumLines 75 = .ok (.imul, 1) := by decide +kernel
theorem dX0_sumLines_76 : decode cX0_sumLines 76 = .ok (.iload 8, 2) := by decide +kernel
theorem dX0_sumLines_78 : decode cX0_sumLines 78 = .ok (.iadd, 1) := by decide +kernel
theorem dX0_sumLines_79 : decode cX0_sumLines 79 = .ok (.iaload, 1) := by decide +kernel
theorem dX0_sumLines_80 : decode cX0_sumLines 80 = .ok (.iadd, 1) := by decide +kernel
theorem dX0_sumLines_81 : decode cX0_sumLines 81 = .ok (.istore 7, 2) := by decide +kernel
theorem dX0_sumLines_83 : decode cX0_sumLines 83 = .ok (.iinc 8 1, 3) := by decide +kernel
theorem dX0_sumLines_86 : decode cX0_sumLines 86 = .ok (.goto (-33), 3) := by decide +kernel
theorem dX0_sumLines_89 : decode cX0_sumLines 89 = .ok (.aload_n 1, 1) := by decide +kernel
theorem dX0_sumLines_90 : decode cX0_sumLines 90 = .ok (.iload 6, 2) := by decide +kernel
theorem dX0_sumLines_92 : decode cX0_sumLines 92 = .ok (.dup2, 1) := by decide +kernel
theorem dX0_sumLines_93 : decode cX0_sumLines 93 = .ok (.iaload, 1) := by decide +kernel
theorem dX0_sumLines_94 : decode cX0_sumLines 94 = .ok (.iload 7, 2) := by decide +kernel
theorem dX0_sumLines_96 : decode cX0_sumLines 96 = .ok (.iadd, 1) := by decide +kernel
theorem dX0_sumLines_97 : decode cX0_sumLines 97 = .ok (.iastore, 1) := by decide +kernel
theorem dX0_sumLines_98 : decode cX0_sumLines 98 = .ok (.iload_n 3, 1) := by decide +kernel
theorem dX0_sumLines_99 : decode cX0_sumLines 99 = .ok (.iload 7, 2) := by decide +kernel
theorem dX0_sumLines_101 : decode cX0_sumLines 101 = .ok (.iadd, 1) := by decide +kernel
theorem dX0_sumLines_102 : decode cX0_sumLines 102 = .ok (.istore_n 3, 1) := by decide +kernel
theorem dX0_sumLines_103 : decode cX0_sumLines 103 = .ok (.iinc 4 1, 3) := by decide +kernel
theorem dX0_sumLines_106 : decode cX0_sumLines 106 = .ok (.goto (-96), 3) := by decide +kernel
theorem dX0_sumLines_109 : decode cX0_sumLines 109 = .ok (.iload_n 3, 1) := by decide +kernel
theorem dX0_sumLines_110 : decode cX0_sumLines 110 = .ok (.ireturn, 1) := by decide +kernel
set_option maxRecDepth 20000 in
theorem ggX0_firstWith_X0_headsBelow : GoodIn wsX0_firstWith wsX0_headsBelow := goodIn_r _ [8, 1, 2, 3, 9, 10, 11, 12, 13, 14, 15, 16, 17] (by decide +kernel) (by decide +kernel)
set_option maxRecDepth 20000 in
theorem gX0_firstWith_X0_headsBelow : GoodIn wsX0_firstWith (wsV RX0 39 RX0 yX0_headsBelow wsX0_headsBelow) := goodIn_app (goodIn_of _ (by decide +kernel)) ggX0_firstWith_X0_headsBelow
theorem dX0_firstWith_0 : decode cX0_firstWith 0 = .ok (.aload_n 0, 1) := by decide +kernel
theorem dX0_firstWith_1 : decode cX0_firstWith 1 = .ok (.lload_n 1, 1) := by decide +kernel
theorem dX0_firstWith_2 : decode cX0_firstWith 2 = .ok (.invokevirtual 39, 3) := by decide +kernel
theorem dX0_firstWith_5 : decode cX0_firstWith 5 = .ok (.istore_n 3, 1) := by decide +kernel
theorem dX0_firstWith_6 : decode cX0_firstWith 6 = .ok (.iload_n 3, 1) := by decide +kernel
theorem dX0_firstWith_7 : decode cX0_firstWith 7 = .ok (.aload_n 0, 1) := by decide +kernel
theorem dX0_firstWith_8 : decode cX0_firstWith 8 = .ok (.getfield 43, 3) := by decide +kernel
theorem dX0_firstWith_11 : decode cX0_firstWith 11 = .ok (.if_icmp .ge 26, 3) := by decide +kernel
theorem dX0_firstWith_14 : decode cX0_firstWith 14 = .ok (.aload_n 0, 1) := by decide +kernel
theorem dX0_firstWith_15 : decode cX0_firstWith 15 = .ok (.getfield 9, 3) := by decide +kernel
theorem dX0_firstWith_18 : decode cX0_firstWith 18 = .ok (.aload_n 0, 1) := by decide +kernel
theorem dX0_firstWith_19 : decode cX0_firstWith 19 = .ok (.getfield 29, 3) := by decide +kernel
theorem dX0_firstWith_22 : decode cX0_firstWith 22 = .ok (.iload_n 3, 1) := by decide +kernel
theorem dX0_firstWith_23 : decode cX0_firstWith 23 = .ok (.iaload, 1) := by decide +kernel
theorem dX0_firstWith_24 : decode cX0_firstWith 24 = .ok (.laload, 1) := by decide +kernel
theorem dX0_firstWith_25 : decode cX0_firstWith 25 = .ok (.lload_n 1, 1) := by decide +kernel
theorem dX0_firstWith_26 : decode cX0_firstWith 26 = .ok (.lcmp, 1) := by decide +kernel
theorem dX0_firstWith_27 : decode cX0_firstWith 27 = .ok (.ifCond .ne 10, 3) := by decide +kernel
theorem dX0_firstWith_30 : decode cX0_firstWith 30 = .ok (.aload_n 0, 1) := by decide +kernel
theorem dX0_firstWith_31 : decode cX0_firstWith 31 = .ok (.getfield 29, 3) := by decide +kernel
theorem dX0_firstWith_34 : decode cX0_firstWith 34 = .ok (.iload_n 3, 1) := by decide +kernel
theorem dX0_firstWith_35 : decode cX0_firstWith 35 = .ok (.iaload, 1) := by decide +kernel
theorem dX0_firstWith_36 : decode cX0_firstWith 36 = .ok (.ireturn, 1) := by decide +kernel
theorem dX0_firstWith_37 : decode cX0_firstWith 37 = .ok (.iconst (-1), 1) := by decide +kernel
theorem dX0_firstWith_38 : decode cX0_firstWith 38 = .ok (.ireturn, 1) := by decide +kernel
theorem dX0_headsBelow_0 : decode cX0_headsBelow 0 = .ok (.iconst 0, 1) := by decide +kernel
theorem dX0_headsBelow_1 : decode cX0_headsBelow 1 = .ok (.istore_n 3, 1) := by decide +kernel
theorem dX0_headsBelow_2 : decode cX0_headsBelow 2 = .ok (.aload_n 0, 1) := by decide +kernel
theorem dX0_headsBelow_3 : decode cX0_headsBelow 3 = .ok (.getfield 43, 3) := by decide +kernel
theorem dX0_headsBelow_6 : decode cX0_headsBelow 6 = .ok (.istore 4, 2) := by decide +kernel
theorem dX0_headsBelow_8 : decode cX0_headsBelow 8 = .ok (.iconst 0, 1) := by decide +kernel
theorem dX0_headsBelow_9 : decode cX0_headsBelow 9 = .ok (.istore 5, 2) := by decide +kernel
theorem dX0_headsBelow_11 : decode cX0_headsBelow 11 = .ok (.iload 5, 2) := by decide +kernel
theorem dX0_headsBelow_13 : decode cX0_headsBelow 13 = .ok (.sipush 150, 3) := by decide +kernel
theorem dX0_headsBelow_16 : decode cX0_headsBelow 16 = .ok (.if_icmp .ge 52, 3) := by decide +kernel
theorem dX0_headsBelow_19 : decode cX0_headsBelow 19 = .ok (.iload_n 3, 1) := by decide +kernel
theorem dX0_headsBelow_20 : decode cX0_headsBelow 20 = .ok (.iload 4, 2) := by decide +kernel
theorem dX0_headsBelow_22 : decode cX0_headsBelow 22 = .ok (.if_icmp .ge 46, 3) := by decide +kernel
theorem dX0_headsBelow_25 : decode cX0_headsBelow 25 = .ok (.iload_n 3, 1) := by decide +kernel
theorem dX0_headsBelow_26 : decode cX0_headsBelow 26 = .ok (.iload 4, 2) := by decide +kernel
theorem dX0_headsBelow_28 : decode cX0_headsBelow 28 = .ok (.iadd, 1) := by decide +kernel
theorem dX0_headsBelow_29 : decode cX0_headsBelow 29 = .ok (.iconst 2, 1) := by decide +kernel
theorem dX0_headsBelow_30 : decode cX0_headsBelow 30 = .ok (.idiv, 1) := by decide +kernel
theorem dX0_headsBelow_31 : decode cX0_headsBelow 31 = .ok (.istore 6, 2) := by decide +kernel
theorem dX0_headsBelow_33 : decode cX0_headsBelow 33 = .ok (.aload_n 0, 1) := by decide +kernel
theorem dX0_headsBelow_34 : decode cX0_headsBelow 34 = .ok (.getfield 9, 3) := by decide +kernel
theorem dX0_headsBelow_37 : decode cX0_headsBelow 37 = .ok (.aload_n 0, 1) := by decide +kernel
theorem dX0_headsBelow_38 : decode cX0_headsBelow 38 = .ok (.getfield 29, 3) := by decide +kernel
theorem dX0_headsBelow_41 : decode cX0_headsBelow 41 = .ok (.iload 6, 2) := by decide +kernel
theorem dX0_headsBelow_43 : decode cX0_headsBelow 43 = .ok (.iaload, 1) := by decide +kernel
theorem dX0_headsBelow_44 : decode cX0_headsBelow 44 = .ok (.laload, 1) := by decide +kernel
theorem dX0_headsBelow_45 : decode cX0_headsBelow 45 = .ok (.lload_n 1, 1) := by decide +kernel
theorem dX0_headsBelow_46 : decode cX0_headsBelow 46 = .ok (.lcmp, 1) := by decide +kernel
theorem dX0_headsBelow_47 : decode cX0_headsBelow 47 = .ok (.ifCond .ge 11, 3) := by decide +kernel
theorem dX0_headsBelow_50 : decode cX0_headsBelow 50 = .ok (.iload 6, 2) := by decide +kernel
theorem dX0_headsBelow_52 : decode cX0_headsBelow 52 = .ok (.iconst 1, 1) := by decide +kernel
theorem dX0_headsBelow_53 : decode cX0_headsBelow 53 = .ok (.iadd, 1) := by decide +kernel
theorem dX0_headsBelow_54 : decode cX0_headsBelow 54 = .ok (.istore_n 3, 1) := by decide +kernel
theorem dX0_headsBelow_55 : decode cX0_headsBelow 55 = .ok (.goto 7, 3) := by decide +kernel
theorem dX0_headsBelow_58 : decode cX0_headsBelow 58 = .ok (.iload 6, 2) := by decide +kernel
theorem dX0_headsBelow_60 : decode cX0_headsBelow 60 = .ok (.istore 4, 2) := by decide +kernel
theorem dX0_headsBelow_62 : decode cX0_headsBelow 62 = .ok (.iinc 5 1, 3) := by decide +kernel
theorem dX0_headsBelow_65 : decode cX0_headsBelow 65 = .ok (.goto (-54), 3) := by decide +kernel
theorem dX0_headsBelow_68 : decode cX0_headsBelow 68 = .ok (.iload_n 3, 1) := by decide +kernel
theorem dX0_headsBelow_69 : decode cX0_headsBelow 69 = .ok (.ireturn, 1) := by decide +kernel
theorem dX1_init_0 : decode cX1_init 0 = .ok (.aload_n 0, 1) := by decide +kernel
theorem dX1_init_1 : decode cX1_init 1 = .ok (.invokespecial 3, 3) := by decide +kernel
theorem dX1_init_4 : decode cX1_init 4 = .ok (.aload_n 0, 1) := by decide +kernel
theorem dX1_init_5 : decode cX1_init 5 = .ok (.sipush 900, 3) := by decide +kernel
theorem dX1_init_8 : decode cX1_init 8 = .ok (.newarray .int, 2) := by decide +kernel
theorem dX1_init_10 : decode cX1_init 10 = .ok (.putfield 9, 3) := by decide +kernel
theorem dX1_init_13 : decode cX1_init 13 = .ok (.aload_n 0, 1) := by decide +kernel
theorem dX1_init_14 : decode cX1_init 14 = .ok (.sipush 901, 3) := by decide +kernel
theorem dX1_init_17 : decode cX1_init 17 = .ok (.newarray .int, 2) := by decide +kernel
theorem dX1_init_19 : decode cX1_init 19 = .ok (.putfield 15, 3) := by decide +kernel
theorem dX1_init_22 : decode cX1_init 22 = .ok (.aload_n 0, 1) := by decide +kernel
theorem dX1_init_23 : decode cX1_init 23 = .ok (.sipush 900, 3) := by decide +kernel
theorem dX1_init_26 : decode cX1_init 26 = .ok (.newarray .int, 2) := by decide +kernel
theorem dX1_init_28 : decode cX1_init 28 = .ok (.putfield 18, 3) := by decide +kernel
theorem dX1_init_31 : decode cX1_init 31 = .ok (.return_, 1) := by decide +kernel
theorem dX1_openEmpty_0 : decode cX1_openEmpty 0 = .ok (.aload_n 0, 1) := by decide +kernel
theorem dX1_openEmpty_1 : decode cX1_openEmpty 1 = .ok (.iload_n 1, 1) := by decide +kernel
theorem dX1_openEmpty_2 : decode cX1_openEmpty 2 = .ok (.putfield 21, 3) := by decide +kernel
theorem dX1_openEmpty_5 : decode cX1_openEmpty 5 = .ok (.aload_n 0, 1) := by decide +kernel
theorem dX1_openEmpty_6 : decode cX1_openEmpty 6 = .ok (.iconst 0, 1) := by decide +kernel
theorem dX1_openEmpty_7 : decode cX1_openEmpty 7 = .ok (.putfield 25, 3) := by decide +kernel
theorem dX1_openEmpty_10 : decode cX1_openEmpty 10 = .ok (.aload_n 0, 1) := by decide +kernel
theorem dX1_openEmpty_11 : decode cX1_openEmpty 11 = .ok (.iconst 0, 1) := by decide +kernel
theorem dX1_openEmpty_12 : decode cX1_openEmpty 12 = .ok (.putfield 28, 3) := by decide +kernel
theorem dX1_openEmpty_15 : decode cX1_openEmpty 15 = .ok (.aload_n 0, 1) := by decide +kernel
theorem dX1_openEmpty_16 : decode cX1_openEmpty 16 = .ok (.getfield 15, 3) := by decide +kernel
theorem dX1_openEmpty_19 : decode cX1_openEmpty 19 = .ok (.iconst 0, 1) := by decide +kernel
theorem dX1_openEmpty_20 : decode cX1_openEmpty 20 = .ok (.iconst 0, 1) := by decide +kernel
theorem dX1_openEmpty_21 : decode cX1_openEmpty 21 = .ok (.iastore, 1) := by decide +kernel
theorem dX1_openEmpty_22 : decode cX1_openEmpty 22 = .ok (.return_, 1) := by decide +kernel
theorem dX1_addColumn_0 : decode cX1_addColumn 0 = .ok (.aload_n 0, 1) := by decide +kernel
theorem dX1_addColumn_1 : decode cX1_addColumn 1 = .ok (.getfield 18, 3) := by decide +kernel
theorem dX1_addColumn_4 : decode cX1_addColumn 4 = .ok (.aload_n 0, 1) := by decide +kernel
theorem dX1_addColumn_5 : decode cX1_addColumn 5 = .ok (.getfield 25, 3) := by decide +kernel
theorem dX1_addColumn_8 : decode cX1_addColumn 8 = .ok (.iload_n 2, 1) := by decide +kernel
theorem dX1_addColumn_9 : decode cX1_addColumn 9 = .ok (.iastore, 1) := by decide +kernel
theorem dX1_addColumn_10 : decode cX1_addColumn 10 = .ok (.aload_n 0, 1) := by decide +kernel
theorem dX1_addColumn_11 : decode cX1_addColumn 11 = .ok (.dup, 1) := by decide +kernel
theorem dX1_addColumn_12 : decode cX1_addColumn 12 = .ok (.getfield 25, 3) := by decide +kernel
theorem dX1_addColumn_15 : decode cX1_addColumn 15 = .ok (.iconst 1, 1) := by decide +kernel
theorem dX1_addColumn_16 : decode cX1_addColumn 16 = .ok (.iadd, 1) := by decide +kernel
theorem dX1_addColumn_17 : decode cX1_addColumn 17 = .ok (.putfield 25, 3) := by decide +kernel
theorem dX1_addColumn_20 : decode cX1_addColumn 20 = .ok (.aload_n 0, 1) := by decide +kernel
theorem dX1_addColumn_21 : decode cX1_addColumn 21 = .ok (.getfield 15, 3) := by decide +kernel
theorem dX1_addColumn_24 : decode cX1_addColumn 24 = .ok (.aload_n 0, 1) := by decide +kernel
theorem dX1_addColumn_25 : decode cX1_addColumn 25 = .ok (.getfield 25, 3) := by decide +kernel
theorem dX1_addColumn_28 : decode cX1_addColumn 28 = .ok (.iload_n 1, 1) := by decide +kernel
theorem dX1_addColumn_29 : decode cX1_addColumn 29 = .ok (.iastore, 1) := by decide +kernel
theorem dX1_addColumn_30 : decode cX1_addColumn 30 = .ok (.iload_n 3, 1) := by decide +kernel
theorem dX1_addColumn_31 : decode cX1_addColumn 31 = .ok (.ifCond .eq 13, 3) := by decide +kernel
theorem dX1_addColumn_34 : decode cX1_addColumn 34 = .ok (.aload_n 0, 1) := by decide +kernel
theorem dX1_addColumn_35 : decode cX1_addColumn 35 = .ok (.dup, 1) := by decide +kernel
theorem dX1_addColumn_36 : decode cX1_addColumn 36 = .ok (.getfield 28, 3) := by decide +kernel
theorem dX1_addColumn_39 : decode cX1_addColumn 39 = .ok (.iconst 1, 1) := by decide +kernel
theorem dX1_addColumn_40 : decode cX1_addColumn 40 = .ok (.iadd, 1) := by decide +kernel
theorem dX1_addColumn_41 : decode cX1_addColumn 41 = .ok (.putfield 28, 3) := by decide +kernel
theorem dX1_addColumn_44 : decode cX1_addColumn 44 = .ok (.return_, 1) := by decide +kernel
theorem dX1_entryOf_0 : decode cX1_entryOf 0 = .ok (.aload_n 0, 1) := by decide +kernel
theorem dX1_entryOf_1 : decode cX1_entryOf 1 = .ok (.getfield 9, 3) := by decide +kernel
theorem dX1_entryOf_4 : decode cX1_entryOf 4 = .ok (.iload_n 1, 1) := by decide +kernel
theorem dX1_entryOf_5 : decode cX1_entryOf 5 = .ok (.iaload, 1) := by decide +kernel
theorem dX1_entryOf_6 : decode cX1_entryOf 6 = .ok (.bipush 6, 2) := by decide +kernel
theorem dX1_entryOf_8 : decode cX1_entryOf 8 = .ok (.idiv, 1) := by decide +kernel
theorem dX1_entryOf_9 : decode cX1_entryOf 9 = .ok (.ireturn, 1) := by decide +kernel
theorem dX1_senseOf_0 : decode cX1_senseOf 0 = .ok (.aload_n 0, 1) := by decide +kernel
theorem dX1_senseOf_1 : decode cX1_senseOf 1 = .ok (.getfield 9, 3) := by decide +kernel
theorem dX1_senseOf_4 : decode cX1_senseOf 4 = .ok (.iload_n 1, 1) := by decide +kernel
theorem dX1_senseOf_5 : decode cX1_senseOf 5 = .ok (.iaload, 1) := by decide +kernel
theorem dX1_senseOf_6 : decode cX1_senseOf 6 = .ok (.bipush 6, 2) := by decide +kernel
theorem dX1_senseOf_8 : decode cX1_senseOf 8 = .ok (.irem, 1) := by decide +kernel
theorem dX1_senseOf_9 : decode cX1_senseOf 9 = .ok (.ireturn, 1) := by decide +kernel
theorem dX1_columnWith_0 : decode cX1_columnWith 0 = .ok (.iconst 0, 1) := by decide +kernel
theorem dX1_columnWith_1 : decode cX1_columnWith 1 = .ok (.istore_n 2, 1) := by decide +kernel
theorem dX1_columnWith_2 : decode cX1_columnWith 2 = .ok (.iload_n 2, 1) := by decide +kernel
theorem dX1_columnWith_3 : decode cX1_columnWith 3 = .ok (.aload_n 0, 1) := by decide +kernel
theorem dX1_columnWith_4 : decode cX1_columnWith 4 = .ok (.getfield 25, 3) := by decide +kernel
theorem dX1_columnWith_7 : decode cX1_columnWith 7 = .ok (.if_icmp .ge 46, 3) := by decide +kernel
theorem dX1_columnWith_10 : decode cX1_columnWith 10 = .ok (.aload_n 0, 1) := by decide +kernel
theorem dX1_columnWith_11 : decode cX1_columnWith 11 = .ok (.getfield 15, 3) := by decide +kernel
theorem dX1_columnWith_14 : decode cX1_columnWith 14 = .ok (.iload_n 2, 1) := by decide +kernel
theorem dX1_columnWith_15 : decode cX1_columnWith 15 = .ok (.iaload, 1) := by decide +kernel
theorem dX1_columnWith_16 : decode cX1_columnWith 16 = .ok (.istore_n 3, 1) := by decide +kernel
theorem dX1_columnWith_17 : decode cX1_columnWith 17 = .ok (.iload_n 3, 1) := by decide +kernel
theorem dX1_columnWith_18 : decode cX1_columnWith 18 = .ok (.aload_n 0, 1) := by decide +kernel
theorem dX1_columnWith_19 : decode cX1_columnWith 19 = .ok (.getfield 15, 3) := by decide +kernel
theorem dX1_columnWith_22 : decode cX1_columnWith 22 = .ok (.iload_n 2, 1) := by decide +kernel
theorem dX1_columnWith_23 : decode cX1_columnWith 23 = .ok (.iconst 1, 1) := by decide +kernel
theorem dX1_columnWith_24 : decode cX1_columnWith 24 = .ok (.iadd, 1) := by decide +kernel
theorem dX1_columnWith_25 : decode cX1_columnWith 25 = .ok (.iaload, 1) := by decide +kernel
theorem dX1_columnWith_26 : decode cX1_columnWith 26 = .ok (.if_icmp .ge 21, 3) := by decide +kernel
theorem dX1_columnWith_29 : decode cX1_columnWith 29 = .ok (.aload_n 0, 1) := by decide +kernel
theorem dX1_columnWith_30 : decode cX1_columnWith 30 = .ok (.getfield 9, 3) := by decide +kernel
theorem dX1_columnWith_33 : decode cX1_columnWith 33 = .ok (.iload_n 3, 1) := by decide +kernel
theorem dX1_columnWith_34 : decode cX1_columnWith 34 = .ok (.iaload, 1) := by decide +kernel
theorem dX1_columnWith_35 : decode cX1_columnWith 35 = .ok (.iload_n 1, 1) := by decide +kernel
theorem dX1_columnWith_36 : decode cX1_columnWith 36 = .ok (.if_icmp .ne 5, 3) := by decide +kernel
theorem dX1_columnWith_39 : decode cX1_columnWith 39 = .ok (.iload_n 2, 1) := by decide +kernel
theorem dX1_columnWith_40 : decode cX1_columnWith 40 = .ok (.ireturn, 1) := by decide +kernel
theorem dX1_columnWith_41 : decode cX1_columnWith 41 = .ok (.iinc 3 1, 3) := by decide +kernel
theorem dX1_columnWith_44 : decode cX1_columnWith 44 = .ok (.goto (-27), 3) := by decide +kernel
theorem dX1_columnWith_47 : decode cX1_columnWith 47 = .ok (.iinc 2 1, 3) := by decide +kernel
theorem dX1_columnWith_50 : decode cX1_columnWith 50 = .ok (.goto (-48), 3) := by decide +kernel
theorem dX1_columnWith_53 : decode cX1_columnWith 53 = .ok (.iconst (-1), 1) := by decide +kernel
theorem dX1_columnWith_54 : decode cX1_columnWith 54 = .ok (.ireturn, 1) := by decide +kernel
set_option maxRecDepth 20000 in
theorem ggX1_firstGuide_X1_firstColumn : GoodIn wsX1_firstGuide wsX1_firstColumn := goodIn_r _ [6, 7, 8, 9, 10, 11, 12, 26, 27, 28, 29, 30, 31, 32, 33] (by decide +kernel) (by decide +kernel)
set_option maxRecDepth 20000 in
theorem gX1_firstGuide_X1_firstColumn : GoodIn wsX1_firstGuide (wsV RX1 31 RX1 yX1_firstColumn wsX1_firstColumn) := goodIn_app (goodIn_of _ (by decide +kernel)) ggX1_firstGuide_X1_firstColumn
set_option maxRecDepth 20000 in
theorem ggX1_firstGuide_X1_endColumn : GoodIn wsX1_firstGuide wsX1_endColumn := goodIn_r _ [16, 7, 8, 9, 10, 11, 12, 26, 27, 28, 29, 30, 31, 32, 33] (by decide +kernel) (by decide +kernel)
set_option maxRecDepth 20000 in
theorem gX1_firstGuide_X1_endColumn : GoodIn wsX1_firstGuide (wsV RX1 35 RX1 yX1_endColumn wsX1_endColumn) := goodIn_app (goodIn_of _ (by decide +kernel)) ggX1_firstGuide_X1_endColumn
set_option maxRecDepth 20000 in
theorem ggX1_firstGuide_X1_senseOf : GoodIn wsX1_firstGuide wsX1_senseOf := goodIn_r _ [20, 21, 26, 27, 28, 29, 30, 31, 32, 33] (by decide +kernel) (by decide +kernel)
set_option maxRecDepth 20000 in
theorem gX1_firstGuide_X1_senseOf : GoodIn wsX1_firstGuide (wsV RX1 38 RX1 yX1_senseOf wsX1_senseOf) := goodIn_app (goodIn_of _ (by decide +kernel)) ggX1_firstGuide_X1_senseOf
set_option maxRecDepth 20000 in
theorem ggX1_firstGuide_X1_entryOf : GoodIn wsX1_firstGuide wsX1_entryOf := goodIn_r _ [25, 21, 26, 27, 28, 29, 30, 31, 32, 33] (by decide +kernel) (by decide +kernel)
set_option maxRecDepth 20000 in
theorem gX1_firstGuide_X1_entryOf : GoodIn wsX1_firstGuide (wsV RX1 41 RX1 yX1_entryOf wsX1_entryOf) := goodIn_app (goodIn_of _ (by decide +kernel)) ggX1_firstGuide_X1_entryOf
theorem dX1_firstGuide_0 : decode cX1_firstGuide 0 = .ok (.aload_n 0, 1) := by decide +kernel
theorem dX1_firstGuide_1 : decode cX1_firstGuide 1 = .ok (.getfield 15, 3) := by decide +kernel
theorem dX1_firstGuide_4 : decode cX1_firstGuide 4 = .ok (.aload_n 0, 1) := by decide +kernel
theorem dX1_firstGuide_5 : decode cX1_firstGuide 5 = .ok (.iload_n 1, 1) := by decide +kernel
theorem dX1_firstGuide_6 : decode cX1_firstGuide 6 = .ok (.invokevirtual 31, 3) := by decide +kernel
theorem dX1_firstGuide_9 : decode cX1_firstGuide 9 = .ok (.iaload, 1) := by decide +kernel
theorem dX1_firstGuide_10 : decode cX1_firstGuide 10 = .ok (.istore_n 2, 1) := by decide +kernel
theorem dX1_firstGuide_11 : decode cX1_firstGuide 11 = .ok (.aload_n 0, 1) := by decide +kernel
theorem dX1_firstGuide_12 : decode cX1_firstGuide 12 = .ok (.getfield 15, 3) := by decide +kernel
theorem dX1_firstGuide_15 : decode cX1_firstGuide 15 = .ok (.aload_n 0, 1) := by decide +kernel
theorem dX1_firstGuide_16 : decode cX1_firstGuide 16 = .ok (.iload_n 1, 1) := by decide +kernel
theorem dX1_firstGuide_17 : decode cX1_firstGuide 17 = .ok (.invokevirtual 35, 3) := by decide +kernel
theorem dX1_firstGuide_20 : decode cX1_firstGuide 20 = .ok (.iaload, 1) := by decide +kernel
theorem dX1_firstGuide_21 : decode cX1_firstGuide 21 = .ok (.istore_n 3, 1) := by decide +kernel
theorem dX1_firstGuide_22 : decode cX1_firstGuide 22 = .ok (.iload_n 2, 1) := by decide +kernel
theorem dX1_firstGuide_23 : decode cX1_firstGuide 23 = .ok (.istore 4, 2) := by decide +kernel
theorem dX1_firstGuide_25 : decode cX1_firstGuide 25 = .ok (.iload 4, 2) := by decide +kernel
theorem dX1_firstGuide_27 : decode cX1_firstGuide 27 = .ok (.iload_n 3, 1) := by decide +kernel
theorem dX1_firstGuide_28 : decode cX1_firstGuide 28 = .ok (.if_icmp .ge 25, 3) := by decide +kernel
theorem dX1_firstGuide_31 : decode cX1_firstGuide 31 = .ok (.aload_n 0, 1) := by decide +kernel
theorem dX1_firstGuide_32 : decode cX1_firstGuide 32 = .ok (.iload 4, 2) := by decide +kernel
theorem dX1_firstGuide_34 : decode cX1_firstGuide 34 = .ok (.invokevirtual 38, 3) := by decide +kernel
theorem dX1_firstGuide_37 : decode cX1_firstGuide 37 = .ok (.ifCond .ne 10, 3) := by decide +kernel
theorem dX1_firstGuide_40 : decode cX1_firstGuide 40 = .ok (.aload_n 0, 1) := by decide +kernel
theorem dX1_firstGuide_41 : decode cX1_firstGuide 41 = .ok (.iload 4, 2) := by decide +kernel
theorem dX1_firstGuide_43 : decode cX1_firstGuide 43 = .ok (.invokevirtual 41, 3) := by decide +kernel
theorem dX1_firstGuide_46 : decode cX1_firstGuide 46 = .ok (.ireturn, 1) := by decide +kernel
theorem dX1_firstGuide_47 : decode cX1_firstGuide 47 = .ok (.iinc 4 1, 3) := by decide +kernel
theorem dX1_firstGuide_50 : decode cX1_firstGuide 50 = .ok (.goto (-25), 3) := by decide +kernel
theorem dX1_firstGuide_53 : decode cX1_firstGuide 53 = .ok (.aload_n 0, 1) := by decide +kernel
theorem dX1_firstGuide_54 : decode cX1_firstGuide 54 = .ok (.iload_n 2, 1) := by decide +kernel
theorem dX1_firstGuide_55 : decode cX1_firstGuide 55 = .ok (.invokevirtual 41, 3) := by decide +kernel
theorem dX1_firstGuide_58 : decode cX1_firstGuide 58 = .ok (.ireturn, 1) := by decide +kernel
set_option maxRecDepth 20000 in
theorem ggX1_lastGuide_X1_firstColumn : GoodIn wsX1_lastGuide wsX1_firstColumn := goodIn_r _ [6, 7, 8, 9, 10, 11, 12, 26, 27, 28, 29, 30, 31, 32, 33] (by decide +kernel) (by decide +kernel)
set_option maxRecDepth 20000 in
theorem gX1_lastGuide_X1_firstColumn : GoodIn wsX1_lastGuide (wsV RX1 31 RX1 yX1_firstColumn wsX1_firstColumn) := goodIn_app (goodIn_of _ (by decide +kernel)) ggX1_lastGuide_X1_firstColumn
set_option maxRecDepth 20000 in
theorem ggX1_lastGuide_X1_endColumn : GoodIn wsX1_lastGuide wsX1_endColumn := goodIn_r _ [16, 7, 8, 9, 10, 11, 12, 26, 27, 28, 29, 30, 31, 32, 33] (by decide +kernel) (by decide +kernel)
set_option maxRecDepth 20000 in
theorem gX1_lastGuide_X1_endColumn : GoodIn wsX1_lastGuide (wsV RX1 35 RX1 yX1_endColumn wsX1_endColumn) := goodIn_app (goodIn_of _ (by decide +kernel)) ggX1_lastGuide_X1_endColumn
set_option maxRecDepth 20000 in
theorem ggX1_lastGuide_X1_senseOf : GoodIn wsX1_lastGuide wsX1_senseOf := goodIn_r _ [20, 21, 26, 27, 28, 29, 30, 31, 32, 33] (by decide +kernel) (by decide +kernel)
set_option maxRecDepth 20000 in
theorem gX1_lastGuide_X1_senseOf : GoodIn wsX1_lastGuide (wsV RX1 38 RX1 yX1_senseOf wsX1_senseOf) := goodIn_app (goodIn_of _ (by decide +kernel)) ggX1_lastGuide_X1_senseOf
set_option maxRecDepth 20000 in
theorem ggX1_lastGuide_X1_entryOf : GoodIn wsX1_lastGuide wsX1_entryOf := goodIn_r _ [25, 21, 26, 27, 28, 29, 30, 31, 32, 33] (by decide +kernel) (by decide +kernel)
set_option maxRecDepth 20000 in
theorem gX1_lastGuide_X1_entryOf : GoodIn wsX1_lastGuide (wsV RX1 41 RX1 yX1_entryOf wsX1_entryOf) := goodIn_app (goodIn_of _ (by decide +kernel)) ggX1_lastGuide_X1_entryOf
theorem dX1_lastGuide_0 : decode cX1_lastGuide 0 = .ok (.aload_n 0, 1) := by decide +kernel
theorem dX1_lastGuide_1 : decode cX1_lastGuide 1 = .ok (.getfield 15, 3) := by decide +kernel
theorem dX1_lastGuide_4 : decode cX1_lastGuide 4 = .ok (.aload_n 0, 1) := by decide +kernel
theorem dX1_lastGuide_5 : decode cX1_lastGuide 5 = .ok (.iload_n 1, 1) := by decide +kernel
theorem dX1_lastGuide_6 : decode cX1_lastGuide 6 = .ok (.invokevirtual 31, 3) := by decide +kernel
theorem dX1_lastGuide_9 : decode cX1_lastGuide 9 = .ok (.iaload, 1) := by decide +kernel
theorem dX1_lastGuide_10 : decode cX1_lastGuide 10 = .ok (.istore_n 2, 1) := by decide +kernel
theorem dX1_lastGuide_11 : decode cX1_lastGuide 11 = .ok (.aload_n 0, 1) := by decide +kernel
theorem dX1_lastGuide_12 : decode cX1_lastGuide 12 = .ok (.getfield 15, 3) := by decide +kernel
theorem dX1_lastGuide_15 : decode cX1_lastGuide 15 = .ok (.aload_n 0, 1) := by decide +kernel
theorem dX1_lastGuide_16 : decode cX1_lastGuide 16 = .ok (.iload_n 1, 1) := by decide +kernel
theorem dX1_lastGuide_17 : decode cX1_lastGuide 17 = .ok (.invokevirtual 35, 3) := by decide +kernel
theorem dX1_lastGuide_20 : decode cX1_lastGuide 20 = .ok (.iaload, 1) := by decide +kernel
theorem dX1_lastGuide_21 : decode cX1_lastGuide 21 = .ok (.iconst 1, 1) := by decide +kernel
theorem dX1_lastGuide_22 : decode cX1_lastGuide 22 = .ok (.isub, 1) := by decide +kernel
theorem dX1_lastGuide_23 : decode cX1_lastGuide 23 = .ok (.istore_n 3, 1) := by decide +kernel
theorem dX1_lastGuide_24 : decode cX1_lastGuide 24 = .ok (.iload_n 3, 1) := by decide +kernel
theorem dX1_lastGuide_25 : decode cX1_lastGuide 25 = .ok (.iload_n 2, 1) := by decide +kernel
theorem dX1_lastGuide_26 : decode cX1_lastGuide 26 = .ok (.if_icmp .lt 23, 3) := by decide +kernel
theorem dX1_lastGuide_29 : decode cX1_lastGuide 29 = .ok (.aload_n 0, 1) := by decide +kernel
theorem dX1_lastGuide_30 : decode cX1_lastGuide 30 = .ok (.iload_n 3, 1) := by decide +kernel
theorem dX1_lastGuide_31 : decode cX1_lastGuide 31 = .ok (.invokevirtual 38, 3) := by decide +kernel
theorem dX1_lastGuide_34 : decode cX1_lastGuide 34 = .ok (.ifCond .ne 9, 3) := by decide +kernel
theorem dX1_lastGuide_37 : decode cX1_lastGuide 37 = .ok (.aload_n 0, 1) := by decide +kernel
theorem dX1_lastGuide_38 : decode cX1_lastGuide 38 = .ok (.iload_n 3, 1) := by decide +kernel
theorem dX1_lastGuide_39 : decode cX1_lastGuide 39 = .ok (.invokevirtual 41, 3) := by decide +kernel
theorem dX1_lastGuide_42 : decode cX1_lastGuide 42 = .ok (.ireturn, 1) := by decide +kernel
theorem dX1_lastGuide_43 : decode cX1_lastGuide 43 = .ok (.iinc 3 (-1), 3) := by decide +kernel
theorem dX1_lastGuide_46 : decode cX1_lastGuide 46 = .ok (.goto (-22), 3) := by decide +kernel
theorem dX1_lastGuide_49 : decode cX1_lastGuide 49 = .ok (.aload_n 0, 1) := by decide +kernel
theorem dX1_lastGuide_50 : decode cX1_lastGuide 50 = .ok (.iload_n 2, 1) := by decide +kernel
theorem dX1_lastGuide_51 : decode cX1_lastGuide 51 = .ok (.invokevirtual 41, 3) := by decide +kernel
theorem dX1_lastGuide_54 : decode cX1_lastGuide 54 = .ok (.ireturn, 1) := by decide +kernel
set_option maxRecDepth 20000 in
theorem ggX1_pagesUnlike_X1_likePage : GoodIn wsX1_pagesUnlike wsX1_likePage := goodIn_r _ [10, 11, 12, 13, 9, 14, 15, 16, 17, 18, 4, 19, 20, 21, 22, 23, 24, 25, 26, 27, 28, 29, 30, 31, 32, 33, 34, 35, 36, 37] (by decide +kernel) (by decide +kernel)
set_option maxRecDepth 20000 in
theorem gX1_pagesUnlike_X1_likePage : GoodIn wsX1_pagesUnlike (wsV RX1 50 RX1 yX1_likePage wsX1_likePage) := goodIn_app (goodIn_of _ (by decide +kernel)) ggX1_pagesUnlike_X1_likePage
theorem dX1_pagesUnlike_0 : decode cX1_pagesUnlike 0 = .ok (.aload_n 0, 1) := by decide +kernel
theorem dX1_pagesUnlike_1 : decode cX1_pagesUnlike 1 = .ok (.getfield 28, 3) := by decide +kernel
theorem dX1_pagesUnlike_4 : decode cX1_pagesUnlike 4 = .ok (.aload_n 1, 1) := by decide +kernel
theorem dX1_pagesUnlike_5 : decode cX1_pagesUnlike 5 = .ok (.getfield 28, 3) := by decide +kernel
theorem dX1_pagesUnlike_8 : decode cX1_pagesUnlike 8 = .ok (.invokestatic 44, 3) := by decide +kernel
theorem dX1_pagesUnlike_11 : decode cX1_pagesUnlike 11 = .ok (.istore_n 2, 1) := by decide +kernel
theorem dX1_pagesUnlike_12 : decode cX1_pagesUnlike 12 = .ok (.iconst 0, 1) := by decide +kernel
theorem dX1_pagesUnlike_13 : decode cX1_pagesUnlike 13 = .ok (.istore_n 3, 1) := by decide +kernel
theorem dX1_pagesUnlike_14 : decode cX1_pagesUnlike 14 = .ok (.iconst 0, 1) := by decide +kernel
theorem dX1_pagesUnlike_15 : decode cX1_pagesUnlike 15 = .ok (.istore 4, 2) := by decide +kernel
theorem dX1_pagesUnlike_17 : decode cX1_pagesUnlike 17 = .ok (.iload 4, 2) := by decide +kernel
theorem dX1_pagesUnlike_19 : decode cX1_pagesUnlike 19 = .ok (.iload_n 2, 1) := by decide +kernel
theorem dX1_pagesUnlike_20 : decode cX1_pagesUnlike 20 = .ok (.if_icmp .ge 40, 3) := by decide +kernel
theorem dX1_pagesUnlike_23 : decode cX1_pagesUnlike 23 = .ok (.iload 4, 2) := by decide +kernel
theorem dX1_pagesUnlike_25 : decode cX1_pagesUnlike 25 = .ok (.aload_n 0, 1) := by decide +kernel
theorem dX1_pagesUnlike_26 : decode cX1_pagesUnlike 26 = .ok (.getfield 28, 3) := by decide +kernel
theorem dX1_pagesUnlike_29 : decode cX1_pagesUnlike 29 = .ok (.if_icmp .ge 22, 3) := by decide +kernel
theorem dX1_pagesUnlike_32 : decode cX1_pagesUnlike 32 = .ok (.iload 4, 2) := by decide +kernel
theorem dX1_pagesUnlike_34 : decode cX1_pagesUnlike 34 = .ok (.aload_n 1, 1) := by decide +kernel
theorem dX1_pagesUnlike_35 : decode cX1_pagesUnlike 35 = .ok (.getfield 28, 3) := by decide +kernel
theorem dX1_pagesUnlike_38 : decode cX1_pagesUnlike 38 = .ok (.if_icmp .ge 13, 3) := by decide +kernel
theorem dX1_pagesUnlike_41 : decode cX1_pagesUnlike 41 = .ok (.aload_n 0, 1) := by decide +kernel
theorem dX1_pagesUnlike_42 : decode cX1_pagesUnlike 42 = .ok (.aload_n 1, 1) := by decide +kernel
theorem dX1_pagesUnlike_43 : decode cX1_pagesUnlike 43 = .ok (.iload 4, 2) := by decide +kernel
theorem dX1_pagesUnlike_45 : decode cX1_pagesUnlike 45 = .ok (.invokevirtual 50, 3) := by decide +kernel
theorem dX1_pagesUnlike_48 : decode cX1_pagesUnlike 48 = .ok (.ifCond .ne 6, 3) := by decide +kernel
theorem dX1_pagesUnlike_51 : decode cX1_pagesUnlike 51 = .ok (.iinc 3 1, 3) := by decide +kernel
theorem dX1_pagesUnlike_54 : decode cX1_pagesUnlike 54 = .ok (.iinc 4 1, 3) := by decide +kernel
theorem dX1_pagesUnlike_57 : decode cX1_pagesUnlike 57 = .ok (.goto (-40), 3) := by decide +kernel
theorem dX1_pagesUnlike_60 : decode cX1_pagesUnlike 60 = .ok (.iload_n 3, 1) := by decide +kernel
theorem dX1_pagesUnlike_61 : decode cX1_pagesUnlike 61 = .ok (.ireturn, 1) := by decide +kernel
set_option maxRecDepth 20000 in
theorem ggX1_likePage_X1_firstColumn : GoodIn wsX1_likePage wsX1_firstColumn := goodIn_r _ [5, 6, 7, 8, 9, 10, 11, 22, 23, 24, 25, 26, 27, 28, 29] (by decide +kernel) (by decide +kernel)
set_option maxRecDepth 20000 in
theorem gX1_likePage_X1_firstColumn : GoodIn wsX1_likePage (wsV RX1 31 RX1 yX1_firstColumn wsX1_firstColumn) := goodIn_app (goodIn_of _ (by decide +kernel)) ggX1_likePage_X1_firstColumn
set_option maxRecDepth 20000 in
theorem ggX1_likePage_X1_endColumn : GoodIn wsX1_likePage wsX1_endColumn := goodIn_r _ [15, 6, 7, 8, 9, 10, 11, 22, 23, 24, 25, 26, 27, 28, 29] (by decide +kernel) (by decide +kernel)
set_option maxRecDepth 20000 in
theorem gX1_likePage_X1_endColumn : GoodIn wsX1_likePage (wsV RX1 35 RX1 yX1_endColumn wsX1_endColumn) := goodIn_app (goodIn_of _ (by decide +kernel)) ggX1_likePage_X1_endColumn
set_option maxRecDepth 20000 in
theorem ggX1_likePage_X1_likeColumn : GoodIn wsX1_likePage wsX1_likeColumn := goodIn_r _ [19, 20, 21, 22, 23, 24, 25, 26, 27, 28, 29] (by decide +kernel) (by decide +kernel)
set_option maxRecDepth 20000 in
theorem gX1_likePage_X1_likeColumn : GoodIn wsX1_likePage (wsV RX1 54 RX1 yX1_likeColumn wsX1_likeColumn) := goodIn_app (goodIn_of _ (by decide +kernel)) ggX1_likePage_X1_likeColumn
theorem dX1_likePage_0 : decode cX1_likePage 0 = .ok (.aload_n 0, 1) := by decide +kernel
theorem dX1_likePage_1 : decode cX1_likePage 1 = .ok (.iload_n 2, 1) := by decide +kernel
theorem dX1_likePage_2 : decode cX1_likePage 2 = .ok (.invokevirtual 31, 3) := by decide +kernel
theorem dX1_likePage_5 : decode cX1_likePage 5 = .ok (.istore_n 3, 1) := by decide +kernel
theorem dX1_likePage_6 : decode cX1_likePage 6 = .ok (.aload_n 1, 1) := by decide +kernel
theorem dX1_likePage_7 : decode cX1_likePage 7 = .ok (.iload_n 2, 1) := by decide +kernel
theorem dX1_likePage_8 : decode cX1_likePage 8 = .ok (.invokevirtual 31, 3) := by decide +kernel
theorem dX1_likePage_11 : decode cX1_likePage 11 = .ok (.istore 4, 2) := by decide +kernel
theorem dX1_likePage_13 : decode cX1_likePage 13 = .ok (.aload_n 0, 1) := by decide +kernel
theorem dX1_likePage_14 : decode cX1_likePage 14 = .ok (.iload_n 2, 1) := by decide +kernel
theorem dX1_likePage_15 : decode cX1_likePage 15 = .ok (.invokevirtual 35, 3) := by decide +kernel
theorem dX1_likePage_18 : decode cX1_likePage 18 = .ok (.iload_n 3, 1) := by decide +kernel
theorem dX1_likePage_19 : decode cX1_likePage 19 = .ok (.isub, 1) := by decide +kernel
theorem dX1_likePage_20 : decode cX1_likePage 20 = .ok (.istore 5, 2) := by decide +kernel
theorem dX1_likePage_22 : decode cX1_likePage 22 = .ok (.iload 5, 2) := by decide +kernel
theorem dX1_likePage_24 : decode cX1_likePage 24 = .ok (.aload_n 1, 1) := by decide +kernel
theorem dX1_likePage_25 : decode cX1_likePage 25 = .ok (.iload_n 2, 1) := by decide +kernel
theorem dX1_likePage_26 : decode cX1_likePage 26 = .ok (.invokevirtual 35, 3) := by decide +kernel
theorem dX1_likePage_29 : decode cX1_likePage 29 = .ok (.iload 4, 2) := by decide +kernel
theorem dX1_likePage_31 : decode cX1_likePage 31 = .ok (.isub, 1) := by decide +kernel
theorem dX1_likePage_32 : decode cX1_likePage 32 = .ok (.if_icmp .eq 5, 3) := by decide +kernel
theorem dX1_likePage_35 : decode cX1_likePage 35 = .ok (.iconst 0, 1) := by decide +kernel
theorem dX1_likePage_36 : decode cX1_likePage 36 = .ok (.ireturn, 1) := by decide +kernel
theorem dX1_likePage_37 : decode cX1_likePage 37 = .ok (.iconst 0, 1) := by decide +kernel
theorem dX1_likePage_38 : decode cX1_likePage 38 = .ok (.istore 6, 2) := by decide +kernel
theorem dX1_likePage_40 : decode cX1_likePage 40 = .ok (.iload 6, 2) := by decide +kernel
theorem dX1_likePage_42 : decode cX1_likePage 42 = .ok (.iload 5, 2) := by decide +kernel
theorem dX1_likePage_44 : decode cX1_likePage 44 = .ok (.if_icmp .ge 28, 3) := by decide +kernel
theorem dX1_likePage_47 : decode cX1_likePage 47 = .ok (.aload_n 0, 1) := by decide +kernel
theorem dX1_likePage_48 : decode cX1_likePage 48 = .ok (.iload_n 3, 1) := by decide +kernel
theorem dX1_likePage_49 : decode cX1_likePage 49 = .ok (.iload 6, 2) := by decide +kernel
theorem dX1_likePage_51 : decode cX1_likePage 51 = .ok (.iadd, 1) := by decide +kernel
theorem dX1_likePage_52 : decode cX1_likePage 52 = .ok (.aload_n 1, 1) := by decide +kernel
theorem dX1_likePage_53 : decode cX1_likePage 53 = .ok (.iload 4, 2) := by decide +kernel
theorem dX1_likePage_55 : decode cX1_likePage 55 = .ok (.iload 6, 2) := by decide +kernel
theorem dX1_likePage_57 : decode cX1_likePage 57 = .ok (.iadd, 1) := by decide +kernel
theorem dX1_likePage_58 : decode cX1_likePage 58 = .ok (.invokevirtual 54, 3) := by decide +kernel
theorem dX1_likePage_61 : decode cX1_likePage 61 = .ok (.ifCond .ne 5, 3) := by decide +kernel
theorem dX1_likePage_64 : decode cX1_likePage 64 = .ok (.iconst 0, 1) := by decide +kernel
theorem dX1_likePage_65 : decode cX1_likePage 65 = .ok (.ireturn, 1) := by decide +kernel
theorem dX1_likePage_66 : decode cX1_likePage 66 = .ok (.iinc 6 1, 3) := by decide +kernel
theorem dX1_likePage_69 : decode cX1_likePage 69 = .ok (.goto (-29), 3) := by decide +kernel
theorem dX1_likePage_72 : decode cX1_likePage 72 = .ok (.iconst 1, 1) := by decide +kernel
theorem dX1_likePage_73 : decode cX1_likePage 73 = .ok (.ireturn, 1) := by decide +kernel
theorem dX1_likeColumn_0 : decode cX1_likeColumn 0 = .ok (.aload_n 0, 1) := by decide +kernel
theorem dX1_likeColumn_1 : decode cX1_likeColumn 1 = .ok (.getfield 15, 3) := by decide +kernel
theorem dX1_likeColumn_4 : decode cX1_likeColumn 4 = .ok (.iload_n 1, 1) := by decide +kernel
theorem dX1_likeColumn_5 : decode cX1_likeColumn 5 = .ok (.iaload, 1) := by decide +kernel
theorem dX1_likeColumn_6 : decode cX1_likeColumn 6 = .ok (.istore 4, 2) := by decide +kernel
theorem dX1_likeColumn_8 : decode cX1_likeColumn 8 = .ok (.aload_n 2, 1) := by decide +kernel
theorem dX1_likeColumn_9 : decode cX1_likeColumn 9 = .ok (.getfield 15, 3) := by decide +kernel
theorem dX1_likeColumn_12 : decode cX1_likeColumn 12 = .ok (.iload_n 3, 1) := by decide +kernel
theorem dX1_likeColumn_13 : decode cX1_likeColumn 13 = .ok (.iaload, 1) := by decide +kernel
theorem dX1_likeColumn_14 : decode cX1_likeColumn 14 = .ok (.istore 5, 2) := by decide +kernel
theorem dX1_likeColumn_16 : decode cX1_likeColumn 16 = .ok (.aload_n 0, 1) := by decide +kernel
theorem dX1_likeColumn_17 : decode cX1_likeColumn 17 = .ok (.getfield 15, 3) := by decide +kernel
theorem dX1_likeColumn_20 : decode cX1_likeColumn 20 = .ok (.iload_n 1, 1) := by decide +kernel
theorem dX1_likeColumn_21 : decode cX1_likeColumn 21 = .ok (.iconst 1, 1) := by decide +kernel
theorem dX1_likeColumn_22 : decode cX1_likeColumn 22 = .ok (.iadd, 1) := by decide +kernel
theorem dX1_likeColumn_23 : decode cX1_likeColumn 23 = .ok (.iaload, 1) := by decide +kernel
theorem dX1_likeColumn_24 : decode cX1_likeColumn 24 = .ok (.iload 4, 2) := by decide +kernel
theorem dX1_likeColumn_26 : decode cX1_likeColumn 26 = .ok (.isub, 1) := by decide +kernel
theorem dX1_likeColumn_27 : decode cX1_likeColumn 27 = .ok (.istore 6, 2) := by decide +kernel
theorem dX1_likeColumn_29 : decode cX1_likeColumn 29 = .ok (.iload 6, 2) := by decide +kernel
theorem dX1_likeColumn_31 : decode cX1_likeColumn 31 = .ok (.aload_n 2, 1) := by decide +kernel
theorem dX1_likeColumn_32 : decode cX1_likeColumn 32 = .ok (.getfield 15, 3) := by decide +kernel
theorem dX1_likeColumn_35 : decode cX1_likeColumn 35 = .ok (.iload_n 3, 1) := by decide +kernel
theorem dX1_likeColumn_36 : decode cX1_likeColumn 36 = .ok (.iconst 1, 1) := by decide +kernel
theorem dX1_likeColumn_37 : decode cX1_likeColumn 37 = .ok (.iadd, 1) := by decide +kernel
theorem dX1_likeColumn_38 : decode cX1_likeColumn 38 = .ok (.iaload, 1) := by decide +kernel
theorem dX1_likeColumn_39 : decode cX1_likeColumn 39 = .ok (.iload 5, 2) := by decide +kernel
theorem dX1_likeColumn_41 : decode cX1_likeColumn 41 = .ok (.isub, 1) := by decide +kernel
theorem dX1_likeColumn_42 : decode cX1_likeColumn 42 = .ok (.if_icmp .eq 5, 3) := by decide +kernel
theorem dX1_likeColumn_45 : decode cX1_likeColumn 45 = .ok (.iconst 0, 1) := by decide +kernel
theorem dX1_likeColumn_46 : decode cX1_likeColumn 46 = .ok (.ireturn, 1) := by decide +kernel
theorem dX1_likeColumn_47 : decode cX1_likeColumn 47 = .ok (.iconst 0, 1) := by decide +kernel
theorem dX1_likeColumn_48 : decode cX1_likeColumn 48 = .ok (.istore 7, 2) := by decide +kernel
theorem dX1_likeColumn_50 : decode cX1_likeColumn 50 = .ok (.iload 7, 2) := by decide +kernel
theorem dX1_likeColumn_52 : decode cX1_likeColumn 52 = .ok (.iload 6, 2) := by decide +kernel
theorem dX1_likeColumn_54 : decode cX1_likeColumn 54 = .ok (.if_icmp .ge 34, 3) := by decide +kernel
theorem dX1_likeColumn_57 : decode cX1_likeColumn 57 = .ok (.aload_n 0, 1) := by decide +kernel
theorem dX1_likeColumn_58 : decode cX1_likeColumn 58 = .ok (.getfield 9, 3) := by decide +kernel
theorem dX1_likeColumn_61 : decode cX1_likeColumn 61 = .ok (.iload 4, 2) := by decide +kernel
theorem dX1_likeColumn_63 : decode cX1_likeColumn 63 = .ok (.iload 7, 2) := by decide +kernel
theorem dX1_likeColumn_65 : decode cX1_likeColumn 65 = .ok (.iadd, 1) := by decide +kernel
theorem dX1_likeColumn_66 : decode cX1_likeColumn 66 = .ok (.iaload, 1) := by decide +kernel
theorem dX1_likeColumn_67 : decode cX1_likeColumn 67 = .ok (.aload_n 2, 1) := by decide +kernel
theorem dX1_likeColumn_68 : decode cX1_likeColumn 68 = .ok (.getfield 9, 3) := by decide +kernel
theorem dX1_likeColumn_71 : decode cX1_likeColumn 71 = .ok (.iload 5, 2) := by decide +kernel
theorem dX1_likeColumn_73 : decode cX1_likeColumn 73 = .ok (.iload 7, 2) := by decide +kernel
theorem dX1_likeColumn_75 : decode cX1_likeColumn 75 = .ok (.iadd, 1) := by decide +kernel
theorem dX1_likeColumn_76 : decode cX1_likeColumn 76 = .ok (.iaload, 1) := by decide +kernel
theorem dX1_likeColumn_77 : decode cX1_likeColumn 77 = .ok (.if_icmp .eq 5, 3) := by decide +kernel
theorem dX1_likeColumn_80 : decode cX1_likeColumn 80 = .ok (.iconst 0, 1) := by decide +kernel
theorem dX1_likeColumn_81 : decode cX1_likeColumn 81 = .ok (.ireturn, 1) := by decide +kernel
theorem dX1_likeColumn_82 : decode cX1_likeColumn 82 = .ok (.iinc 7 1, 3) := by decide +kernel
theorem dX1_likeColumn_85 : decode cX1_likeColumn 85 = .ok (.goto (-35), 3) := by decide +kernel
theorem dX1_likeColumn_88 : decode cX1_likeColumn 88 = .ok (.iconst 1, 1) := by decide +kernel
theorem dX1_likeColumn_89 : decode cX1_likeColumn 89 = .ok (.ireturn, 1) := by decide +kernel
theorem dX1_firstColumn_0 : decode cX1_firstColumn 0 = .ok (.iload_n 1, 1) := by decide +kernel
theorem dX1_firstColumn_1 : decode cX1_firstColumn 1 = .ok (.aload_n 0, 1) := by decide +kernel
theorem dX1_firstColumn_2 : decode cX1_firstColumn 2 = .ok (.getfield 21, 3) := by decide +kernel
theorem dX1_firstColumn_5 : decode cX1_firstColumn 5 = .ok (.imul, 1) := by decide +kernel
theorem dX1_firstColumn_6 : decode cX1_firstColumn 6 = .ok (.aload_n 0, 1) := by decide +kernel
theorem dX1_firstColumn_7 : decode cX1_firstColumn 7 = .ok (.getfield 25, 3) := by decide +kernel
theorem dX1_firstColumn_10 : decode cX1_firstColumn 10 = .ok (.invokestatic 58, 3) := by decide +kernel
theorem dX1_firstColumn_13 : decode cX1_firstColumn 13 = .ok (.ireturn, 1) := by decide +kernel
theorem dX1_endColumn_0 : decode cX1_endColumn 0 = .ok (.iload_n 1, 1) := by decide +kernel
theorem dX1_endColumn_1 : decode cX1_endColumn 1 = .ok (.iconst 1, 1) := by decide +kernel
theorem dX1_endColumn_2 : decode cX1_endColumn 2 = .ok (.iadd, 1) := by decide +kernel
theorem dX1_endColumn_3 : decode cX1_endColumn 3 = .ok (.aload_n 0, 1) := by decide +kernel
theorem dX1_endColumn_4 : decode cX1_endColumn 4 = .ok (.getfield 21, 3) := by decide +kernel
theorem dX1_endColumn_7 : decode cX1_endColumn 7 = .ok (.imul, 1) := by decide +kernel
theorem dX1_endColumn_8 : decode cX1_endColumn 8 = .ok (.aload_n 0, 1) := by decide +kernel
theorem dX1_endColumn_9 : decode cX1_endColumn 9 = .ok (.getfield 25, 3) := by decide +kernel
theorem dX1_endColumn_12 : decode cX1_endColumn 12 = .ok (.invokestatic 58, 3) := by decide +kernel
theorem dX1_endColumn_15 : decode cX1_endColumn 15 = .ok (.ireturn, 1) := by decide +kernel
theorem dX2_init_0 : decode cX2_init 0 = .ok (.aload_n 0, 1) := by decide +kernel
theorem dX2_init_1 : decode cX2_init 1 = .ok (.invokespecial 5, 3) := by decide +kernel
theorem dX2_init_4 : decode cX2_init 4 = .ok (.aload_n 0, 1) := by decide +kernel
theorem dX2_init_5 : decode cX2_init 5 = .ok (.bipush 60, 2) := by decide +kernel
theorem dX2_init_7 : decode cX2_init 7 = .ok (.newarray .int, 2) := by decide +kernel
theorem dX2_init_9 : decode cX2_init 9 = .ok (.putfield 11, 3) := by decide +kernel
theorem dX2_init_12 : decode cX2_init 12 = .ok (.return_, 1) := by decide +kernel
theorem dX2_hasRoom_0 : decode cX2_hasRoom 0 = .ok (.aload_n 0, 1) := by decide +kernel
theorem dX2_hasRoom_1 : decode cX2_hasRoom 1 = .ok (.getfield 15, 3) := by decide +kernel
theorem dX2_hasRoom_4 : decode cX2_hasRoom 4 = .ok (.bipush 20, 2) := by decide +kernel
theorem dX2_hasRoom_6 : decode cX2_hasRoom 6 = .ok (.iadd, 1) := by decide +kernel
theorem dX2_hasRoom_7 : decode cX2_hasRoom 7 = .ok (.bipush 60, 2) := by decide +kernel
theorem dX2_hasRoom_9 : decode cX2_hasRoom 9 = .ok (.if_icmp .gt 7, 3) := by decide +kernel
theorem dX2_hasRoom_12 : decode cX2_hasRoom 12 = .ok (.iconst 1, 1) := by decide +kernel
theorem dX2_hasRoom_13 : decode cX2_hasRoom 13 = .ok (.goto 4, 3) := by decide +kernel
theorem dX2_hasRoom_16 : decode cX2_hasRoom 16 = .ok (.iconst 0, 1) := by decide +kernel
theorem dX2_hasRoom_17 : decode cX2_hasRoom 17 = .ok (.ireturn, 1) := by decide +kernel
theorem dX2_length_0 : decode cX2_length 0 = .ok (.aload_n 0, 1) := by decide +kernel
theorem dX2_length_1 : decode cX2_length 1 = .ok (.getfield 15, 3) := by decide +kernel
theorem dX2_length_4 : decode cX2_length 4 = .ok (.ireturn, 1) := by decide +kernel
theorem dX2_clear_0 : decode cX2_clear 0 = .ok (.aload_n 0, 1) := by decide +kernel
theorem dX2_clear_1 : decode cX2_clear 1 = .ok (.iconst 0, 1) := by decide +kernel
theorem dX2_clear_2 : decode cX2_clear 2 = .ok (.putfield 15, 3) := by decide +kernel
theorem dX2_clear_5 : decode cX2_clear 5 = .ok (.return_, 1) := by decide +kernel
theorem dX2_append_0 : decode cX2_append 0 = .ok (.bipush 24, 2) := by decide +kernel
theorem dX2_append_2 : decode cX2_append 2 = .ok (.istore_n 2, 1) := by decide +kernel
theorem dX2_append_3 : decode cX2_append 3 = .ok (.iload_n 2, 1) := by decide +kernel
theorem dX2_append_4 : decode cX2_append 4 = .ok (.ifCond .lt 44, 3) := by decide +kernel
theorem dX2_append_7 : decode cX2_append 7 = .ok (.aload_n 0, 1) := by decide +kernel
theorem dX2_append_8 : decode cX2_append 8 = .ok (.getfield 15, 3) := by decide +kernel
theorem dX2_append_11 : decode cX2_append 11 = .ok (.bipush 60, 2) := by decide +kernel
theorem dX2_append_13 : decode cX2_append 13 = .ok (.if_icmp .ge 29, 3) := by decide +kernel
theorem dX2_append_16 : decode cX2_append 16 = .ok (.aload_n 0, 1) := by decide +kernel
theorem dX2_append_17 : decode cX2_append 17 = .ok (.getfield 11, 3) := by decide +kernel
theorem dX2_append_20 : decode cX2_append 20 = .ok (.aload_n 0, 1) := by decide +kernel
theorem dX2_append_21 : decode cX2_append 21 = .ok (.getfield 15, 3) := by decide +kernel
theorem dX2_append_24 : decode cX2_append 24 = .ok (.iload_n 1, 1) := by decide +kernel
theorem dX2_append_25 : decode cX2_append 25 = .ok (.iload_n 2, 1) := by decide +kernel
theorem dX2_append_26 : decode cX2_append 26 = .ok (.iushr, 1) := by decide +kernel
theorem dX2_append_27 : decode cX2_append 27 = .ok (.sipush 255, 3) := by decide +kernel
theorem dX2_append_30 : decode cX2_append 30 = .ok (.iand, 1) := by decide +kernel
theorem dX2_append_31 : decode cX2_append 31 = .ok (.iastore, 1) := by decide +kernel
theorem dX2_append_32 : decode cX2_append 32 = .ok (.aload_n 0, 1) := by decide +kernel
theorem dX2_append_33 : decode cX2_append 33 = .ok (.dup, 1) := by decide +kernel
theorem dX2_append_34 : decode cX2_append 34 = .ok (.getfield 15, 3) := by decide +kernel
theorem dX2_append_37 : decode cX2_append 37 = .ok (.iconst 1, 1) := by decide +kernel
theorem dX2_append_38 : decode cX2_append 38 = .ok (.iadd, 1) := by decide +kernel
theorem dX2_append_39 : decode cX2_append 39 = .ok (.putfield 15, 3) := by decide +kernel
theorem dX2_append_42 : decode cX2_append 42 = .ok (.iinc 2 (-8), 3) := by decide +kernel
theorem dX2_append_45 : decode cX2_append 45 = .ok (.goto (-42), 3) := by decide +kernel
theorem dX2_append_48 : decode cX2_append 48 = .ok (.return_, 1) := by decide +kernel
theorem dX2_headAt_0 : decode cX2_headAt 0 = .ok (.iload_n 2, 1) := by decide +kernel
theorem dX2_headAt_1 : decode cX2_headAt 1 = .ok (.iconst 1, 1) := by decide +kernel
theorem dX2_headAt_2 : decode cX2_headAt 2 = .ok (.if_icmp .lt 23, 3) := by decide +kernel
theorem dX2_headAt_5 : decode cX2_headAt 5 = .ok (.iload_n 2, 1) := by decide +kernel
theorem dX2_headAt_6 : decode cX2_headAt 6 = .ok (.bipush 12, 2) := by decide +kernel
theorem dX2_headAt_8 : decode cX2_headAt 8 = .ok (.if_icmp .gt 17, 3) := by decide +kernel
theorem dX2_headAt_11 : decode cX2_headAt 11 = .ok (.iload_n 1, 1) := by decide +kernel
theorem dX2_headAt_12 : decode cX2_headAt 12 = .ok (.ifCond .lt 13, 3) := by decide +kernel
theorem dX2_headAt_15 : decode cX2_headAt 15 = .ok (.iload_n 1, 1) := by decide +kernel
theorem dX2_headAt_16 : decode cX2_headAt 16 = .ok (.aload_n 0, 1) := by decide +kernel
theorem dX2_headAt_17 : decode cX2_headAt 17 = .ok (.getfield 15, 3) := by decide +kernel
theorem dX2_headAt_20 : decode cX2_headAt 20 = .ok (.iload_n 2, 1) := by decide +kernel
theorem dX2_headAt_21 : decode cX2_headAt 21 = .ok (.isub, 1) := by decide +kernel
theorem dX2_headAt_22 : decode cX2_headAt 22 = .ok (.if_icmp .le 5, 3) := by decide +kernel
theorem dX2_headAt_25 : decode cX2_headAt 25 = .ok (.lconst 0, 1) := by decide +kernel
theorem dX2_headAt_26 : decode cX2_headAt 26 = .ok (.lreturn, 1) := by decide +kernel
theorem dX2_headAt_27 : decode cX2_headAt 27 = .ok (.lconst 0, 1) := by decide +kernel
theorem dX2_headAt_28 : decode cX2_headAt 28 = .ok (.lstore_n 3, 1) := by decide +kernel
theorem dX2_headAt_29 : decode cX2_headAt 29 = .ok (.bipush 55, 2) := by decide +kernel
theorem dX2_headAt_31 : decode cX2_headAt 31 = .ok (.istore 5, 2) := by decide +kernel
theorem dX2_headAt_33 : decode cX2_headAt 33 = .ok (.iload_n 1, 1) := by decide +kernel
theorem dX2_headAt_34 : decode cX2_headAt 34 = .ok (.istore 6, 2) := by decide +kernel
theorem dX2_headAt_36 : decode cX2_headAt 36 = .ok (.iload 6, 2) := by decide +kernel
theorem dX2_headAt_38 : decode cX2_headAt 38 = .ok (.iload_n 1, 1) := by decide +kernel
theorem dX2_headAt_39 : decode cX2_headAt 39 = .ok (.iload_n 2, 1) := by decide +kernel
theorem dX2_headAt_40 : decode cX2_headAt 40 = .ok (.iadd, 1) := by decide +kernel
theorem dX2_headAt_41 : decode cX2_headAt 41 = .ok (.if_icmp .ge 49, 3) := by decide +kernel
theorem dX2_headAt_44 : decode cX2_headAt 44 = .ok (.aload_n 0, 1) := by decide +kernel
theorem dX2_headAt_45 : decode cX2_headAt 45 = .ok (.getfield 11, 3) := by decide +kernel
theorem dX2_headAt_48 : decode cX2_headAt 48 = .ok (.iload 6, 2) := by decide +kernel
theorem dX2_headAt_50 : decode cX2_headAt 50 = .ok (.iaload, 1) := by decide +kernel
theorem dX2_headAt_51 : decode cX2_headAt 51 = .ok (.bipush 97, 2) := by decide +kernel
theorem dX2_headAt_53 : decode cX2_headAt 53 = .ok (.isub, 1) := by decide +kernel
theorem dX2_headAt_54 : decode cX2_headAt 54 = .ok (.istore 7, 2) := by decide +kernel
theorem dX2_headAt_56 : decode cX2_headAt 56 = .ok (.iload 7, 2) := by decide +kernel
theorem dX2_headAt_58 : decode cX2_headAt 58 = .ok (.ifCond .lt 10, 3) := by decide +kernel
theorem dX2_headAt_61 : decode cX2_headAt 61 = .ok (.iload 7, 2) := by decide +kernel
theorem dX2_headAt_63 : decode cX2_headAt 63 = .ok (.bipush 26, 2) := by decide +kernel
theorem dX2_headAt_65 : decode cX2_headAt 65 = .ok (.if_icmp .lt 5, 3) := by decide +kernel
theorem dX2_headAt_68 : decode cX2_headAt 68 = .ok (.lconst 0, 1) := by decide +kernel
theorem dX2_headAt_69 : decode cX2_headAt 69 = .ok (.lreturn, 1) := by decide +kernel
theorem dX2_headAt_70 : decode cX2_headAt 70 = .ok (.lload_n 3, 1) := by decide +kernel
theorem dX2_headAt_71 : decode cX2_headAt 71 = .ok (.iload 7, 2) := by decide +kernel
theorem dX2_headAt_73 : decode cX2_headAt 73 = .ok (.iconst 1, 1) := by decide +kernel
theorem dX2_headAt_74 : decode cX2_headAt 74 = .ok (.iadd, 1) := by decide +kernel
theorem dX2_headAt_75 : decode cX2_headAt 75 = .ok (.i2l, 1) := by decide +kernel
theorem dX2_headAt_76 : decode cX2_headAt 76 = .ok (.iload 5, 2) := by decide +kernel
theorem dX2_headAt_78 : decode cX2_headAt 78 = .ok (.lshl, 1) := by decide +kernel
theorem dX2_headAt_79 : decode cX2_headAt 79 = .ok (.lor, 1) := by decide +kernel
theorem dX2_headAt_80 : decode cX2_headAt 80 = .ok (.lstore_n 3, 1) := by decide +kernel
theorem dX2_headAt_81 : decode cX2_headAt 81 = .ok (.iinc 5 (-5), 3) := by decide +kernel
theorem dX2_headAt_84 : decode cX2_headAt 84 = .ok (.iinc 6 1, 3) := by decide +kernel
theorem dX2_headAt_87 : decode cX2_headAt 87 = .ok (.goto (-51), 3) := by decide +kernel
theorem dX2_headAt_90 : decode cX2_headAt 90 = .ok (.lload_n 3, 1) := by decide +kernel
theorem dX2_headAt_91 : decode cX2_headAt 91 = .ok (.lreturn, 1) := by decide +kernel
theorem dX2_firstLetter_0 : decode cX2_firstLetter 0 = .ok (.lload_n 0, 1) := by decide +kernel
theorem dX2_firstLetter_1 : decode cX2_firstLetter 1 = .ok (.bipush 55, 2) := by decide +kernel
theorem dX2_firstLetter_3 : decode cX2_firstLetter 3 = .ok (.lushr, 1) := by decide +kernel
theorem dX2_firstLetter_4 : decode cX2_firstLetter 4 = .ok (.l2i, 1) := by decide +kernel
theorem dX2_firstLetter_5 : decode cX2_firstLetter 5 = .ok (.iconst 1, 1) := by decide +kernel
theorem dX2_firstLetter_6 : decode cX2_firstLetter 6 = .ok (.isub, 1) := by decide +kernel
theorem dX2_firstLetter_7 : decode cX2_firstLetter 7 = .ok (.ireturn, 1) := by decide +kernel
theorem dX3_init_0 : decode cX3_init 0 = .ok (.aload_n 0, 1) := by decide +kernel
theorem dX3_init_1 : decode cX3_init 1 = .ok (.invokespecial 3, 3) := by decide +kernel
theorem dX3_init_4 : decode cX3_init 4 = .ok (.aload_n 0, 1) := by decide +kernel
theorem dX3_init_5 : decode cX3_init 5 = .ok (.iconst 5, 1) := by decide +kernel
theorem dX3_init_6 : decode cX3_init 6 = .ok (.newarray .int, 2) := by decide +kernel
theorem dX3_init_8 : decode cX3_init 8 = .ok (.putfield 9, 3) := by decide +kernel
theorem dX3_init_11 : decode cX3_init 11 = .ok (.aload_n 0, 1) := by decide +kernel
theorem dX3_init_12 : decode cX3_init 12 = .ok (.sipush 900, 3) := by decide +kernel
theorem dX3_init_15 : decode cX3_init 15 = .ok (.newarray .int, 2) := by decide +kernel
theorem dX3_init_17 : decode cX3_init 17 = .ok (.putfield 15, 3) := by decide +kernel
theorem dX3_init_20 : decode cX3_init 20 = .ok (.aload_n 0, 1) := by decide +kernel
theorem dX3_init_21 : decode cX3_init 21 = .ok (.sipush 900, 3) := by decide +kernel
theorem dX3_init_24 : decode cX3_init 24 = .ok (.newarray .int, 2) := by decide +kernel
theorem dX3_init_26 : decode cX3_init 26 = .ok (.putfield 18, 3) := by decide +kernel
theorem dX3_init_29 : decode cX3_init 29 = .ok (.aload_n 0, 1) := by decide +kernel
theorem dX3_init_30 : decode cX3_init 30 = .ok (.sipush 3600, 3) := by decide +kernel
theorem dX3_init_33 : decode cX3_init 33 = .ok (.newarray .long, 2) := by decide +kernel
theorem dX3_init_35 : decode cX3_init 35 = .ok (.putfield 21, 3) := by decide +kernel
theorem dX3_init_38 : decode cX3_init 38 = .ok (.return_, 1) := by decide +kernel
set_option maxRecDepth 20000 in
theorem ggX3_compose_X3_gather : GoodIn wsX3_compose wsX3_gather := goodIn_r _ [14, 6, 1, 15, 16, 17, 18, 19, 20, 21, 22, 23, 24, 25, 26, 27, 28, 13, 29, 60, 61, 62, 63, 64, 73, 74, 75, 76, 77, 78, 79, 80, 81, 65, 66, 67, 68, 69, 70, 71, 72] (by decide +kernel) (by decide +kernel)
set_option maxRecDepth 20000 in
theorem gX3_compose_X3_gather : GoodIn wsX3_compose (wsV RX3 31 RX3 yX3_gather wsX3_gather) := goodIn_app (goodIn_of _ (by decide +kernel)) ggX3_compose_X3_gather
set_option maxRecDepth 20000 in
theorem ggX3_compose_X3_weigh : GoodIn wsX3_compose wsX3_weigh := goodIn_r _ [33, 8, 6, 15, 1, 7, 34, 35, 36, 13, 37, 38, 39, 40, 41, 16, 9, 60, 61, 62, 63, 64] (by decide +kernel) (by decide +kernel)
set_option maxRecDepth 20000 in
theorem gX3_compose_X3_weigh : GoodIn wsX3_compose (wsV RX3 39 RX3 yX3_weigh wsX3_weigh) := goodIn_app (goodIn_of _ (by decide +kernel)) ggX3_compose_X3_weigh
set_option maxRecDepth 20000 in
theorem ggX3_compose_X3_layOut : GoodIn wsX3_compose wsX3_layOut := goodIn_r _ [45, 1, 6, 15, 46, 47, 48, 49, 50, 51, 52, 53, 54, 30, 31, 32, 13, 33, 8, 7, 34, 35, 36, 37, 38, 39, 40, 41, 16, 9, 55, 56, 57, 58, 59, 60, 61, 62, 63, 64, 65, 66, 67, 68, 69, 70, 71, 72] (by decide +kernel) (by decide +kernel)
set_option maxRecDepth 20000 in
theorem gX3_compose_X3_layOut : GoodIn wsX3_compose (wsV RX3 45 RX3 yX3_layOut wsX3_layOut) := goodIn_app (goodIn_of _ (by decide +kernel)) ggX3_compose_X3_layOut
theorem dX3_compose_0 : decode cX3_compose 0 = .ok (.aload_n 1, 1) := by decide +kernel
theorem dX3_compose_1 : decode cX3_compose 1 = .ok (.iconst 0, 1) := by decide +kernel
theorem dX3_compose_2 : decode cX3_compose 2 = .ok (.aload_n 0, 1) := by decide +kernel
theorem dX3_compose_3 : decode cX3_compose 3 = .ok (.getfield 9, 3) := by decide +kernel
theorem dX3_compose_6 : decode cX3_compose 6 = .ok (.iconst 0, 1) := by decide +kernel
theorem dX3_compose_7 : decode cX3_compose 7 = .ok (.iconst 5, 1) := by decide +kernel
theorem dX3_compose_8 : decode cX3_compose 8 = .ok (.invokestatic 25, 3) := by decide +kernel
theorem dX3_compose_11 : decode cX3_compose 11 = .ok (.aload_n 0, 1) := by decide +kernel
theorem dX3_compose_12 : decode cX3_compose 12 = .ok (.aload_n 2, 1) := by decide +kernel
theorem dX3_compose_13 : decode cX3_compose 13 = .ok (.aload_n 3, 1) := by decide +kernel
theorem dX3_compose_14 : decode cX3_compose 14 = .ok (.invokevirtual 31, 3) := by decide +kernel
theorem dX3_compose_17 : decode cX3_compose 17 = .ok (.aload_n 0, 1) := by decide +kernel
theorem dX3_compose_18 : decode cX3_compose 18 = .ok (.getfield 35, 3) := by decide +kernel
theorem dX3_compose_21 : decode cX3_compose 21 = .ok (.ifCond .ne 5, 3) := by decide +kernel
theorem dX3_compose_24 : decode cX3_compose 24 = .ok (.iconst 0, 1) := by decide +kernel
theorem dX3_compose_25 : decode cX3_compose 25 = .ok (.ireturn, 1) := by decide +kernel
theorem dX3_compose_26 : decode cX3_compose 26 = .ok (.aload_n 0, 1) := by decide +kernel
theorem dX3_compose_27 : decode cX3_compose 27 = .ok (.getfield 35, 3) := by decide +kernel
theorem dX3_compose_30 : decode cX3_compose 30 = .ok (.iconst 1, 1) := by decide +kernel
theorem dX3_compose_31 : decode cX3_compose 31 = .ok (.isub, 1) := by decide +kernel
theorem dX3_compose_32 : decode cX3_compose 32 = .ok (.istore 4, 2) := by decide +kernel
theorem dX3_compose_34 : decode cX3_compose 34 = .ok (.iload 4, 2) := by decide +kernel
theorem dX3_compose_36 : decode cX3_compose 36 = .ok (.ifCond .lt 38, 3) := by decide +kernel
theorem dX3_compose_39 : decode cX3_compose 39 = .ok (.iconst 0, 1) := by decide +kernel
theorem dX3_compose_40 : decode cX3_compose 40 = .ok (.istore 5, 2) := by decide +kernel
theorem dX3_compose_42 : decode cX3_compose 42 = .ok (.iload 5, 2) := by decide +kernel
theorem dX3_compose_44 : decode cX3_compose 44 = .ok (.aload_n 0, 1) := by decide +kernel
theorem dX3_compose_45 : decode cX3_compose 45 = .ok (.getfield 9, 3) := by decide +kernel
theorem dX3_compose_48 : decode cX3_compose 48 = .ok (.iconst 1, 1) := by decide +kernel
theorem dX3_compose_49 : decode cX3_compose 49 = .ok (.iaload, 1) := by decide +kernel
theorem dX3_compose_50 : decode cX3_compose 50 = .ok (.if_icmp .ge 18, 3) := by decide +kernel
theorem dX3_compose_53 : decode cX3_compose 53 = .ok (.aload_n 0, 1) := by decide +kernel
theorem dX3_compose_54 : decode cX3_compose 54 = .ok (.iload 4, 2) := by decide +kernel
theorem dX3_compose_56 : decode cX3_compose 56 = .ok (.iload 5, 2) := by decide +kernel
theorem dX3_compose_58 : decode cX3_compose 58 = .ok (.invokevirtual 39, 3) := by decide +kernel
theorem dX3_compose_61 : decode cX3_compose 61 = .ok (.pop, 1) := by decide +kernel
theorem dX3_compose_62 : decode cX3_compose 62 = .ok (.iinc 5 1, 3) := by decide +kernel
theorem dX3_compose_65 : decode cX3_compose 65 = .ok (.goto (-23), 3) := by decide +kernel
theorem dX3_compose_68 : decode cX3_compose 68 = .ok (.iinc 4 (-1), 3) := by decide +kernel
theorem dX3_compose_71 : decode cX3_compose 71 = .ok (.goto (-37), 3) := by decide +kernel
theorem dX3_compose_74 : decode cX3_compose 74 = .ok (.aload_n 0, 1) := by decide +kernel
theorem dX3_compose_75 : decode cX3_compose 75 = .ok (.getfield 21, 3) := by decide +kernel
theorem dX3_compose_78 : decode cX3_compose 78 = .ok (.iconst 0, 1) := by decide +kernel
theorem dX3_compose_79 : decode cX3_compose 79 = .ok (.laload, 1) := by decide +kernel
theorem dX3_compose_80 : decode cX3_compose 80 = .ok (.ldc2_w 43, 3) := by decide +kernel
theorem dX3_compose_83 : decode cX3_compose 83 = .ok (.lcmp, 1) := by decide +kernel
theorem dX3_compose_84 : decode cX3_compose 84 = .ok (.ifCond .ne 5, 3) := by decide +kernel
theorem dX3_compose_87 : decode cX3_compose 87 = .ok (.iconst 0, 1) := by decide +kernel
theorem dX3_compose_88 : decode cX3_compose 88 = .ok (.ireturn, 1) := by decide +kernel
theorem dX3_compose_89 : decode cX3_compose 89 = .ok (.aload_n 0, 1) := by decide +kernel
theorem dX3_compose_90 : decode cX3_compose 90 = .ok (.aload_n 3, 1) := by decide +kernel
theorem dX3_compose_91 : decode cX3_compose 91 = .ok (.invokevirtual 45, 3) := by decide +kernel
theorem dX3_compose_94 : decode cX3_compose 94 = .ok (.aload_n 3, 1) := by decide +kernel
theorem dX3_compose_95 : decode cX3_compose 95 = .ok (.aload_n 0, 1) := by decide +kernel
theorem dX3_compose_96 : decode cX3_compose 96 = .ok (.getfield 21, 3) := by decide +kernel
theorem dX3_compose_99 : decode cX3_compose 99 = .ok (.iconst 0, 1) := by decide +kernel
theorem dX3_compose_100 : decode cX3_compose 100 = .ok (.laload, 1) := by decide +kernel
theorem dX3_compose_101 : decode cX3_compose 101 = .ok (.ldc2_w 49, 3) := by decide +kernel
theorem dX3_compose_104 : decode cX3_compose 104 = .ok (.ldiv, 1) := by decide +kernel
theorem dX3_compose_105 : decode cX3_compose 105 = .ok (.l2i, 1) := by decide +kernel
theorem dX3_compose_106 : decode cX3_compose 106 = .ok (.putfield 51, 3) := by decide +kernel
theorem dX3_compose_109 : decode cX3_compose 109 = .ok (.iconst 1, 1) := by decide +kernel
theorem dX3_compose_110 : decode cX3_compose 110 = .ok (.ireturn, 1) := by decide +kernel
set_option maxRecDepth 20000 in
theorem ggX3_gather_X0_letterOf : GoodIn wsX3_gather wsX0_letterOf := goodIn_r _ [9, 10, 11, 12, 13, 14, 24, 25, 26, 27, 28, 29, 30, 31, 32] (by decide +kernel) (by decide +kernel)
set_option maxRecDepth 20000 in
theorem gX3_gather_X0_letterOf : GoodIn wsX3_gather (wsV RX3 64 RX0 yX0_letterOf wsX0_letterOf) := goodIn_app (goodIn_of _ (by decide +kernel)) ggX3_gather_X0_letterOf
set_option maxRecDepth 20000 in
theorem ggX3_gather_X3_breakBehind : GoodIn wsX3_gather wsX3_breakBehind := goodIn_r _ [18] (by decide +kernel) (by decide +kernel)
set_option maxRecDepth 20000 in
theorem gX3_gather_X3_breakBehind : GoodIn wsX3_gather (va_wsS RX3 74 yX3_breakBehind wsX3_breakBehind) := goodIn_app (goodIn_of _ (by decide +kernel)) ggX3_gather_X3_breakBehind
theorem dX3_gather_0 : decode cX3_gather 0 = .ok (.aload_n 0, 1) := by decide +kernel
theorem dX3_gather_1 : decode cX3_gather 1 = .ok (.iconst 0, 1) := by decide +kernel
theorem dX3_gather_2 : decode cX3_gather 2 = .ok (.putfield 35, 3) := by decide +kernel
theorem dX3_gather_5 : decode cX3_gather 5 = .ok (.iconst (-1), 1) := by decide +kernel
theorem dX3_gather_6 : decode cX3_gather 6 = .ok (.istore_n 3, 1) := by decide +kernel
theorem dX3_gather_7 : decode cX3_gather 7 = .ok (.iconst 0, 1) := by decide +kernel
theorem dX3_gather_8 : decode cX3_gather 8 = .ok (.istore 4, 2) := by decide +kernel
theorem dX3_gather_10 : decode cX3_gather 10 = .ok (.iload 4, 2) := by decide +kernel
theorem dX3_gather_12 : decode cX3_gather 12 = .ok (.aload_n 1, 1) := by decide +kernel
theorem dX3_gather_13 : decode cX3_gather 13 = .ok (.getfield 56, 3) := by decide +kernel
theorem dX3_gather_16 : decode cX3_gather 16 = .ok (.if_icmp .ge 164, 3) := by decide +kernel
theorem dX3_gather_19 : decode cX3_gather 19 = .ok (.aload_n 1, 1) := by decide +kernel
theorem dX3_gather_20 : decode cX3_gather 20 = .ok (.getfield 61, 3) := by decide +kernel
theorem dX3_gather_23 : decode cX3_gather 23 = .ok (.iload 4, 2) := by decide +kernel
theorem dX3_gather_25 : decode cX3_gather 25 = .ok (.iaload, 1) := by decide +kernel
theorem dX3_gather_26 : decode cX3_gather 26 = .ok (.istore 5, 2) := by decide +kernel
theorem dX3_gather_28 : decode cX3_gather 28 = .ok (.aload_n 1, 1) := by decide +kernel
theorem dX3_gather_29 : decode cX3_gather 29 = .ok (.iload 5, 2) := by decide +kernel
theorem dX3_gather_31 : decode cX3_gather 31 = .ok (.invokevirtual 64, 3) := by decide +kernel
theorem dX3_gather_34 : decode cX3_gather 34 = .ok (.iload_n 3, 1) := by decide +kernel
theorem dX3_gather_35 : decode cX3_gather 35 = .ok (.if_icmp .ne 7, 3) := by decide +kernel
theorem dX3_gather_38 : decode cX3_gather 38 = .ok (.iconst 0, 1) := by decide +kernel
theorem dX3_gather_39 : decode cX3_gather 39 = .ok (.goto 9, 3) := by decide +kernel
theorem dX3_gather_42 : decode cX3_gather 42 = .ok (.aload_n 0, 1) := by decide +kernel
theorem dX3_gather_43 : decode cX3_gather 43 = .ok (.getfield 9, 3) := by decide +kernel
theorem dX3_gather_46 : decode cX3_gather 46 = .ok (.iconst 2, 1) := by decide +kernel
theorem dX3_gather_47 : decode cX3_gather 47 = .ok (.iaload, 1) := by decide +kernel
theorem dX3_gather_48 : decode cX3_gather 48 = .ok (.istore 6, 2) := by decide +kernel
theorem dX3_gather_50 : decode cX3_gather 50 = .ok (.aload_n 1, 1) := by decide +kernel
theorem dX3_gather_51 : decode cX3_gather 51 = .ok (.iload 5, 2) := by decide +kernel
theorem dX3_gather_53 : decode cX3_gather 53 = .ok (.invokevirtual 64, 3) := by decide +kernel
theorem dX3_gather_56 : decode cX3_gather 56 = .ok (.istore_n 3, 1) := by decide +kernel
theorem dX3_gather_57 : decode cX3_gather 57 = .ok (.aload_n 1, 1) := by decide +kernel
theorem dX3_gather_58 : decode cX3_gather 58 = .ok (.getfield 68, 3) := by decide +kernel
theorem dX3_gather_61 : decode cX3_gather 61 = .ok (.iload 5, 2) := by decide +kernel
theorem dX3_gather_63 : decode cX3_gather 63 = .ok (.iaload, 1) := by decide +kernel
theorem dX3_gather_64 : decode cX3_gather 64 = .ok (.istore 7, 2) := by decide +kernel
theorem dX3_gather_66 : decode cX3_gather 66 = .ok (.iconst 0, 1) := by decide +kernel
theorem dX3_gather_67 : decode cX3_gather 67 = .ok (.istore 8, 2) := by decide +kernel
theorem dX3_gather_69 : decode cX3_gather 69 = .ok (.iload 8, 2) := by decide +kernel
theorem dX3_gather_71 : decode cX3_gather 71 = .ok (.iload 7, 2) := by decide +kernel
theorem dX3_gather_73 : decode cX3_gather 73 = .ok (.if_icmp .ge 101, 3) := by decide +kernel
theorem dX3_gather_76 : decode cX3_gather 76 = .ok (.aload_n 0, 1) := by decide +kernel
theorem dX3_gather_77 : decode cX3_gather 77 = .ok (.getfield 35, 3) := by decide +kernel
theorem dX3_gather_80 : decode cX3_gather 80 = .ok (.sipush 900, 3) := by decide +kernel
theorem dX3_gather_83 : decode cX3_gather 83 = .ok (.if_icmp .ge 91, 3) := by decide +kernel
theorem dX3_gather_86 : decode cX3_gather 86 = .ok (.iload 5, 2) := by decide +kernel
theorem dX3_gather_88 : decode cX3_gather 88 = .ok (.bipush 6, 2) := by decide +kernel
theorem dX3_gather_90 : decode cX3_gather 90 = .ok (.imul, 1) := by decide +kernel
theorem dX3_gather_91 : decode cX3_gather 91 = .ok (.iload 8, 2) := by decide +kernel
theorem dX3_gather_93 : decode cX3_gather 93 = .ok (.iadd, 1) := by decide +kernel
theorem dX3_gather_94 : decode cX3_gather 94 = .ok (.istore 9, 2) := by decide +kernel
theorem dX3_gather_96 : decode cX3_gather 96 = .ok (.aload_n 2, 1) := by decide +kernel
theorem dX3_gather_97 : decode cX3_gather 97 = .ok (.getfield 71, 3) := by decide +kernel
theorem dX3_gather_100 : decode cX3_gather 100 = .ok (.aload_n 0, 1) := by decide +kernel
theorem dX3_gather_101 : decode cX3_gather 101 = .ok (.getfield 35, 3) := by decide +kernel
theorem dX3_gather_104 : decode cX3_gather 104 = .ok (.iload 9, 2) := by decide +kernel
theorem dX3_gather_106 : decode cX3_gather 106 = .ok (.iastore, 1) := by decide +kernel
theorem dX3_gather_107 : decode cX3_gather 107 = .ok (.aload_n 0, 1) := by decide +kernel
theorem dX3_gather_108 : decode cX3_gather 108 = .ok (.getfield 15, 3) := by decide +kernel
theorem dX3_gather_111 : decode cX3_gather 111 = .ok (.aload_n 0, 1) := by decide +kernel
theorem dX3_gather_112 : decode cX3_gather 112 = .ok (.getfield 35, 3) := by decide +kernel
theorem dX3_gather_115 : decode cX3_gather 115 = .ok (.aload_n 1, 1) := by decide +kernel
theorem dX3_gather_116 : decode cX3_gather 116 = .ok (.getfield 73, 3) := by decide +kernel
theorem dX3_gather_119 : decode cX3_gather 119 = .ok (.iload 9, 2) := by decide +kernel
theorem dX3_gather_121 : decode cX3_gather 121 = .ok (.iaload, 1) := by decide +kernel
theorem dX3_gather_122 : decode cX3_gather 122 = .ok (.iload 8, 2) := by decide +kernel
theorem dX3_gather_124 : decode cX3_gather 124 = .ok (.ifCond .ne 8, 3) := by decide +kernel
theorem dX3_gather_127 : decode cX3_gather 127 = .ok (.iload 6, 2) := by decide +kernel
theorem dX3_gather_129 : decode cX3_gather 129 = .ok (.goto 4, 3) := by decide +kernel
theorem dX3_gather_132 : decode cX3_gather 132 = .ok (.iconst 0, 1) := by decide +kernel
theorem dX3_gather_133 : decode cX3_gather 133 = .ok (.iadd, 1) := by decide +kernel
theorem dX3_gather_134 : decode cX3_gather 134 = .ok (.iastore, 1) := by decide +kernel
theorem dX3_gather_135 : decode cX3_gather 135 = .ok (.aload_n 0, 1) := by decide +kernel
theorem dX3_gather_136 : decode cX3_gather 136 = .ok (.getfield 18, 3) := by decide +kernel
theorem dX3_gather_139 : decode cX3_gather 139 = .ok (.aload_n 0, 1) := by decide +kernel
theorem dX3_gather_140 : decode cX3_gather 140 = .ok (.getfield 35, 3) := by decide +kernel
theorem dX3_gather_143 : decode cX3_gather 143 = .ok (.iload 8, 2) := by decide +kernel
theorem dX3_gather_145 : decode cX3_gather 145 = .ok (.iload 7, 2) := by decide +kernel
theorem dX3_gather_147 : decode cX3_gather 147 = .ok (.aload_n 1, 1) := by decide +kernel
theorem dX3_gather_148 : decode cX3_gather 148 = .ok (.getfield 73, 3) := by decide +kernel
theorem dX3_gather_151 : decode cX3_gather 151 = .ok (.iload 9, 2) := by decide +kernel
theorem dX3_gather_153 : decode cX3_gather 153 = .ok (.iaload, 1) := by decide +kernel
theorem dX3_gather_154 : decode cX3_gather 154 = .ok (.invokestatic 74, 3) := by decide +kernel
theorem dX3_gather_157 : decode cX3_gather 157 = .ok (.iastore, 1) := by decide +kernel
theorem dX3_gather_158 : decode cX3_gather 158 = .ok (.aload_n 0, 1) := by decide +kernel
theorem dX3_gather_159 : decode cX3_gather 159 = .ok (.dup, 1) := by decide +kernel
theorem dX3_gather_160 : decode cX3_gather 160 = .ok (.getfield 35, 3) := by decide +kernel
theorem dX3_gather_163 : decode cX3_gather 163 = .ok (.iconst 1, 1) := by decide +kernel
theorem dX3_gather_164 : decode cX3_gather 164 = .ok (.iadd, 1) := by decide +kernel
theorem dX3_gather_165 : decode cX3_gather 165 = .ok (.putfield 35, 3) := by decide +kernel
theorem dX3_gather_168 : decode cX3_gather 168 = .ok (.iinc 8 1, 3) := by decide +kernel
theorem dX3_gather_171 : decode cX3_gather 171 = .ok (.goto (-102), 3) := by decide +kernel
theorem dX3_gather_174 : decode cX3_gather 174 = .ok (.iinc 4 1, 3) := by decide +kernel
theorem dX3_gather_177 : decode cX3_gather 177 = .ok (.goto (-167), 3) := by decide +kernel
theorem dX3_gather_180 : decode cX3_gather 180 = .ok (.aload_n 2, 1) := by decide +kernel
theorem dX3_gather_181 : decode cX3_gather 181 = .ok (.aload_n 0, 1) := by decide +kernel
theorem dX3_gather_182 : decode cX3_gather 182 = .ok (.getfield 35, 3) := by decide +kernel
theorem dX3_gather_185 : decode cX3_gather 185 = .ok (.putfield 78, 3) := by decide +kernel
theorem dX3_gather_188 : decode cX3_gather 188 = .ok (.return_, 1) := by decide +kernel
theorem dX3_breakBehind_0 : decode cX3_breakBehind 0 = .ok (.iload_n 0, 1) := by decide +kernel
theorem dX3_breakBehind_1 : decode cX3_breakBehind 1 = .ok (.iload_n 1, 1) := by decide +kernel
theorem dX3_breakBehind_2 : decode cX3_breakBehind 2 = .ok (.iconst 1, 1) := by decide +kernel
theorem dX3_breakBehind_3 : decode cX3_breakBehind 3 = .ok (.isub, 1) := by decide +kernel
theorem dX3_breakBehind_4 : decode cX3_breakBehind 4 = .ok (.if_icmp .ne 5, 3) := by decide +kernel
theorem dX3_breakBehind_7 : decode cX3_breakBehind 7 = .ok (.iconst 1, 1) := by decide +kernel
theorem dX3_breakBehind_8 : decode cX3_breakBehind 8 = .ok (.ireturn, 1) := by decide +kernel
theorem dX3_breakBehind_9 : decode cX3_breakBehind 9 = .ok (.iload_n 0, 1) := by decide +kernel
theorem dX3_breakBehind_10 : decode cX3_breakBehind 10 = .ok (.ifCond .gt 8, 3) := by decide +kernel
theorem dX3_breakBehind_13 : decode cX3_breakBehind 13 = .ok (.iload_n 2, 1) := by decide +kernel
theorem dX3_breakBehind_14 : decode cX3_breakBehind 14 = .ok (.iconst 2, 1) := by decide +kernel
theorem dX3_breakBehind_15 : decode cX3_breakBehind 15 = .ok (.if_icmp .lt 7, 3) := by decide +kernel
theorem dX3_breakBehind_18 : decode cX3_breakBehind 18 = .ok (.iconst 2, 1) := by decide +kernel
theorem dX3_breakBehind_19 : decode cX3_breakBehind 19 = .ok (.goto 4, 3) := by decide +kernel
theorem dX3_breakBehind_22 : decode cX3_breakBehind 22 = .ok (.iconst 0, 1) := by decide +kernel
theorem dX3_breakBehind_23 : decode cX3_breakBehind 23 = .ok (.ireturn, 1) := by decide +kernel
set_option maxRecDepth 20000 in
theorem ggX3_weigh_X3_placeBehind : GoodIn wsX3_weigh wsX3_placeBehind := goodIn_r _ [10, 4, 17, 18, 19, 20, 21] (by decide +kernel) (by decide +kernel)
set_option maxRecDepth 20000 in
theorem gX3_weigh_X3_placeBehind : GoodIn wsX3_weigh (wsV RX3 81 RX3 yX3_placeBehind wsX3_placeBehind) := goodIn_app (goodIn_of _ (by decide +kernel)) ggX3_weigh_X3_placeBehind
set_option maxRecDepth 20000 in
theorem ggX3_weigh_X3_weightOf : GoodIn wsX3_weigh wsX3_weightOf := goodIn_r _ [14, 2, 15, 1, 5, 4, 16, 17, 18, 19, 20, 21] (by decide +kernel) (by decide +kernel)
set_option maxRecDepth 20000 in
theorem gX3_weigh_X3_weightOf : GoodIn wsX3_weigh (wsV RX3 84 RX3 yX3_weightOf wsX3_weightOf) := goodIn_app (goodIn_of _ (by decide +kernel)) ggX3_weigh_X3_weightOf
theorem dX3_weigh_0 : decode cX3_weigh 0 = .ok (.aload_n 0, 1) := by decide +kernel
theorem dX3_weigh_1 : decode cX3_weigh 1 = .ok (.iload_n 2, 1) := by decide +kernel
theorem dX3_weigh_2 : decode cX3_weigh 2 = .ok (.invokevirtual 81, 3) := by decide +kernel
theorem dX3_weigh_5 : decode cX3_weigh 5 = .ok (.istore_n 3, 1) := by decide +kernel
theorem dX3_weigh_6 : decode cX3_weigh 6 = .ok (.ldc2_w 43, 3) := by decide +kernel
theorem dX3_weigh_9 : decode cX3_weigh 9 = .ok (.lstore 4, 2) := by decide +kernel
theorem dX3_weigh_11 : decode cX3_weigh 11 = .ok (.iload_n 1, 1) := by decide +kernel
theorem dX3_weigh_12 : decode cX3_weigh 12 = .ok (.istore 6, 2) := by decide +kernel
theorem dX3_weigh_14 : decode cX3_weigh 14 = .ok (.iconst 0, 1) := by decide +kernel
theorem dX3_weigh_15 : decode cX3_weigh 15 = .ok (.istore 7, 2) := by decide +kernel
theorem dX3_weigh_17 : decode cX3_weigh 17 = .ok (.iload_n 1, 1) := by decide +kernel
theorem dX3_weigh_18 : decode cX3_weigh 18 = .ok (.istore 8, 2) := by decide +kernel
theorem dX3_weigh_20 : decode cX3_weigh 20 = .ok (.iload 8, 2) := by decide +kernel
theorem dX3_weigh_22 : decode cX3_weigh 22 = .ok (.aload_n 0, 1) := by decide +kernel
theorem dX3_weigh_23 : decode cX3_weigh 23 = .ok (.getfield 35, 3) := by decide +kernel
theorem dX3_weigh_26 : decode cX3_weigh 26 = .ok (.if_icmp .ge 73, 3) := by decide +kernel
theorem dX3_weigh_29 : decode cX3_weigh 29 = .ok (.iload 7, 2) := by decide +kernel
theorem dX3_weigh_31 : decode cX3_weigh 31 = .ok (.aload_n 0, 1) := by decide +kernel
theorem dX3_weigh_32 : decode cX3_weigh 32 = .ok (.getfield 15, 3) := by decide +kernel
theorem dX3_weigh_35 : decode cX3_weigh 35 = .ok (.iload 8, 2) := by decide +kernel
theorem dX3_weigh_37 : decode cX3_weigh 37 = .ok (.iaload, 1) := by decide +kernel
theorem dX3_weigh_38 : decode cX3_weigh 38 = .ok (.iadd, 1) := by decide +kernel
theorem dX3_weigh_39 : decode cX3_weigh 39 = .ok (.istore 7, 2) := by decide +kernel
theorem dX3_weigh_41 : decode cX3_weigh 41 = .ok (.iload 7, 2) := by decide +kernel
theorem dX3_weigh_43 : decode cX3_weigh 43 = .ok (.aload_n 0, 1) := by decide +kernel
theorem dX3_weigh_44 : decode cX3_weigh 44 = .ok (.getfield 9, 3) := by decide +kernel
theorem dX3_weigh_47 : decode cX3_weigh 47 = .ok (.iconst 0, 1) := by decide +kernel
theorem dX3_weigh_48 : decode cX3_weigh 48 = .ok (.iaload, 1) := by decide +kernel
theorem dX3_weigh_49 : decode cX3_weigh 49 = .ok (.if_icmp .le 6, 3) := by decide +kernel
theorem dX3_weigh_52 : decode cX3_weigh 52 = .ok (.goto 47, 3) := by decide +kernel
theorem dX3_weigh_55 : decode cX3_weigh 55 = .ok (.aload_n 0, 1) := by decide +kernel
theorem dX3_weigh_56 : decode cX3_weigh 56 = .ok (.iload 8, 2) := by decide +kernel
theorem dX3_weigh_58 : decode cX3_weigh 58 = .ok (.iload 7, 2) := by decide +kernel
theorem dX3_weigh_60 : decode cX3_weigh 60 = .ok (.iload_n 3, 1) := by decide +kernel
theorem dX3_weigh_61 : decode cX3_weigh 61 = .ok (.invokevirtual 84, 3) := by decide +kernel
theorem dX3_weigh_64 : decode cX3_weigh 64 = .ok (.lstore 9, 2) := by decide +kernel
theorem dX3_weigh_66 : decode cX3_weigh 66 = .ok (.lload 9, 2) := by decide +kernel
theorem dX3_weigh_68 : decode cX3_weigh 68 = .ok (.ldc2_w 43, 3) := by decide +kernel
theorem dX3_weigh_71 : decode cX3_weigh 71 = .ok (.lcmp, 1) := by decide +kernel
theorem dX3_weigh_72 : decode cX3_weigh 72 = .ok (.ifCond .eq 21, 3) := by decide +kernel
theorem dX3_weigh_75 : decode cX3_weigh 75 = .ok (.lload 9, 2) := by decide +kernel
theorem dX3_weigh_77 : decode cX3_weigh 77 = .ok (.lload 4, 2) := by decide +kernel
theorem dX3_weigh_79 : decode cX3_weigh 79 = .ok (.lcmp, 1) := by decide +kernel
theorem dX3_weigh_80 : decode cX3_weigh 80 = .ok (.ifCond .gt 13, 3) := by decide +kernel
theorem dX3_weigh_83 : decode cX3_weigh 83 = .ok (.lload 9, 2) := by decide +kernel
theorem dX3_weigh_85 : decode cX3_weigh 85 = .ok (.lstore 4, 2) := by decide +kernel
theorem dX3_weigh_87 : decode cX3_weigh 87 = .ok (.iload 8, 2) := by decide +kernel
theorem dX3_weigh_89 : decode cX3_weigh 89 = .ok (.iconst 1, 1) := by decide +kernel
theorem dX3_weigh_90 : decode cX3_weigh 90 = .ok (.iadd, 1) := by decide +kernel
theorem dX3_weigh_91 : decode cX3_weigh 91 = .ok (.istore 6, 2) := by decide +kernel
theorem dX3_weigh_93 : decode cX3_weigh 93 = .ok (.iinc 8 1, 3) := by decide +kernel
theorem dX3_weigh_96 : decode cX3_weigh 96 = .ok (.goto (-76), 3) := by decide +kernel
theorem dX3_weigh_99 : decode cX3_weigh 99 = .ok (.aload_n 0, 1) := by decide +kernel
theorem dX3_weigh_100 : decode cX3_weigh 100 = .ok (.getfield 21, 3) := by decide +kernel
theorem dX3_weigh_103 : decode cX3_weigh 103 = .ok (.iload_n 1, 1) := by decide +kernel
theorem dX3_weigh_104 : decode cX3_weigh 104 = .ok (.iconst 4, 1) := by decide +kernel
theorem dX3_weigh_105 : decode cX3_weigh 105 = .ok (.imul, 1) := by decide +kernel
theorem dX3_weigh_106 : decode cX3_weigh 106 = .ok (.iload_n 2, 1) := by decide +kernel
theorem dX3_weigh_107 : decode cX3_weigh 107 = .ok (.iadd, 1) := by decide +kernel
theorem dX3_weigh_108 : decode cX3_weigh 108 = .ok (.lload 4, 2) := by decide +kernel
theorem dX3_weigh_110 : decode cX3_weigh 110 = .ok (.lastore, 1) := by decide +kernel
theorem dX3_weigh_111 : decode cX3_weigh 111 = .ok (.iload 6, 2) := by decide +kernel
theorem dX3_weigh_113 : decode cX3_weigh 113 = .ok (.ireturn, 1) := by decide +kernel
theorem dX3_weightOf_0 : decode cX3_weightOf 0 = .ok (.iload_n 1, 1) := by decide +kernel
theorem dX3_weightOf_1 : decode cX3_weightOf 1 = .ok (.aload_n 0, 1) := by decide +kernel
theorem dX3_weightOf_2 : decode cX3_weightOf 2 = .ok (.getfield 35, 3) := by decide +kernel
theorem dX3_weightOf_5 : decode cX3_weightOf 5 = .ok (.iconst 1, 1) := by decide +kernel
theorem dX3_weightOf_6 : decode cX3_weightOf 6 = .ok (.isub, 1) := by decide +kernel
theorem dX3_weightOf_7 : decode cX3_weightOf 7 = .ok (.if_icmp .ne 5, 3) := by decide +kernel
theorem dX3_weightOf_10 : decode cX3_weightOf 10 = .ok (.lconst 1, 1) := by decide +kernel
theorem dX3_weightOf_11 : decode cX3_weightOf 11 = .ok (.lreturn, 1) := by decide +kernel
theorem dX3_weightOf_12 : decode cX3_weightOf 12 = .ok (.aload_n 0, 1) := by decide +kernel
theorem dX3_weightOf_13 : decode cX3_weightOf 13 = .ok (.getfield 18, 3) := by decide +kernel
theorem dX3_weightOf_16 : decode cX3_weightOf 16 = .ok (.iload_n 1, 1) := by decide +kernel
theorem dX3_weightOf_17 : decode cX3_weightOf 17 = .ok (.iaload, 1) := by decide +kernel
theorem dX3_weightOf_18 : decode cX3_weightOf 18 = .ok (.ifCond .ne 7, 3) := by decide +kernel
theorem dX3_weightOf_21 : decode cX3_weightOf 21 = .ok (.ldc2_w 43, 3) := by decide +kernel
theorem dX3_weightOf_24 : decode cX3_weightOf 24 = .ok (.lreturn, 1) := by decide +kernel
theorem dX3_weightOf_25 : decode cX3_weightOf 25 = .ok (.aload_n 0, 1) := by decide +kernel
theorem dX3_weightOf_26 : decode cX3_weightOf 26 = .ok (.getfield 21, 3) := by decide +kernel
theorem dX3_weightOf_29 : decode cX3_weightOf 29 = .ok (.iload_n 1, 1) := by decide +kernel
theorem dX3_weightOf_30 : decode cX3_weightOf 30 = .ok (.iconst 1, 1) := by decide +kernel
theorem dX3_weightOf_31 : decode cX3_weightOf 31 = .ok (.iadd, 1) := by decide +kernel
theorem dX3_weightOf_32 : decode cX3_weightOf 32 = .ok (.iconst 4, 1) := by decide +kernel
theorem dX3_weightOf_33 : decode cX3_weightOf 33 = .ok (.imul, 1) := by decide +kernel
theorem dX3_weightOf_34 : decode cX3_weightOf 34 = .ok (.iload_n 3, 1) := by decide +kernel
theorem dX3_weightOf_35 : decode cX3_weightOf 35 = .ok (.iadd, 1) := by decide +kernel
theorem dX3_weightOf_36 : decode cX3_weightOf 36 = .ok (.laload, 1) := by decide +kernel
theorem dX3_weightOf_37 : decode cX3_weightOf 37 = .ok (.lstore 4, 2) := by decide +kernel
theorem dX3_weightOf_39 : decode cX3_weightOf 39 = .ok (.lload 4, 2) := by decide +kernel
theorem dX3_weightOf_41 : decode cX3_weightOf 41 = .ok (.ldc2_w 43, 3) := by decide +kernel
theorem dX3_weightOf_44 : decode cX3_weightOf 44 = .ok (.lcmp, 1) := by decide +kernel
theorem dX3_weightOf_45 : decode cX3_weightOf 45 = .ok (.ifCond .ne 7, 3) := by decide +kernel
theorem dX3_weightOf_48 : decode cX3_weightOf 48 = .ok (.ldc2_w 43, 3) := by decide +kernel
theorem dX3_weightOf_51 : decode cX3_weightOf 51 = .ok (.lreturn, 1) := by decide +kernel
theorem dX3_weightOf_52 : decode cX3_weightOf 52 = .ok (.aload_n 0, 1) := by decide +kernel
theorem dX3_weightOf_53 : decode cX3_weightOf 53 = .ok (.getfield 9, 3) := by decide +kernel
theorem dX3_weightOf_56 : decode cX3_weightOf 56 = .ok (.iconst 0, 1) := by decide +kernel
theorem dX3_weightOf_57 : decode cX3_weightOf 57 = .ok (.iaload, 1) := by decide +kernel
theorem dX3_weightOf_58 : decode cX3_weightOf 58 = .ok (.iload_n 2, 1) := by decide +kernel
theorem dX3_weightOf_59 : decode cX3_weightOf 59 = .ok (.isub, 1) := by decide +kernel
theorem dX3_weightOf_60 : decode cX3_weightOf 60 = .ok (.istore 6, 2) := by decide +kernel
theorem dX3_weightOf_62 : decode cX3_weightOf 62 = .ok (.iload 6, 2) := by decide +kernel
theorem dX3_weightOf_64 : decode cX3_weightOf 64 = .ok (.iload 6, 2) := by decide +kernel
theorem dX3_weightOf_66 : decode cX3_weightOf 66 = .ok (.imul, 1) := by decide +kernel
theorem dX3_weightOf_67 : decode cX3_weightOf 67 = .ok (.istore 7, 2) := by decide +kernel
theorem dX3_weightOf_69 : decode cX3_weightOf 69 = .ok (.aload_n 0, 1) := by decide +kernel
theorem dX3_weightOf_70 : decode cX3_weightOf 70 = .ok (.getfield 18, 3) := by decide +kernel
theorem dX3_weightOf_73 : decode cX3_weightOf 73 = .ok (.iload_n 1, 1) := by decide +kernel
theorem dX3_weightOf_74 : decode cX3_weightOf 74 = .ok (.iaload, 1) := by decide +kernel
theorem dX3_weightOf_75 : decode cX3_weightOf 75 = .ok (.iconst 2, 1) := by decide +kernel
theorem dX3_weightOf_76 : decode cX3_weightOf 76 = .ok (.if_icmp .ne 29, 3) := by decide +kernel
theorem dX3_weightOf_79 : decode cX3_weightOf 79 = .ok (.iload 7, 2) := by decide +kernel
theorem dX3_weightOf_81 : decode cX3_weightOf 81 = .ok (.aload_n 0, 1) := by decide +kernel
theorem dX3_weightOf_82 : decode cX3_weightOf 82 = .ok (.getfield 9, 3) := by decide +kernel
theorem dX3_weightOf_85 : decode cX3_weightOf 85 = .ok (.iconst 3, 1) := by decide +kernel
theorem dX3_weightOf_86 : decode cX3_weightOf 86 = .ok (.iaload, 1) := by decide +kernel
theorem dX3_weightOf_87 : decode cX3_weightOf 87 = .ok (.iload_n 3, 1) := by decide +kernel
theorem dX3_weightOf_88 : decode cX3_weightOf 88 = .ok (.ifCond .ne 12, 3) := by decide +kernel
theorem dX3_weightOf_91 : decode cX3_weightOf 91 = .ok (.aload_n 0, 1) := by decide +kernel
theorem dX3_weightOf_92 : decode cX3_weightOf 92 = .ok (.getfield 9, 3) := by decide +kernel
theorem dX3_weightOf_95 : decode cX3_weightOf 95 = .ok (.iconst 4, 1) := by decide +kernel
theorem dX3_weightOf_96 : decode cX3_weightOf 96 = .ok (.iaload, 1) := by decide +kernel
theorem dX3_weightOf_97 : decode cX3_weightOf 97 = .ok (.goto 4, 3) := by decide +kernel
theorem dX3_weightOf_100 : decode cX3_weightOf 100 = .ok (.iconst 0, 1) := by decide +kernel
theorem dX3_weightOf_101 : decode cX3_weightOf 101 = .ok (.iadd, 1) := by decide +kernel
theorem dX3_weightOf_102 : decode cX3_weightOf 102 = .ok (.iadd, 1) := by decide +kernel
theorem dX3_weightOf_103 : decode cX3_weightOf 103 = .ok (.istore 7, 2) := by decide +kernel
theorem dX3_weightOf_105 : decode cX3_weightOf 105 = .ok (.lload 4, 2) := by decide +kernel
theorem dX3_weightOf_107 : decode cX3_weightOf 107 = .ok (.iload 7, 2) := by decide +kernel
theorem dX3_weightOf_109 : decode cX3_weightOf 109 = .ok (.i2l, 1) := by decide +kernel
theorem dX3_weightOf_110 : decode cX3_weightOf 110 = .ok (.ldc2_w 49, 3) := by decide +kernel
theorem dX3_weightOf_113 : decode cX3_weightOf 113 = .ok (.lmul, 1) := by decide +kernel
theorem dX3_weightOf_114 : decode cX3_weightOf 114 = .ok (.ladd, 1) := by decide +kernel
theorem dX3_weightOf_115 : decode cX3_weightOf 115 = .ok (.lconst 1, 1) := by decide +kernel
theorem dX3_weightOf_116 : decode cX3_weightOf 116 = .ok (.ladd, 1) := by decide +kernel
theorem dX3_weightOf_117 : decode cX3_weightOf 117 = .ok (.lreturn, 1) := by decide +kernel
theorem dX3_placeBehind_0 : decode cX3_placeBehind 0 = .ok (.iload_n 1, 1) := by decide +kernel
theorem dX3_placeBehind_1 : decode cX3_placeBehind 1 = .ok (.iconst 1, 1) := by decide +kernel
theorem dX3_placeBehind_2 : decode cX3_placeBehind 2 = .ok (.iadd, 1) := by decide +kernel
theorem dX3_placeBehind_3 : decode cX3_placeBehind 3 = .ok (.aload_n 0, 1) := by decide +kernel
theorem dX3_placeBehind_4 : decode cX3_placeBehind 4 = .ok (.getfield 9, 3) := by decide +kernel
theorem dX3_placeBehind_7 : decode cX3_placeBehind 7 = .ok (.iconst 1, 1) := by decide +kernel
theorem dX3_placeBehind_8 : decode cX3_placeBehind 8 = .ok (.iaload, 1) := by decide +kernel
theorem dX3_placeBehind_9 : decode cX3_placeBehind 9 = .ok (.if_icmp .lt 7, 3) := by decide +kernel
theorem dX3_placeBehind_12 : decode cX3_placeBehind 12 = .ok (.iconst 0, 1) := by decide +kernel
theorem dX3_placeBehind_13 : decode cX3_placeBehind 13 = .ok (.goto 6, 3) := by decide +kernel
theorem dX3_placeBehind_16 : decode cX3_placeBehind 16 = .ok (.iload_n 1, 1) := by decide +kernel
theorem dX3_placeBehind_17 : decode cX3_placeBehind 17 = .ok (.iconst 1, 1) := by decide +kernel
theorem dX3_placeBehind_18 : decode cX3_placeBehind 18 = .ok (.iadd, 1) := by decide +kernel
theorem dX3_placeBehind_19 : decode cX3_placeBehind 19 = .ok (.ireturn, 1) := by decide +kernel
set_option maxRecDepth 20000 in
theorem ggX3_layOut_X1_openEmpty : GoodIn wsX3_layOut wsX1_openEmpty := goodIn_r _ [8, 9, 10, 11, 12, 40, 41, 42, 43, 44, 45, 46, 47] (by decide +kernel) (by decide +kernel)
set_option maxRecDepth 20000 in
theorem gX3_layOut_X1_openEmpty : GoodIn wsX3_layOut (wsV RX3 88 RX1 yX1_openEmpty wsX1_openEmpty) := goodIn_app (goodIn_of _ (by decide +kernel)) ggX3_layOut_X1_openEmpty
set_option maxRecDepth 20000 in
theorem ggX3_layOut_X3_weigh : GoodIn wsX3_layOut wsX3_weigh := goodIn_r _ [17, 18, 2, 3, 1, 19, 20, 21, 22, 16, 23, 24, 25, 26, 27, 28, 29, 35, 36, 37, 38, 39] (by decide +kernel) (by decide +kernel)
set_option maxRecDepth 20000 in
theorem gX3_layOut_X3_weigh : GoodIn wsX3_layOut (wsV RX3 39 RX3 yX3_weigh wsX3_weigh) := goodIn_app (goodIn_of _ (by decide +kernel)) ggX3_layOut_X3_weigh
set_option maxRecDepth 20000 in
theorem ggX3_layOut_X1_addColumn : GoodIn wsX3_layOut wsX1_addColumn := goodIn_r _ [33, 34, 10, 12, 11, 40, 41, 42, 43, 44, 45, 46, 47] (by decide +kernel) (by decide +kernel)
set_option maxRecDepth 20000 in
theorem gX3_layOut_X1_addColumn : GoodIn wsX3_layOut (wsV RX3 92 RX1 yX1_addColumn wsX1_addColumn) := goodIn_app (goodIn_of _ (by decide +kernel)) ggX3_layOut_X1_addColumn
set_option maxRecDepth 20000 in
theorem ggX3_layOut_X3_placeBehind : GoodIn wsX3_layOut wsX3_placeBehind := goodIn_r _ [23, 1, 35, 36, 37, 38, 39] (by decide +kernel) (by decide +kernel)
set_option maxRecDepth 20000 in
theorem gX3_layOut_X3_placeBehind : GoodIn wsX3_layOut (wsV RX3 81 RX3 yX3_placeBehind wsX3_placeBehind) := goodIn_app (goodIn_of _ (by decide +kernel)) ggX3_layOut_X3_placeBehind
theorem dX3_layOut_0 : decode cX3_layOut 0 = .ok (.aload_n 1, 1) := by decide +kernel
theorem dX3_layOut_1 : decode cX3_layOut 1 = .ok (.aload_n 0, 1) := by decide +kernel
theorem dX3_layOut_2 : decode cX3_layOut 2 = .ok (.getfield 9, 3) := by decide +kernel
theorem dX3_layOut_5 : decode cX3_layOut 5 = .ok (.iconst 1, 1) := by decide +kernel
theorem dX3_layOut_6 : decode cX3_layOut 6 = .ok (.iaload, 1) := by decide +kernel
theorem dX3_layOut_7 : decode cX3_layOut 7 = .ok (.invokevirtual 88, 3) := by decide +kernel
theorem dX3_layOut_10 : decode cX3_layOut 10 = .ok (.iconst 0, 1) := by decide +kernel
theorem dX3_layOut_11 : decode cX3_layOut 11 = .ok (.istore_n 2, 1) := by decide +kernel
theorem dX3_layOut_12 : decode cX3_layOut 12 = .ok (.iconst 0, 1) := by decide +kernel
theorem dX3_layOut_13 : decode cX3_layOut 13 = .ok (.istore_n 3, 1) := by decide +kernel
theorem dX3_layOut_14 : decode cX3_layOut 14 = .ok (.iconst 0, 1) := by decide +kernel
theorem dX3_layOut_15 : decode cX3_layOut 15 = .ok (.istore 4, 2) := by decide +kernel
theorem dX3_layOut_17 : decode cX3_layOut 17 = .ok (.iload 4, 2) := by decide +kernel
theorem dX3_layOut_19 : decode cX3_layOut 19 = .ok (.sipush 900, 3) := by decide +kernel
theorem dX3_layOut_22 : decode cX3_layOut 22 = .ok (.if_icmp .ge 82, 3) := by decide +kernel
theorem dX3_layOut_25 : decode cX3_layOut 25 = .ok (.iload_n 2, 1) := by decide +kernel
theorem dX3_layOut_26 : decode cX3_layOut 26 = .ok (.aload_n 0, 1) := by decide +kernel
theorem dX3_layOut_27 : decode cX3_layOut 27 = .ok (.getfield 35, 3) := by decide +kernel
theorem dX3_layOut_30 : decode cX3_layOut 30 = .ok (.if_icmp .ge 74, 3) := by decide +kernel
theorem dX3_layOut_33 : decode cX3_layOut 33 = .ok (.aload_n 0, 1) := by decide +kernel
theorem dX3_layOut_34 : decode cX3_layOut 34 = .ok (.iload_n 2, 1) := by decide +kernel
theorem dX3_layOut_35 : decode cX3_layOut 35 = .ok (.iload_n 3, 1) := by decide +kernel
theorem dX3_layOut_36 : decode cX3_layOut 36 = .ok (.invokevirtual 39, 3) := by decide +kernel
theorem dX3_layOut_39 : decode cX3_layOut 39 = .ok (.istore 5, 2) := by decide +kernel
theorem dX3_layOut_41 : decode cX3_layOut 41 = .ok (.iconst 0, 1) := by decide +kernel
theorem dX3_layOut_42 : decode cX3_layOut 42 = .ok (.istore 6, 2) := by decide +kernel
theorem dX3_layOut_44 : decode cX3_layOut 44 = .ok (.iload_n 2, 1) := by decide +kernel
theorem dX3_layOut_45 : decode cX3_layOut 45 = .ok (.istore 7, 2) := by decide +kernel
theorem dX3_layOut_47 : decode cX3_layOut 47 = .ok (.iload 7, 2) := by decide +kernel
theorem dX3_layOut_49 : decode cX3_layOut 49 = .ok (.iload 5, 2) := by decide +kernel
theorem dX3_layOut_51 : decode cX3_layOut 51 = .ok (.if_icmp .ge 21, 3) := by decide +kernel
theorem dX3_layOut_54 : decode cX3_layOut 54 = .ok (.iload 6, 2) := by decide +kernel
theorem dX3_layOut_56 : decode cX3_layOut 56 = .ok (.aload_n 0, 1) := by decide +kernel
theorem dX3_layOut_57 : decode cX3_layOut 57 = .ok (.getfield 15, 3) := by decide +kernel
theorem dX3_layOut_60 : decode cX3_layOut 60 = .ok (.iload 7, 2) := by decide +kernel
theorem dX3_layOut_62 : decode cX3_layOut 62 = .ok (.iaload, 1) := by decide +kernel
theorem dX3_layOut_63 : decode cX3_layOut 63 = .ok (.iadd, 1) := by decide +kernel
theorem dX3_layOut_64 : decode cX3_layOut 64 = .ok (.istore 6, 2) := by decide +kernel
theorem dX3_layOut_66 : decode cX3_layOut 66 = .ok (.iinc 7 1, 3) := by decide +kernel
theorem dX3_layOut_69 : decode cX3_layOut 69 = .ok (.goto (-22), 3) := by decide +kernel
theorem dX3_layOut_72 : decode cX3_layOut 72 = .ok (.aload_n 1, 1) := by decide +kernel
theorem dX3_layOut_73 : decode cX3_layOut 73 = .ok (.iload 5, 2) := by decide +kernel
theorem dX3_layOut_75 : decode cX3_layOut 75 = .ok (.iload 6, 2) := by decide +kernel
theorem dX3_layOut_77 : decode cX3_layOut 77 = .ok (.iload_n 3, 1) := by decide +kernel
theorem dX3_layOut_78 : decode cX3_layOut 78 = .ok (.ifCond .ne 7, 3) := by decide +kernel
theorem dX3_layOut_81 : decode cX3_layOut 81 = .ok (.iconst 1, 1) := by decide +kernel
theorem dX3_layOut_82 : decode cX3_layOut 82 = .ok (.goto 4, 3) := by decide +kernel
theorem dX3_layOut_85 : decode cX3_layOut 85 = .ok (.iconst 0, 1) := by decide +kernel
theorem dX3_layOut_86 : decode cX3_layOut 86 = .ok (.invokevirtual 92, 3) := by decide +kernel
theorem dX3_layOut_89 : decode cX3_layOut 89 = .ok (.iload 5, 2) := by decide +kernel
theorem dX3_layOut_91 : decode cX3_layOut 91 = .ok (.istore_n 2, 1) := by decide +kernel
theorem dX3_layOut_92 : decode cX3_layOut 92 = .ok (.aload_n 0, 1) := by decide +kernel
theorem dX3_layOut_93 : decode cX3_layOut 93 = .ok (.iload_n 3, 1) := by decide +kernel
theorem dX3_layOut_94 : decode cX3_layOut 94 = .ok (.invokevirtual 81, 3) := by decide +kernel
theorem dX3_layOut_97 : decode cX3_layOut 97 = .ok (.istore_n 3, 1) := by decide +kernel
theorem dX3_layOut_98 : decode cX3_layOut 98 = .ok (.iinc 4 1, 3) := by decide +kernel
theorem dX3_layOut_101 : decode cX3_layOut 101 = .ok (.goto (-84), 3) := by decide +kernel
theorem dX3_layOut_104 : decode cX3_layOut 104 = .ok (.return_, 1) := by decide +kernel
