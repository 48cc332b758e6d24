theorem dX4_rowOf_101 : decode cX4_rowOf 101 = .ok (.getfield 25, 3) := by decide +kernel
theorem dX4_rowOf_104 : decode cX4_rowOf 104 = .ok (.getfield 79, 3) := by decide +kernel
theorem dX4_rowOf_107 : decode cX4_rowOf 107 = .ok (.goto 4, 3) := by decide +kernel
theorem dX4_rowOf_110 : decode cX4_rowOf 110 = .ok (.iconst 0, 1) := by decide +kernel
theorem dX4_rowOf_111 : decode cX4_rowOf 111 = .ok (.invokevirtual 156, 3) := by decide +kernel
theorem dX4_rowOf_114 : decode cX4_rowOf 114 = .ok (.iload_n 3, 1) := by decide +kernel
theorem dX4_rowOf_115 : decode cX4_rowOf 115 = .ok (.iload 5, 2) := by decide +kernel
theorem dX4_rowOf_117 : decode cX4_rowOf 117 = .ok (.iadd, 1) := by decide +kernel
theorem dX4_rowOf_118 : decode cX4_rowOf 118 = .ok (.istore_n 3, 1) := by decide +kernel
theorem dX4_rowOf_119 : decode cX4_rowOf 119 = .ok (.goto (-81), 3) := by decide +kernel
theorem dX4_rowOf_122 : decode cX4_rowOf 122 = .ok (.aload_n 2, 1) := by decide +kernel
theorem dX4_rowOf_123 : decode cX4_rowOf 123 = .ok (.iconst 1, 1) := by decide +kernel
theorem dX4_rowOf_124 : decode cX4_rowOf 124 = .ok (.putfield 141, 3) := by decide +kernel
theorem dX4_rowOf_127 : decode cX4_rowOf 127 = .ok (.aload_n 2, 1) := by decide +kernel
theorem dX4_rowOf_128 : decode cX4_rowOf 128 = .ok (.areturn, 1) := by decide +kernel
set_option maxRecDepth 20000 in
theorem ggX4_choose_X0_seekLongest : GoodIn wsX4_choose wsX0_seekLongest := goodIn_r _ [9, 10, 11, 12, 13, 14, 15, 8, 16, 17, 18, 19, 20, 21, 22, 23, 24, 25, 26, 27, 28, 29, 30, 31, 32, 33, 34, 35, 36, 37, 38, 39, 40, 41, 42, 43, 44, 45, 64, 65, 66, 67, 68, 69, 70, 71, 72, 73, 74] (by decide +kernel) (by decide +kernel)
set_option maxRecDepth 20000 in
theorem gX4_choose_X0_seekLongest : GoodIn wsX4_choose (wsV RX4 73 RX0 yX0_seekLongest wsX0_seekLongest) := goodIn_app (goodIn_of _ (by decide +kernel)) ggX4_choose_X0_seekLongest
set_option maxRecDepth 20000 in
theorem ggX4_choose_X0_seekChained : GoodIn wsX4_choose wsX0_seekChained := goodIn_r _ [49, 17, 18, 19, 20, 21, 22, 50, 44, 40, 41, 42, 8, 43, 45, 23, 24, 25, 26, 27, 28, 29, 30, 31, 32, 33, 34, 35, 36, 37, 38, 39, 64, 65, 66, 67, 68, 69, 70, 71, 72, 73, 74] (by decide +kernel) (by decide +kernel)
set_option maxRecDepth 20000 in
theorem gX4_choose_X0_seekChained : GoodIn wsX4_choose (wsV RX4 82 RX0 yX0_seekChained wsX0_seekChained) := goodIn_app (goodIn_of _ (by decide +kernel)) ggX4_choose_X0_seekChained
set_option maxRecDepth 20000 in
theorem ggX4_choose_X0_seekLookingAhead : GoodIn wsX4_choose wsX0_seekLookingAhead := goodIn_r _ [54, 44, 55, 6, 7, 8, 9, 10, 11, 12, 13, 14, 15, 16, 17, 18, 19, 20, 21, 22, 23, 24, 25, 26, 27, 28, 29, 30, 31, 32, 33, 34, 35, 36, 37, 38, 39, 40, 41, 42, 43, 45, 64, 65, 66, 67, 68, 69, 70, 71, 72, 73, 74] (by decide +kernel) (by decide +kernel)
set_option maxRecDepth 20000 in
theorem gX4_choose_X0_seekLookingAhead : GoodIn wsX4_choose (wsV RX4 159 RX0 yX0_seekLookingAhead wsX0_seekLookingAhead) := goodIn_app (goodIn_of _ (by decide +kernel)) ggX4_choose_X0_seekLookingAhead
set_option maxRecDepth 20000 in
theorem ggX4_choose_X0_take : GoodIn wsX4_choose wsX0_take := goodIn_r _ [43, 44, 45, 64, 65, 66, 67, 68, 69, 70, 71] (by decide +kernel) (by decide +kernel)
set_option maxRecDepth 20000 in
theorem gX4_choose_X0_take : GoodIn wsX4_choose (wsV RX4 164 RX0 yX0_take wsX0_take) := goodIn_app (goodIn_of _ (by decide +kernel)) ggX4_choose_X0_take
theorem dX4_choose_0 : decode cX4_choose 0 = .ok (.iload_n 1, 1) := by decide +kernel
theorem dX4_choose_1 : decode cX4_choose 1 = .ok (.tableswitch 60 0 2 #[27, 38, 49], 27) := by decide +kernel
theorem dX4_choose_28 : decode cX4_choose 28 = .ok (.aload_n 0, 1) := by decide +kernel
theorem dX4_choose_29 : decode cX4_choose 29 = .ok (.getfield 25, 3) := by decide +kernel
theorem dX4_choose_32 : decode cX4_choose 32 = .ok (.iload_n 2, 1) := by decide +kernel
theorem dX4_choose_33 : decode cX4_choose 33 = .ok (.invokevirtual 73, 3) := by decide +kernel
theorem dX4_choose_36 : decode cX4_choose 36 = .ok (.goto 50, 3) := by decide +kernel
theorem dX4_choose_39 : decode cX4_choose 39 = .ok (.aload_n 0, 1) := by decide +kernel
theorem dX4_choose_40 : decode cX4_choose 40 = .ok (.getfield 25, 3) := by decide +kernel
theorem dX4_choose_43 : decode cX4_choose 43 = .ok (.iload_n 2, 1) := by decide +kernel
theorem dX4_choose_44 : decode cX4_choose 44 = .ok (.invokevirtual 82, 3) := by decide +kernel
theorem dX4_choose_47 : decode cX4_choose 47 = .ok (.goto 39, 3) := by decide +kernel
theorem dX4_choose_50 : decode cX4_choose 50 = .ok (.aload_n 0, 1) := by decide +kernel
theorem dX4_choose_51 : decode cX4_choose 51 = .ok (.getfield 25, 3) := by decide +kernel
theorem dX4_choose_54 : decode cX4_choose 54 = .ok (.iload_n 2, 1) := by decide +kernel
theorem dX4_choose_55 : decode cX4_choose 55 = .ok (.invokevirtual 159, 3) := by decide +kernel
theorem dX4_choose_58 : decode cX4_choose 58 = .ok (.goto 28, 3) := by decide +kernel
theorem dX4_choose_61 : decode cX4_choose 61 = .ok (.aload_n 0, 1) := by decide +kernel
theorem dX4_choose_62 : decode cX4_choose 62 = .ok (.getfield 25, 3) := by decide +kernel
theorem dX4_choose_65 : decode cX4_choose 65 = .ok (.aload_n 0, 1) := by decide +kernel
theorem dX4_choose_66 : decode cX4_choose 66 = .ok (.getfield 32, 3) := by decide +kernel
theorem dX4_choose_69 : decode cX4_choose 69 = .ok (.getfield 162, 3) := by decide +kernel
theorem dX4_choose_72 : decode cX4_choose 72 = .ok (.iload_n 2, 1) := by decide +kernel
theorem dX4_choose_73 : decode cX4_choose 73 = .ok (.iaload, 1) := by decide +kernel
theorem dX4_choose_74 : decode cX4_choose 74 = .ok (.aload_n 0, 1) := by decide +kernel
theorem dX4_choose_75 : decode cX4_choose 75 = .ok (.getfield 32, 3) := by decide +kernel
theorem dX4_choose_78 : decode cX4_choose 78 = .ok (.getfield 163, 3) := by decide +kernel
theorem dX4_choose_81 : decode cX4_choose 81 = .ok (.iload_n 2, 1) := by decide +kernel
theorem dX4_choose_82 : decode cX4_choose 82 = .ok (.iaload, 1) := by decide +kernel
theorem dX4_choose_83 : decode cX4_choose 83 = .ok (.invokevirtual 164, 3) := by decide +kernel
theorem dX4_choose_86 : decode cX4_choose 86 = .ok (.return_, 1) := by decide +kernel
theorem dX5_init_0 : decode cX5_init 0 = .ok (.aload_n 0, 1) := by decide +kernel
theorem dX5_init_1 : decode cX5_init 1 = .ok (.invokespecial 1, 3) := by decide +kernel
theorem dX5_init_4 : decode cX5_init 4 = .ok (.aload_n 0, 1) := by decide +kernel
theorem dX5_init_5 : decode cX5_init 5 = .ok (.sipush 360, 3) := by decide +kernel
theorem dX5_init_8 : decode cX5_init 8 = .ok (.newarray .int, 2) := by decide +kernel
theorem dX5_init_10 : decode cX5_init 10 = .ok (.putfield 7, 3) := by decide +kernel
theorem dX5_init_13 : decode cX5_init 13 = .ok (.aload_n 0, 1) := by decide +kernel
theorem dX5_init_14 : decode cX5_init 14 = .ok (.iconst 4, 1) := by decide +kernel
theorem dX5_init_15 : decode cX5_init 15 = .ok (.newarray .boolean, 2) := by decide +kernel
theorem dX5_init_17 : decode cX5_init 17 = .ok (.putfield 13, 3) := by decide +kernel
theorem dX5_init_20 : decode cX5_init 20 = .ok (.aload_n 0, 1) := by decide +kernel
theorem dX5_init_21 : decode cX5_init 21 = .ok (.iconst 4, 1) := by decide +kernel
theorem dX5_init_22 : decode cX5_init 22 = .ok (.newarray .int, 2) := by decide +kernel
theorem dX5_init_24 : decode cX5_init 24 = .ok (.putfield 17, 3) := by decide +kernel
theorem dX5_init_27 : decode cX5_init 27 = .ok (.aload_n 0, 1) := by decide +kernel
theorem dX5_init_28 : decode cX5_init 28 = .ok (.sipush 1200, 3) := by decide +kernel
theorem dX5_init_31 : decode cX5_init 31 = .ok (.newarray .int, 2) := by decide +kernel
theorem dX5_init_33 : decode cX5_init 33 = .ok (.putfield 20, 3) := by decide +kernel
theorem dX5_init_36 : decode cX5_init 36 = .ok (.aload_n 0, 1) := by decide +kernel
theorem dX5_init_37 : decode cX5_init 37 = .ok (.sipush 1200, 3) := by decide +kernel
theorem dX5_init_40 : decode cX5_init 40 = .ok (.newarray .int, 2) := by decide +kernel
theorem dX5_init_42 : decode cX5_init 42 = .ok (.putfield 23, 3) := by decide +kernel
theorem dX5_init_45 : decode cX5_init 45 = .ok (.aload_n 0, 1) := by decide +kernel
theorem dX5_init_46 : decode cX5_init 46 = .ok (.sipush 1200, 3) := by decide +kernel
theorem dX5_init_49 : decode cX5_init 49 = .ok (.newarray .int, 2) := by decide +kernel
theorem dX5_init_51 : decode cX5_init 51 = .ok (.putfield 26, 3) := by decide +kernel
theorem dX5_init_54 : decode cX5_init 54 = .ok (.aload_n 0, 1) := by decide +kernel
theorem dX5_init_55 : decode cX5_init 55 = .ok (.sipush 301, 3) := by decide +kernel
theorem dX5_init_58 : decode cX5_init 58 = .ok (.newarray .int, 2) := by decide +kernel
theorem dX5_init_60 : decode cX5_init 60 = .ok (.putfield 29, 3) := by decide +kernel
theorem dX5_init_63 : decode cX5_init 63 = .ok (.aload_n 0, 1) := by decide +kernel
theorem dX5_init_64 : decode cX5_init 64 = .ok (.bipush 41, 2) := by decide +kernel
theorem dX5_init_66 : decode cX5_init 66 = .ok (.newarray .int, 2) := by decide +kernel
theorem dX5_init_68 : decode cX5_init 68 = .ok (.putfield 32, 3) := by decide +kernel
theorem dX5_init_71 : decode cX5_init 71 = .ok (.aload_n 0, 1) := by decide +kernel
theorem dX5_init_72 : decode cX5_init 72 = .ok (.iload_n 1, 1) := by decide +kernel
theorem dX5_init_73 : decode cX5_init 73 = .ok (.iconst 1, 1) := by decide +kernel
theorem dX5_init_74 : decode cX5_init 74 = .ok (.if_icmp .ge 7, 3) := by decide +kernel
theorem dX5_init_77 : decode cX5_init 77 = .ok (.iconst 1, 1) := by decide +kernel
theorem dX5_init_78 : decode cX5_init 78 = .ok (.goto 17, 3) := by decide +kernel
theorem dX5_init_81 : decode cX5_init 81 = .ok (.iload_n 1, 1) := by decide +kernel
theorem dX5_init_82 : decode cX5_init 82 = .ok (.sipush 300, 3) := by decide +kernel
theorem dX5_init_85 : decode cX5_init 85 = .ok (.if_icmp .le 9, 3) := by decide +kernel
theorem dX5_init_88 : decode cX5_init 88 = .ok (.sipush 300, 3) := by decide +kernel
theorem dX5_init_91 : decode cX5_init 91 = .ok (.goto 4, 3) := by decide +kernel
theorem dX5_init_94 : decode cX5_init 94 = .ok (.iload_n 1, 1) := by decide +kernel
theorem dX5_init_95 : decode cX5_init 95 = .ok (.putfield 35, 3) := by decide +kernel
theorem dX5_init_98 : decode cX5_init 98 = .ok (.aload_n 0, 1) := by decide +kernel
theorem dX5_init_99 : decode cX5_init 99 = .ok (.iload_n 2, 1) := by decide +kernel
theorem dX5_init_100 : decode cX5_init 100 = .ok (.iconst 1, 1) := by decide +kernel
theorem dX5_init_101 : decode cX5_init 101 = .ok (.if_icmp .ge 7, 3) := by decide +kernel
theorem dX5_init_104 : decode cX5_init 104 = .ok (.iconst 1, 1) := by decide +kernel
theorem dX5_init_105 : decode cX5_init 105 = .ok (.goto 15, 3) := by decide +kernel
theorem dX5_init_108 : decode cX5_init 108 = .ok (.iload_n 2, 1) := by decide +kernel
theorem dX5_init_109 : decode cX5_init 109 = .ok (.bipush 64, 2) := by decide +kernel
theorem dX5_init_111 : decode cX5_init 111 = .ok (.if_icmp .le 8, 3) := by decide +kernel
theorem dX5_init_114 : decode cX5_init 114 = .ok (.bipush 64, 2) := by decide +kernel
theorem dX5_init_116 : decode cX5_init 116 = .ok (.goto 4, 3) := by decide +kernel
theorem dX5_init_119 : decode cX5_init 119 = .ok (.iload_n 2, 1) := by decide +kernel
theorem dX5_init_120 : decode cX5_init 120 = .ok (.putfield 39, 3) := by decide +kernel
theorem dX5_init_123 : decode cX5_init 123 = .ok (.return_, 1) := by decide +kernel
theorem dX5_thrown_0 : decode cX5_thrown 0 = .ok (.aload_n 0, 1) := by decide +kernel
theorem dX5_thrown_1 : decode cX5_thrown 1 = .ok (.getfield 42, 3) := by decide +kernel
theorem dX5_thrown_4 : decode cX5_thrown 4 = .ok (.ireturn, 1) := by decide +kernel
theorem dX5_in_0 : decode cX5_in 0 = .ok (.iload_n 0, 1) := by decide +kernel
theorem dX5_in_1 : decode cX5_in 1 = .ok (.iload_n 1, 1) := by decide +kernel
theorem dX5_in_2 : decode cX5_in 2 = .ok (.if_icmp .lt 12, 3) := by decide +kernel
theorem dX5_in_5 : decode cX5_in 5 = .ok (.iload_n 0, 1) := by decide +kernel
theorem dX5_in_6 : decode cX5_in 6 = .ok (.iload_n 2, 1) := by decide +kernel
theorem dX5_in_7 : decode cX5_in 7 = .ok (.if_icmp .gt 7, 3) := by decide +kernel
theorem dX5_in_10 : decode cX5_in 10 = .ok (.iconst 1, 1) := by decide +kernel
theorem dX5_in_11 : decode cX5_in 11 = .ok (.goto 4, 3) := by decide +kernel
theorem dX5_in_14 : decode cX5_in 14 = .ok (.iconst 0, 1) := by decide +kernel
theorem dX5_in_15 : decode cX5_in 15 = .ok (.ireturn, 1) := by decide +kernel
theorem dX5_forget_0 : decode cX5_forget 0 = .ok (.iconst 0, 1) := by decide +kernel
theorem dX5_forget_1 : decode cX5_forget 1 = .ok (.istore_n 1, 1) := by decide +kernel
theorem dX5_forget_2 : decode cX5_forget 2 = .ok (.iload_n 1, 1) := by decide +kernel
theorem dX5_forget_3 : decode cX5_forget 3 = .ok (.iconst 4, 1) := by decide +kernel
theorem dX5_forget_4 : decode cX5_forget 4 = .ok (.if_icmp .ge 16, 3) := by decide +kernel
theorem dX5_forget_7 : decode cX5_forget 7 = .ok (.aload_n 0, 1) := by decide +kernel
theorem dX5_forget_8 : decode cX5_forget 8 = .ok (.getfield 13, 3) := by decide +kernel
theorem dX5_forget_11 : decode cX5_forget 11 = .ok (.iload_n 1, 1) := by decide +kernel
theorem dX5_forget_12 : decode cX5_forget 12 = .ok (.iconst 0, 1) := by decide +kernel
theorem dX5_forget_13 : decode cX5_forget 13 = .ok (.bastore, 1) := by decide +kernel
theorem dX5_forget_14 : decode cX5_forget 14 = .ok (.iinc 1 1, 3) := by decide +kernel
theorem dX5_forget_17 : decode cX5_forget 17 = .ok (.goto (-15), 3) := by decide +kernel
theorem dX5_forget_20 : decode cX5_forget 20 = .ok (.return_, 1) := by decide +kernel
theorem dX5_lay_0 : decode cX5_lay 0 = .ok (.aload_n 0, 1) := by decide +kernel
theorem dX5_lay_1 : decode cX5_lay 1 = .ok (.getfield 7, 3) := by decide +kernel
theorem dX5_lay_4 : decode cX5_lay 4 = .ok (.bipush 60, 2) := by decide +kernel
theorem dX5_lay_6 : decode cX5_lay 6 = .ok (.aload_n 0, 1) := by decide +kernel
theorem dX5_lay_7 : decode cX5_lay 7 = .ok (.getfield 45, 3) := by decide +kernel
theorem dX5_lay_10 : decode cX5_lay 10 = .ok (.iadd, 1) := by decide +kernel
theorem dX5_lay_11 : decode cX5_lay 11 = .ok (.iload_n 1, 1) := by decide +kernel
theorem dX5_lay_12 : decode cX5_lay 12 = .ok (.iastore, 1) := by decide +kernel
theorem dX5_lay_13 : decode cX5_lay 13 = .ok (.aload_n 0, 1) := by decide +kernel
theorem dX5_lay_14 : decode cX5_lay 14 = .ok (.dup, 1) := by decide +kernel
theorem dX5_lay_15 : decode cX5_lay 15 = .ok (.getfield 45, 3) := by decide +kernel
theorem dX5_lay_18 : decode cX5_lay 18 = .ok (.iconst 1, 1) := by decide +kernel
theorem dX5_lay_19 : decode cX5_lay 19 = .ok (.iadd, 1) := by decide +kernel
theorem dX5_lay_20 : decode cX5_lay 20 = .ok (.putfield 45, 3) := by decide +kernel
theorem dX5_lay_23 : decode cX5_lay 23 = .ok (.return_, 1) := by decide +kernel
set_option maxRecDepth 20000 in
theorem ggX5_add_X5_in : GoodIn wsX5_add wsX5_in := goodIn_r _ [6] (by decide +kernel) (by decide +kernel)
set_option maxRecDepth 20000 in
theorem gX5_add_X5_in : GoodIn wsX5_add (va_wsS RX5 48 yX5_in wsX5_in) := goodIn_app (goodIn_of _ (by decide +kernel)) ggX5_add_X5_in
set_option maxRecDepth 20000 in
theorem ggX5_add_X5_lay : GoodIn wsX5_add wsX5_lay := goodIn_r _ [10, 11, 2, 17, 18, 19, 20, 21, 22, 23, 24, 25, 26, 27, 28, 29, 30, 31, 32] (by decide +kernel) (by decide +kernel)
set_option maxRecDepth 20000 in
theorem gX5_add_X5_lay : GoodIn wsX5_add (wsV RX5 52 RX5 yX5_lay wsX5_lay) := goodIn_app (goodIn_of _ (by decide +kernel)) ggX5_add_X5_lay
set_option maxRecDepth 20000 in
theorem ggX5_add_X5_forget : GoodIn wsX5_add wsX5_forget := goodIn_r _ [15, 16, 17, 18, 19, 20, 21, 22, 23, 24, 25, 26, 27, 28, 29, 30, 31, 32] (by decide +kernel) (by decide +kernel)
set_option maxRecDepth 20000 in
theorem gX5_add_X5_forget : GoodIn wsX5_add (wsV RX5 56 RX5 yX5_forget wsX5_forget) := goodIn_app (goodIn_of _ (by decide +kernel)) ggX5_add_X5_forget
theorem dX5_add_0 : decode cX5_add 0 = .ok (.aload_n 0, 1) := by decide +kernel
theorem dX5_add_1 : decode cX5_add 1 = .ok (.iconst 0, 1) := by decide +kernel
theorem dX5_add_2 : decode cX5_add 2 = .ok (.putfield 42, 3) := by decide +kernel
theorem dX5_add_5 : decode cX5_add 5 = .ok (.iload_n 1, 1) := by decide +kernel
theorem dX5_add_6 : decode cX5_add 6 = .ok (.iconst 0, 1) := by decide +kernel
theorem dX5_add_7 : decode cX5_add 7 = .ok (.sipush 255, 3) := by decide +kernel
theorem dX5_add_10 : decode cX5_add 10 = .ok (.invokestatic 48, 3) := by decide +kernel
theorem dX5_add_13 : decode cX5_add 13 = .ok (.ifCond .ne 6, 3) := by decide +kernel
theorem dX5_add_16 : decode cX5_add 16 = .ok (.bipush (-2), 2) := by decide +kernel
theorem dX5_add_18 : decode cX5_add 18 = .ok (.ireturn, 1) := by decide +kernel
theorem dX5_add_19 : decode cX5_add 19 = .ok (.aload_n 0, 1) := by decide +kernel
theorem dX5_add_20 : decode cX5_add 20 = .ok (.getfield 45, 3) := by decide +kernel
theorem dX5_add_23 : decode cX5_add 23 = .ok (.sipush 300, 3) := by decide +kernel
theorem dX5_add_26 : decode cX5_add 26 = .ok (.if_icmp .ne 6, 3) := by decide +kernel
theorem dX5_add_29 : decode cX5_add 29 = .ok (.bipush (-4), 2) := by decide +kernel
theorem dX5_add_31 : decode cX5_add 31 = .ok (.ireturn, 1) := by decide +kernel
theorem dX5_add_32 : decode cX5_add 32 = .ok (.aload_n 0, 1) := by decide +kernel
theorem dX5_add_33 : decode cX5_add 33 = .ok (.iload_n 1, 1) := by decide +kernel
theorem dX5_add_34 : decode cX5_add 34 = .ok (.invokevirtual 52, 3) := by decide +kernel
theorem dX5_add_37 : decode cX5_add 37 = .ok (.aload_n 0, 1) := by decide +kernel
theorem dX5_add_38 : decode cX5_add 38 = .ok (.invokevirtual 56, 3) := by decide +kernel
theorem dX5_add_41 : decode cX5_add 41 = .ok (.aload_n 0, 1) := by decide +kernel
theorem dX5_add_42 : decode cX5_add 42 = .ok (.getfield 45, 3) := by decide +kernel
theorem dX5_add_45 : decode cX5_add 45 = .ok (.ireturn, 1) := by decide +kernel
set_option maxRecDepth 20000 in
theorem ggX5_fill_X5_in : GoodIn wsX5_fill wsX5_in := goodIn_r _ [8] (by decide +kernel) (by decide +kernel)
set_option maxRecDepth 20000 in
theorem gX5_fill_X5_in : GoodIn wsX5_fill (va_wsS RX5 48 yX5_in wsX5_in) := goodIn_app (goodIn_of _ (by decide +kernel)) ggX5_fill_X5_in
set_option maxRecDepth 20000 in
theorem ggX5_fill_X5_lay : GoodIn wsX5_fill wsX5_lay := goodIn_r _ [12, 4, 2, 18, 19, 20, 21, 22, 23, 24, 25, 26, 27, 28, 29, 30, 31, 32, 33] (by decide +kernel) (by decide +kernel)
set_option maxRecDepth 20000 in
theorem gX5_fill_X5_lay : GoodIn wsX5_fill (wsV RX5 52 RX5 yX5_lay wsX5_lay) := goodIn_app (goodIn_of _ (by decide +kernel)) ggX5_fill_X5_lay
set_option maxRecDepth 20000 in
theorem ggX5_fill_X5_forget : GoodIn wsX5_fill wsX5_forget := goodIn_r _ [16, 17, 18, 19, 20, 21, 22, 23, 24, 25, 26, 27, 28, 29, 30, 31, 32, 33] (by decide +kernel) (by decide +kernel)
set_option maxRecDepth 20000 in
theorem gX5_fill_X5_forget : GoodIn wsX5_fill (wsV RX5 56 RX5 yX5_forget wsX5_forget) := goodIn_app (goodIn_of _ (by decide +kernel)) ggX5_fill_X5_forget
theorem dX5_fill_0 : decode cX5_fill 0 = .ok (.aload_n 0, 1) := by decide +kernel
theorem dX5_fill_1 : decode cX5_fill 1 = .ok (.iconst 0, 1) := by decide +kernel
theorem dX5_fill_2 : decode cX5_fill 2 = .ok (.putfield 42, 3) := by decide +kernel
theorem dX5_fill_5 : decode cX5_fill 5 = .ok (.iload_n 1, 1) := by decide +kernel
theorem dX5_fill_6 : decode cX5_fill 6 = .ok (.iconst 1, 1) := by decide +kernel
theorem dX5_fill_7 : decode cX5_fill 7 = .ok (.sipush 300, 3) := by decide +kernel
theorem dX5_fill_10 : decode cX5_fill 10 = .ok (.invokestatic 48, 3) := by decide +kernel
theorem dX5_fill_13 : decode cX5_fill 13 = .ok (.ifCond .eq 12, 3) := by decide +kernel
theorem dX5_fill_16 : decode cX5_fill 16 = .ok (.iload_n 3, 1) := by decide +kernel
theorem dX5_fill_17 : decode cX5_fill 17 = .ok (.iconst 0, 1) := by decide +kernel
theorem dX5_fill_18 : decode cX5_fill 18 = .ok (.iconst 2, 1) := by decide +kernel
theorem dX5_fill_19 : decode cX5_fill 19 = .ok (.invokestatic 48, 3) := by decide +kernel
theorem dX5_fill_22 : decode cX5_fill 22 = .ok (.ifCond .ne 6, 3) := by decide +kernel
theorem dX5_fill_25 : decode cX5_fill 25 = .ok (.bipush (-2), 2) := by decide +kernel
theorem dX5_fill_27 : decode cX5_fill 27 = .ok (.ireturn, 1) := by decide +kernel
theorem dX5_fill_28 : decode cX5_fill 28 = .ok (.aload_n 0, 1) := by decide +kernel
theorem dX5_fill_29 : decode cX5_fill 29 = .ok (.getfield 45, 3) := by decide +kernel
theorem dX5_fill_32 : decode cX5_fill 32 = .ok (.iload_n 1, 1) := by decide +kernel
theorem dX5_fill_33 : decode cX5_fill 33 = .ok (.iadd, 1) := by decide +kernel
theorem dX5_fill_34 : decode cX5_fill 34 = .ok (.sipush 300, 3) := by decide +kernel
theorem dX5_fill_37 : decode cX5_fill 37 = .ok (.if_icmp .le 6, 3) := by decide +kernel
theorem dX5_fill_40 : decode cX5_fill 40 = .ok (.bipush (-4), 2) := by decide +kernel
theorem dX5_fill_42 : decode cX5_fill 42 = .ok (.ireturn, 1) := by decide +kernel
theorem dX5_fill_43 : decode cX5_fill 43 = .ok (.iload_n 2, 1) := by decide +kernel
theorem dX5_fill_44 : decode cX5_fill 44 = .ok (.istore 4, 2) := by decide +kernel
theorem dX5_fill_46 : decode cX5_fill 46 = .ok (.iconst 1, 1) := by decide +kernel
theorem dX5_fill_47 : decode cX5_fill 47 = .ok (.iload_n 2, 1) := by decide +kernel
theorem dX5_fill_48 : decode cX5_fill 48 = .ok (.bipush 27, 2) := by decide +kernel
theorem dX5_fill_50 : decode cX5_fill 50 = .ok (.iushr, 1) := by decide +kernel
theorem dX5_fill_51 : decode cX5_fill 51 = .ok (.iadd, 1) := by decide +kernel
theorem dX5_fill_52 : decode cX5_fill 52 = .ok (.istore 5, 2) := by decide +kernel
theorem dX5_fill_54 : decode cX5_fill 54 = .ok (.iconst 0, 1) := by decide +kernel
theorem dX5_fill_55 : decode cX5_fill 55 = .ok (.istore 6, 2) := by decide +kernel
theorem dX5_fill_57 : decode cX5_fill 57 = .ok (.iload 6, 2) := by decide +kernel
theorem dX5_fill_59 : decode cX5_fill 59 = .ok (.iload_n 1, 1) := by decide +kernel
theorem dX5_fill_60 : decode cX5_fill 60 = .ok (.if_icmp .ge 95, 3) := by decide +kernel
theorem dX5_fill_63 : decode cX5_fill 63 = .ok (.iload 4, 2) := by decide +kernel
theorem dX5_fill_65 : decode cX5_fill 65 = .ok (.ldc 59, 2) := by decide +kernel
theorem dX5_fill_67 : decode cX5_fill 67 = .ok (.imul, 1) := by decide +kernel
theorem dX5_fill_68 : decode cX5_fill 68 = .ok (.sipush 12345, 3) := by decide +kernel
theorem dX5_fill_71 : decode cX5_fill 71 = .ok (.iadd, 1) := by decide +kernel
theorem dX5_fill_72 : decode cX5_fill 72 = .ok (.istore 4, 2) := by decide +kernel
theorem dX5_fill_74 : decode cX5_fill 74 = .ok (.iload 4, 2) := by decide +kernel
theorem dX5_fill_76 : decode cX5_fill 76 = .ok (.bipush 16, 2) := by decide +kernel
theorem dX5_fill_78 : decode cX5_fill 78 = .ok (.iushr, 1) := by decide +kernel
theorem dX5_fill_79 : decode cX5_fill 79 = .ok (.istore 7, 2) := by decide +kernel
theorem dX5_fill_81 : decode cX5_fill 81 = .ok (.aload_n 0, 1) := by decide +kernel
theorem dX5_fill_82 : decode cX5_fill 82 = .ok (.iload_n 3, 1) := by decide +kernel
theorem dX5_fill_83 : decode cX5_fill 83 = .ok (.ifCond .ne 12, 3) := by decide +kernel
theorem dX5_fill_86 : decode cX5_fill 86 = .ok (.iload 7, 2) := by decide +kernel
theorem dX5_fill_88 : decode cX5_fill 88 = .ok (.sipush 256, 3) := by decide +kernel
theorem dX5_fill_91 : decode cX5_fill 91 = .ok (.irem, 1) := by decide +kernel
theorem dX5_fill_92 : decode cX5_fill 92 = .ok (.goto 54, 3) := by decide +kernel
theorem dX5_fill_95 : decode cX5_fill 95 = .ok (.iload_n 3, 1) := by decide +kernel
theorem dX5_fill_96 : decode cX5_fill 96 = .ok (.iconst 1, 1) := by decide +kernel
theorem dX5_fill_97 : decode cX5_fill 97 = .ok (.if_icmp .ne 10, 3) := by decide +kernel
theorem dX5_fill_100 : decode cX5_fill 100 = .ok (.iload 7, 2) := by decide +kernel
theorem dX5_fill_102 : decode cX5_fill 102 = .ok (.iconst 3, 1) := by decide +kernel
theorem dX5_fill_103 : decode cX5_fill 103 = .ok (.irem, 1) := by decide +kernel
theorem dX5_fill_104 : decode cX5_fill 104 = .ok (.goto 42, 3) := by decide +kernel
theorem dX5_fill_107 : decode cX5_fill 107 = .ok (.iload 7, 2) := by decide +kernel
theorem dX5_fill_109 : decode cX5_fill 109 = .ok (.bipush 8, 2) := by decide +kernel
theorem dX5_fill_111 : decode cX5_fill 111 = .ok (.irem, 1) := by decide +kernel
theorem dX5_fill_112 : decode cX5_fill 112 = .ok (.ifCond .eq 30, 3) := by decide +kernel
theorem dX5_fill_115 : decode cX5_fill 115 = .ok (.aload_n 0, 1) := by decide +kernel
theorem dX5_fill_116 : decode cX5_fill 116 = .ok (.getfield 45, 3) := by decide +kernel
theorem dX5_fill_119 : decode cX5_fill 119 = .ok (.iload 5, 2) := by decide +kernel
theorem dX5_fill_121 : decode cX5_fill 121 = .ok (.if_icmp .lt 21, 3) := by decide +kernel
theorem dX5_fill_124 : decode cX5_fill 124 = .ok (.aload_n 0, 1) := by decide +kernel
theorem dX5_fill_125 : decode cX5_fill 125 = .ok (.getfield 7, 3) := by decide +kernel
theorem dX5_fill_128 : decode cX5_fill 128 = .ok (.bipush 60, 2) := by decide +kernel
theorem dX5_fill_130 : decode cX5_fill 130 = .ok (.aload_n 0, 1) := by decide +kernel
theorem dX5_fill_131 : decode cX5_fill 131 = .ok (.getfield 45, 3) := by decide +kernel
theorem dX5_fill_134 : decode cX5_fill 134 = .ok (.iadd, 1) := by decide +kernel
theorem dX5_fill_135 : decode cX5_fill 135 = .ok (.iload 5, 2) := by decide +kernel
theorem dX5_fill_137 : decode cX5_fill 137 = .ok (.isub, 1) := by decide +kernel
theorem dX5_fill_138 : decode cX5_fill 138 = .ok (.iaload, 1) := by decide +kernel
theorem dX5_fill_139 : decode cX5_fill 139 = .ok (.goto 7, 3) := by decide +kernel
theorem dX5_fill_142 : decode cX5_fill 142 = .ok (.iload 7, 2) := by decide +kernel
theorem dX5_fill_144 : decode cX5_fill 144 = .ok (.iconst 4, 1) := by decide +kernel
theorem dX5_fill_145 : decode cX5_fill 145 = .ok (.irem, 1) := by decide +kernel
theorem dX5_fill_146 : decode cX5_fill 146 = .ok (.invokevirtual 52, 3) := by decide +kernel
theorem dX5_fill_149 : decode cX5_fill 149 = .ok (.iinc 6 1, 3) := by decide +kernel
theorem dX5_fill_152 : decode cX5_fill 152 = .ok (.goto (-95), 3) := by decide +kernel
theorem dX5_fill_155 : decode cX5_fill 155 = .ok (.aload_n 0, 1) := by decide +kernel
theorem dX5_fill_156 : decode cX5_fill 156 = .ok (.invokevirtual 56, 3) := by decide +kernel
theorem dX5_fill_159 : decode cX5_fill 159 = .ok (.aload_n 0, 1) := by decide +kernel
theorem dX5_fill_160 : decode cX5_fill 160 = .ok (.getfield 45, 3) := by decide +kernel
theorem dX5_fill_163 : decode cX5_fill 163 = .ok (.ireturn, 1) := by decide +kernel
set_option maxRecDepth 20000 in
theorem ggX5_clear_X5_forget : GoodIn wsX5_clear wsX5_forget := goodIn_r _ [7, 8, 9, 10, 11, 12, 13, 14, 15, 16, 17, 18, 19, 20, 21, 22, 23, 24] (by decide +kernel) (by decide +kernel)
set_option maxRecDepth 20000 in
theorem gX5_clear_X5_forget : GoodIn wsX5_clear (wsV RX5 56 RX5 yX5_forget wsX5_forget) := goodIn_app (goodIn_of _ (by decide +kernel)) ggX5_clear_X5_forget
theorem dX5_clear_0 : decode cX5_clear 0 = .ok (.aload_n 0, 1) := by decide +kernel
theorem dX5_clear_1 : decode cX5_clear 1 = .ok (.iconst 0, 1) := by decide +kernel
theorem dX5_clear_2 : decode cX5_clear 2 = .ok (.putfield 42, 3) := by decide +kernel
theorem dX5_clear_5 : decode cX5_clear 5 = .ok (.aload_n 0, 1) := by decide +kernel
theorem dX5_clear_6 : decode cX5_clear 6 = .ok (.getfield 45, 3) := by decide +kernel
theorem dX5_clear_9 : decode cX5_clear 9 = .ok (.istore_n 1, 1) := by decide +kernel
theorem dX5_clear_10 : decode cX5_clear 10 = .ok (.aload_n 0, 1) := by decide +kernel
theorem dX5_clear_11 : decode cX5_clear 11 = .ok (.iconst 0, 1) := by decide +kernel
theorem dX5_clear_12 : decode cX5_clear 12 = .ok (.putfield 45, 3) := by decide +kernel
theorem dX5_clear_15 : decode cX5_clear 15 = .ok (.aload_n 0, 1) := by decide +kernel
theorem dX5_clear_16 : decode cX5_clear 16 = .ok (.invokevirtual 56, 3) := by decide +kernel
theorem dX5_clear_19 : decode cX5_clear 19 = .ok (.iload_n 1, 1) := by decide +kernel
theorem dX5_clear_20 : decode cX5_clear 20 = .ok (.ireturn, 1) := by decide +kernel
set_option maxRecDepth 20000 in
theorem ggX5_dictionary_X5_forget : GoodIn wsX5_dictionary wsX5_forget := goodIn_r _ [9, 10, 11, 12, 13, 14, 15, 16, 17, 18, 19, 20, 21, 22, 23, 24, 25, 26] (by decide +kernel) (by decide +kernel)
set_option maxRecDepth 20000 in
theorem gX5_dictionary_X5_forget : GoodIn wsX5_dictionary (wsV RX5 56 RX5 yX5_forget wsX5_forget) := goodIn_app (goodIn_of _ (by decide +kernel)) ggX5_dictionary_X5_forget
theorem dX5_dictionary_0 : decode cX5_dictionary 0 = .ok (.aload_n 0, 1) := by decide +kernel
theorem dX5_dictionary_1 : decode cX5_dictionary 1 = .ok (.iconst 0, 1) := by decide +kernel
theorem dX5_dictionary_2 : decode cX5_dictionary 2 = .ok (.putfield 42, 3) := by decide +kernel
theorem dX5_dictionary_5 : decode cX5_dictionary 5 = .ok (.aload_n 0, 1) := by decide +kernel
theorem dX5_dictionary_6 : decode cX5_dictionary 6 = .ok (.aload_n 0, 1) := by decide +kernel
theorem dX5_dictionary_7 : decode cX5_dictionary 7 = .ok (.getfield 45, 3) := by decide +kernel
theorem dX5_dictionary_10 : decode cX5_dictionary 10 = .ok (.bipush 60, 2) := by decide +kernel
theorem dX5_dictionary_12 : decode cX5_dictionary 12 = .ok (.if_icmp .le 8, 3) := by decide +kernel
theorem dX5_dictionary_15 : decode cX5_dictionary 15 = .ok (.bipush 60, 2) := by decide +kernel
theorem dX5_dictionary_17 : decode cX5_dictionary 17 = .ok (.goto 7, 3) := by decide +kernel
theorem dX5_dictionary_20 : decode cX5_dictionary 20 = .ok (.aload_n 0, 1) := by decide +kernel
theorem dX5_dictionary_21 : decode cX5_dictionary 21 = .ok (.getfield 45, 3) := by decide +kernel
theorem dX5_dictionary_24 : decode cX5_dictionary 24 = .ok (.putfield 60, 3) := by decide +kernel
theorem dX5_dictionary_27 : decode cX5_dictionary 27 = .ok (.iconst 0, 1) := by decide +kernel
theorem dX5_dictionary_28 : decode cX5_dictionary 28 = .ok (.istore_n 1, 1) := by decide +kernel
theorem dX5_dictionary_29 : decode cX5_dictionary 29 = .ok (.iload_n 1, 1) := by decide +kernel
theorem dX5_dictionary_30 : decode cX5_dictionary 30 = .ok (.aload_n 0, 1) := by decide +kernel
theorem dX5_dictionary_31 : decode cX5_dictionary 31 = .ok (.getfield 60, 3) := by decide +kernel
theorem dX5_dictionary_34 : decode cX5_dictionary 34 = .ok (.if_icmp .ge 42, 3) := by decide +kernel
theorem dX5_dictionary_37 : decode cX5_dictionary 37 = .ok (.aload_n 0, 1) := by decide +kernel
theorem dX5_dictionary_38 : decode cX5_dictionary 38 = .ok (.getfield 7, 3) := by decide +kernel
theorem dX5_dictionary_41 : decode cX5_dictionary 41 = .ok (.bipush 60, 2) := by decide +kernel
theorem dX5_dictionary_43 : decode cX5_dictionary 43 = .ok (.aload_n 0, 1) := by decide +kernel
theorem dX5_dictionary_44 : decode cX5_dictionary 44 = .ok (.getfield 60, 3) := by decide +kernel
theorem dX5_dictionary_47 : decode cX5_dictionary 47 = .ok (.isub, 1) := by decide +kernel
theorem dX5_dictionary_48 : decode cX5_dictionary 48 = .ok (.iload_n 1, 1) := by decide +kernel
theorem dX5_dictionary_49 : decode cX5_dictionary 49 = .ok (.iadd, 1) := by decide +kernel
theorem dX5_dictionary_50 : decode cX5_dictionary 50 = .ok (.aload_n 0, 1) := by decide +kernel
theorem dX5_dictionary_51 : decode cX5_dictionary 51 = .ok (.getfield 7, 3) := by decide +kernel
theorem dX5_dictionary_54 : decode cX5_dictionary 54 = .ok (.bipush 60, 2) := by decide +kernel
theorem dX5_dictionary_56 : decode cX5_dictionary 56 = .ok (.aload_n 0, 1) := by decide +kernel
theorem dX5_dictionary_57 : decode cX5_dictionary 57 = .ok (.getfield 45, 3) := by decide +kernel
theorem dX5_dictionary_60 : decode cX5_dictionary 60 = .ok (.iadd, 1) := by decide +kernel
theorem dX5_dictionary_61 : decode cX5_dictionary 61 = .ok (.aload_n 0, 1) := by decide +kernel
theorem dX5_dictionary_62 : decode cX5_dictionary 62 = .ok (.getfield 60, 3) := by decide +kernel
theorem dX5_dictionary_65 : decode cX5_dictionary 65 = .ok (.isub, 1) := by decide +kernel
theorem dX5_dictionary_66 : decode cX5_dictionary 66 = .ok (.iload_n 1, 1) := by decide +kernel
theorem dX5_dictionary_67 : decode cX5_dictionary 67 = .ok (.iadd, 1) := by decide +kernel
theorem dX5_dictionary_68 : decode cX5_dictionary 68 = .ok (.iaload, 1) := by decide +kernel
theorem dX5_dictionary_69 : decode cX5_dictionary 69 = .ok (.iastore, 1) := by decide +kernel
theorem dX5_dictionary_70 : decode cX5_dictionary 70 = .ok (.iinc 1 1, 3) := by decide +kernel
theorem dX5_dictionary_73 : decode cX5_dictionary 73 = .ok (.goto (-44), 3) := by decide +kernel
theorem dX5_dictionary_76 : decode cX5_dictionary 76 = .ok (.aload_n 0, 1) := by decide +kernel
theorem dX5_dictionary_77 : decode cX5_dictionary 77 = .ok (.iconst 0, 1) := by decide +kernel
theorem dX5_dictionary_78 : decode cX5_dictionary 78 = .ok (.putfield 45, 3) := by decide +kernel
theorem dX5_dictionary_81 : decode cX5_dictionary 81 = .ok (.aload_n 0, 1) := by decide +kernel
theorem dX5_dictionary_82 : decode cX5_dictionary 82 = .ok (.invokevirtual 56, 3) := by decide +kernel
theorem dX5_dictionary_85 : decode cX5_dictionary 85 = .ok (.aload_n 0, 1) := by decide +kernel
theorem dX5_dictionary_86 : decode cX5_dictionary 86 = .ok (.getfield 60, 3) := by decide +kernel
theorem dX5_dictionary_89 : decode cX5_dictionary 89 = .ok (.ireturn, 1) := by decide +kernel
theorem dX5_size_0 : decode cX5_size 0 = .ok (.aload_n 0, 1) := by decide +kernel
theorem dX5_size_1 : decode cX5_size 1 = .ok (.iconst 0, 1) := by decide +kernel
theorem dX5_size_2 : decode cX5_size 2 = .ok (.putfield 42, 3) := by decide +kernel
theorem dX5_size_5 : decode cX5_size 5 = .ok (.iload_n 1, 1) := by decide +kernel
theorem dX5_size_6 : decode cX5_size 6 = .ok (.ifCond .ne 10, 3) := by decide +kernel
theorem dX5_size_9 : decode cX5_size 9 = .ok (.aload_n 0, 1) := by decide +kernel
theorem dX5_size_10 : decode cX5_size 10 = .ok (.getfield 45, 3) := by decide +kernel
theorem dX5_size_13 : decode cX5_size 13 = .ok (.goto 17, 3) := by decide +kernel
theorem dX5_size_16 : decode cX5_size 16 = .ok (.iload_n 1, 1) := by decide +kernel
theorem dX5_size_17 : decode cX5_size 17 = .ok (.iconst 1, 1) := by decide +kernel
theorem dX5_size_18 : decode cX5_size 18 = .ok (.if_icmp .ne 10, 3) := by decide +kernel
theorem dX5_size_21 : decode cX5_size 21 = .ok (.aload_n 0, 1) := by decide +kernel
theorem dX5_size_22 : decode cX5_size 22 = .ok (.getfield 60, 3) := by decide +kernel
theorem dX5_size_25 : decode cX5_size 25 = .ok (.goto 5, 3) := by decide +kernel
theorem dX5_size_28 : decode cX5_size 28 = .ok (.bipush (-2), 2) := by decide +kernel
theorem dX5_size_30 : decode cX5_size 30 = .ok (.ireturn, 1) := by decide +kernel
set_option maxRecDepth 20000 in
theorem ggX5_octet_X5_in : GoodIn wsX5_octet wsX5_in := goodIn_r _ [8] (by decide +kernel) (by decide +kernel)
set_option maxRecDepth 20000 in
theorem gX5_octet_X5_in : GoodIn wsX5_octet (va_wsS RX5 48 yX5_in wsX5_in) := goodIn_app (goodIn_of _ (by decide +kernel)) ggX5_octet_X5_in
theorem dX5_octet_0 : decode cX5_octet 0 = .ok (.aload_n 0, 1) := by decide +kernel
theorem dX5_octet_1 : decode cX5_octet 1 = .ok (.iconst 0, 1) := by decide +kernel
theorem dX5_octet_2 : decode cX5_octet 2 = .ok (.putfield 42, 3) := by decide +kernel
theorem dX5_octet_5 : decode cX5_octet 5 = .ok (.iload_n 1, 1) := by decide +kernel
theorem dX5_octet_6 : decode cX5_octet 6 = .ok (.aload_n 0, 1) := by decide +kernel
theorem dX5_octet_7 : decode cX5_octet 7 = .ok (.getfield 60, 3) := by decide +kernel
theorem dX5_octet_10 : decode cX5_octet 10 = .ok (.ineg, 1) := by decide +kernel
theorem dX5_octet_11 : decode cX5_octet 11 = .ok (.aload_n 0, 1) := by decide +kernel
theorem dX5_octet_12 : decode cX5_octet 12 = .ok (.getfield 45, 3) := by decide +kernel
theorem dX5_octet_15 : decode cX5_octet 15 = .ok (.iconst 1, 1) := by decide +kernel
theorem dX5_octet_16 : decode cX5_octet 16 = .ok (.isub, 1) := by decide +kernel
theorem dX5_octet_17 : decode cX5_octet 17 = .ok (.invokestatic 48, 3) := by decide +kernel
theorem dX5_octet_20 : decode cX5_octet 20 = .ok (.ifCond .eq 15, 3) := by decide +kernel
theorem dX5_octet_23 : decode cX5_octet 23 = .ok (.aload_n 0, 1) := by decide +kernel
theorem dX5_octet_24 : decode cX5_octet 24 = .ok (.getfield 7, 3) := by decide +kernel
theorem dX5_octet_27 : decode cX5_octet 27 = .ok (.bipush 60, 2) := by decide +kernel
theorem dX5_octet_29 : decode cX5_octet 29 = .ok (.iload_n 1, 1) := by decide +kernel
theorem dX5_octet_30 : decode cX5_octet 30 = .ok (.iadd, 1) := by decide +kernel
theorem dX5_octet_31 : decode cX5_octet 31 = .ok (.iaload, 1) := by decide +kernel
theorem dX5_octet_32 : decode cX5_octet 32 = .ok (.goto 4, 3) := by decide +kernel
theorem dX5_octet_35 : decode cX5_octet 35 = .ok (.iconst (-1), 1) := by decide +kernel
theorem dX5_octet_36 : decode cX5_octet 36 = .ok (.ireturn, 1) := by decide +kernel
theorem dX5_longAt_0 : decode cX5_longAt 0 = .ok (.iload_n 2, 1) := by decide +kernel
theorem dX5_longAt_1 : decode cX5_longAt 1 = .ok (.iload_n 1, 1) := by decide +kernel
theorem dX5_longAt_2 : decode cX5_longAt 2 = .ok (.aload_n 0, 1) := by decide +kernel
theorem dX5_longAt_3 : decode cX5_longAt 3 = .ok (.getfield 60, 3) := by decide +kernel
theorem dX5_longAt_6 : decode cX5_longAt 6 = .ok (.iadd, 1) := by decide +kernel
theorem dX5_longAt_7 : decode cX5_longAt 7 = .ok (.if_icmp .le 5, 3) := by decide +kernel
theorem dX5_longAt_10 : decode cX5_longAt 10 = .ok (.iconst 0, 1) := by decide +kernel
theorem dX5_longAt_11 : decode cX5_longAt 11 = .ok (.ireturn, 1) := by decide +kernel
theorem dX5_longAt_12 : decode cX5_longAt 12 = .ok (.iconst 0, 1) := by decide +kernel
theorem dX5_longAt_13 : decode cX5_longAt 13 = .ok (.istore_n 3, 1) := by decide +kernel
theorem dX5_longAt_14 : decode cX5_longAt 14 = .ok (.iload_n 3, 1) := by decide +kernel
theorem dX5_longAt_15 : decode cX5_longAt 15 = .ok (.bipush 40, 2) := by decide +kernel
theorem dX5_longAt_17 : decode cX5_longAt 17 = .ok (.if_icmp .ge 46, 3) := by decide +kernel
theorem dX5_longAt_20 : decode cX5_longAt 20 = .ok (.iload_n 1, 1) := by decide +kernel
theorem dX5_longAt_21 : decode cX5_longAt 21 = .ok (.iload_n 3, 1) := by decide +kernel
theorem dX5_longAt_22 : decode cX5_longAt 22 = .ok (.iadd, 1) := by decide +kernel
theorem dX5_longAt_23 : decode cX5_longAt 23 = .ok (.aload_n 0, 1) := by decide +kernel
theorem dX5_longAt_24 : decode cX5_longAt 24 = .ok (.getfield 45, 3) := by decide +kernel
theorem dX5_longAt_27 : decode cX5_longAt 27 = .ok (.if_icmp .ge 36, 3) := by decide +kernel
theorem dX5_longAt_30 : decode cX5_longAt 30 = .ok (.aload_n 0, 1) := by decide +kernel
theorem dX5_longAt_31 : decode cX5_longAt 31 = .ok (.getfield 7, 3) := by decide +kernel
theorem dX5_longAt_34 : decode cX5_longAt 34 = .ok (.bipush 60, 2) := by decide +kernel
theorem dX5_longAt_36 : decode cX5_longAt 36 = .ok (.iload_n 1, 1) := by decide +kernel
theorem dX5_longAt_37 : decode cX5_longAt 37 = .ok (.iadd, 1) := by decide +kernel
theorem dX5_longAt_38 : decode cX5_longAt 38 = .ok (.iload_n 3, 1) := by decide +kernel
theorem dX5_longAt_39 : decode cX5_longAt 39 = .ok (.iadd, 1) := by decide +kernel
theorem dX5_longAt_40 : decode cX5_longAt 40 = .ok (.iaload, 1) := by decide +kernel
theorem dX5_longAt_41 : decode cX5_longAt 41 = .ok (.aload_n 0, 1) := by decide +kernel
theorem dX5_longAt_42 : decode cX5_longAt 42 = .ok (.getfield 7, 3) := by decide +kernel
theorem dX5_longAt_45 : decode cX5_longAt 45 = .ok (.bipush 60, 2) := by decide +kernel
theorem dX5_longAt_47 : decode cX5_longAt 47 = .ok (.iload_n 1, 1) := by decide +kernel
theorem dX5_longAt_48 : decode cX5_longAt 48 = .ok (.iadd, 1) := by decide +kernel
theorem dX5_longAt_49 : decode cX5_longAt 49 = .ok (.iload_n 3, 1) := by decide +kernel
theorem dX5_longAt_50 : decode cX5_longAt 50 = .ok (.iadd, 1) := by decide +kernel
theorem dX5_longAt_51 : decode cX5_longAt 51 = .ok (.iload_n 2, 1) := by decide +kernel
theorem dX5_longAt_52 : decode cX5_longAt 52 = .ok (.isub, 1) := by decide +kernel
theorem dX5_longAt_53 : decode cX5_longAt 53 = .ok (.iaload, 1) := by decide +kernel
theorem dX5_longAt_54 : decode cX5_longAt 54 = .ok (.if_icmp .ne 9, 3) := by decide +kernel
theorem dX5_longAt_57 : decode cX5_longAt 57 = .ok (.iinc 3 1, 3) := by decide +kernel
theorem dX5_longAt_60 : decode cX5_longAt 60 = .ok (.goto (-46), 3) := by decide +kernel
theorem dX5_longAt_63 : decode cX5_longAt 63 = .ok (.iload_n 3, 1) := by decide +kernel
theorem dX5_longAt_64 : decode cX5_longAt 64 = .ok (.iconst 3, 1) := by decide +kernel
theorem dX5_longAt_65 : decode cX5_longAt 65 = .ok (.if_icmp .ge 7, 3) := by decide +kernel
theorem dX5_longAt_68 : decode cX5_longAt 68 = .ok (.iconst 0, 1) := by decide +kernel
theorem dX5_longAt_69 : decode cX5_longAt 69 = .ok (.goto 4, 3) := by decide +kernel
theorem dX5_longAt_72 : decode cX5_longAt 72 = .ok (.iload_n 3, 1) := by decide +kernel
theorem dX5_longAt_73 : decode cX5_longAt 73 = .ok (.ireturn, 1) := by decide +kernel
set_option maxRecDepth 20000 in
theorem ggX5_find_X5_longAt : GoodIn wsX5_find wsX5_longAt := goodIn_r _ [8, 9, 10, 11, 12, 13, 14, 15, 16, 17, 18, 19, 20, 21, 22, 23, 24, 25, 26, 27] (by decide +kernel) (by decide +kernel)
set_option maxRecDepth 20000 in
theorem gX5_find_X5_longAt : GoodIn wsX5_find (wsV RX5 69 RX5 yX5_longAt wsX5_longAt) := goodIn_app (goodIn_of _ (by decide +kernel)) ggX5_find_X5_longAt
theorem dX5_find_0 : decode cX5_find 0 = .ok (.aload_n 0, 1) := by decide +kernel
theorem dX5_find_1 : decode cX5_find 1 = .ok (.iconst 0, 1) := by decide +kernel
theorem dX5_find_2 : decode cX5_find 2 = .ok (.putfield 63, 3) := by decide +kernel
theorem dX5_find_5 : decode cX5_find 5 = .ok (.aload_n 0, 1) := by decide +kernel
theorem dX5_find_6 : decode cX5_find 6 = .ok (.iconst 0, 1) := by decide +kernel
theorem dX5_find_7 : decode cX5_find 7 = .ok (.putfield 66, 3) := by decide +kernel
theorem dX5_find_10 : decode cX5_find 10 = .ok (.iconst 0, 1) := by decide +kernel
theorem dX5_find_11 : decode cX5_find 11 = .ok (.istore_n 3, 1) := by decide +kernel
theorem dX5_find_12 : decode cX5_find 12 = .ok (.iconst 1, 1) := by decide +kernel
theorem dX5_find_13 : decode cX5_find 13 = .ok (.istore 4, 2) := by decide +kernel
theorem dX5_find_15 : decode cX5_find 15 = .ok (.iload 4, 2) := by decide +kernel
theorem dX5_find_17 : decode cX5_find 17 = .ok (.aload_n 0, 1) := by decide +kernel
theorem dX5_find_18 : decode cX5_find 18 = .ok (.getfield 35, 3) := by decide +kernel
theorem dX5_find_21 : decode cX5_find 21 = .ok (.if_icmp .gt 57, 3) := by decide +kernel
theorem dX5_find_24 : decode cX5_find 24 = .ok (.iload_n 3, 1) := by decide +kernel
theorem dX5_find_25 : decode cX5_find 25 = .ok (.iload_n 2, 1) := by decide +kernel
theorem dX5_find_26 : decode cX5_find 26 = .ok (.if_icmp .ge 52, 3) := by decide +kernel
theorem dX5_find_29 : decode cX5_find 29 = .ok (.aload_n 0, 1) := by decide +kernel
theorem dX5_find_30 : decode cX5_find 30 = .ok (.iload_n 1, 1) := by decide +kernel
theorem dX5_find_31 : decode cX5_find 31 = .ok (.iload 4, 2) := by decide +kernel
theorem dX5_find_33 : decode cX5_find 33 = .ok (.invokevirtual 69, 3) := by decide +kernel
theorem dX5_find_36 : decode cX5_find 36 = .ok (.istore 5, 2) := by decide +kernel
theorem dX5_find_38 : decode cX5_find 38 = .ok (.iload_n 3, 1) := by decide +kernel
theorem dX5_find_39 : decode cX5_find 39 = .ok (.iload 5, 2) := by decide +kernel
theorem dX5_find_41 : decode cX5_find 41 = .ok (.ifCond .le 7, 3) := by decide +kernel
theorem dX5_find_44 : decode cX5_find 44 = .ok (.iconst 1, 1) := by decide +kernel
theorem dX5_find_45 : decode cX5_find 45 = .ok (.goto 4, 3) := by decide +kernel
theorem dX5_find_48 : decode cX5_find 48 = .ok (.iconst 0, 1) := by decide +kernel
theorem dX5_find_49 : decode cX5_find 49 = .ok (.iadd, 1) := by decide +kernel
theorem dX5_find_50 : decode cX5_find 50 = .ok (.istore_n 3, 1) := by decide +kernel
theorem dX5_find_51 : decode cX5_find 51 = .ok (.iload 5, 2) := by decide +kernel
theorem dX5_find_53 : decode cX5_find 53 = .ok (.aload_n 0, 1) := by decide +kernel
theorem dX5_find_54 : decode cX5_find 54 = .ok (.getfield 63, 3) := by decide +kernel
theorem dX5_find_57 : decode cX5_find 57 = .ok (.if_icmp .le 15, 3) := by decide +kernel
theorem dX5_find_60 : decode cX5_find 60 = .ok (.aload_n 0, 1) := by decide +kernel
theorem dX5_find_61 : decode cX5_find 61 = .ok (.iload 5, 2) := by decide +kernel
theorem dX5_find_63 : decode cX5_find 63 = .ok (.putfield 63, 3) := by decide +kernel
theorem dX5_find_66 : decode cX5_find 66 = .ok (.aload_n 0, 1) := by decide +kernel
theorem dX5_find_67 : decode cX5_find 67 = .ok (.iload 4, 2) := by decide +kernel
theorem dX5_find_69 : decode cX5_find 69 = .ok (.putfield 66, 3) := by decide +kernel
theorem dX5_find_72 : decode cX5_find 72 = .ok (.iinc 4 1, 3) := by decide +kernel
theorem dX5_find_75 : decode cX5_find 75 = .ok (.goto (-60), 3) := by decide +kernel
theorem dX5_find_78 : decode cX5_find 78 = .ok (.return_, 1) := by decide +kernel
set_option maxRecDepth 20000 in
theorem ggX5_told_X5_in : GoodIn wsX5_told wsX5_in := goodIn_r _ [7] (by decide +kernel) (by decide +kernel)
set_option maxRecDepth 20000 in
theorem gX5_told_X5_in : GoodIn wsX5_told (va_wsS RX5 48 yX5_in wsX5_in) := goodIn_app (goodIn_of _ (by decide +kernel)) ggX5_told_X5_in
set_option maxRecDepth 20000 in
theorem ggX5_told_X5_find : GoodIn wsX5_told wsX5_find := goodIn_r _ [11, 2, 3, 12, 13, 14, 15, 6, 16, 17, 1, 18, 19, 20, 21, 22, 23, 24, 25, 26, 27, 28, 29, 30, 31, 32, 33, 34] (by decide +kernel) (by decide +kernel)
set_option maxRecDepth 20000 in
theorem gX5_told_X5_find : GoodIn wsX5_told (wsV RX5 73 RX5 yX5_find wsX5_find) := goodIn_app (goodIn_of _ (by decide +kernel)) ggX5_told_X5_find
theorem dX5_told_0 : decode cX5_told 0 = .ok (.iload_n 1, 1) := by decide +kernel
theorem dX5_told_1 : decode cX5_told 1 = .ok (.iconst 0, 1) := by decide +kernel
theorem dX5_told_2 : decode cX5_told 2 = .ok (.aload_n 0, 1) := by decide +kernel
theorem dX5_told_3 : decode cX5_told 3 = .ok (.getfield 45, 3) := by decide +kernel
theorem dX5_told_6 : decode cX5_told 6 = .ok (.iconst 1, 1) := by decide +kernel
theorem dX5_told_7 : decode cX5_told 7 = .ok (.isub, 1) := by decide +kernel
theorem dX5_told_8 : decode cX5_told 8 = .ok (.invokestatic 48, 3) := by decide +kernel
theorem dX5_told_11 : decode cX5_told 11 = .ok (.ifCond .ne 5, 3) := by decide +kernel
theorem dX5_told_14 : decode cX5_told 14 = .ok (.iconst (-1), 1) := by decide +kernel
theorem dX5_told_15 : decode cX5_told 15 = .ok (.ireturn, 1) := by decide +kernel
theorem dX5_told_16 : decode cX5_told 16 = .ok (.iload_n 2, 1) := by decide +kernel
theorem dX5_told_17 : decode cX5_told 17 = .ok (.iconst 0, 1) := by decide +kernel
theorem dX5_told_18 : decode cX5_told 18 = .ok (.iconst 1, 1) := by decide +kernel
theorem dX5_told_19 : decode cX5_told 19 = .ok (.invokestatic 48, 3) := by decide +kernel
theorem dX5_told_22 : decode cX5_told 22 = .ok (.ifCond .ne 6, 3) := by decide +kernel
theorem dX5_told_25 : decode cX5_told 25 = .ok (.bipush (-2), 2) := by decide +kernel
theorem dX5_told_27 : decode cX5_told 27 = .ok (.ireturn, 1) := by decide +kernel
theorem dX5_told_28 : decode cX5_told 28 = .ok (.aload_n 0, 1) := by decide +kernel
theorem dX5_told_29 : decode cX5_told 29 = .ok (.iload_n 1, 1) := by decide +kernel
theorem dX5_told_30 : decode cX5_told 30 = .ok (.iload_n 3, 1) := by decide +kernel
theorem dX5_told_31 : decode cX5_told 31 = .ok (.invokevirtual 73, 3) := by decide +kernel
theorem dX5_told_34 : decode cX5_told 34 = .ok (.iload_n 2, 1) := by decide +kernel
theorem dX5_told_35 : decode cX5_told 35 = .ok (.ifCond .ne 10, 3) := by decide +kernel
theorem dX5_told_38 : decode cX5_told 38 = .ok (.aload_n 0, 1) := by decide +kernel
theorem dX5_told_39 : decode cX5_told 39 = .ok (.getfield 63, 3) := by decide +kernel
theorem dX5_told_42 : decode cX5_told 42 = .ok (.goto 7, 3) := by decide +kernel
theorem dX5_told_45 : decode cX5_told 45 = .ok (.aload_n 0, 1) := by decide +kernel
theorem dX5_told_46 : decode cX5_told 46 = .ok (.getfield 66, 3) := by decide +kernel
theorem dX5_told_49 : decode cX5_told 49 = .ok (.ireturn, 1) := by decide +kernel
set_option maxRecDepth 20000 in
theorem ggX5_longest_X5_told : GoodIn wsX5_longest wsX5_told := goodIn_r _ [6, 7, 8, 9, 10, 11, 5, 12, 13, 14, 15, 16, 17, 18, 19, 20, 21, 22, 23, 24, 25, 26, 27, 28, 29, 30, 31, 32, 33, 34, 35, 36, 37, 38, 39] (by decide +kernel) (by decide +kernel)
set_option maxRecDepth 20000 in
theorem gX5_longest_X5_told : GoodIn wsX5_longest (wsV RX5 77 RX5 yX5_told wsX5_told) := goodIn_app (goodIn_of _ (by decide +kernel)) ggX5_longest_X5_told
theorem dX5_longest_0 : decode cX5_longest 0 = .ok (.aload_n 0, 1) := by decide +kernel
theorem dX5_longest_1 : decode cX5_longest 1 = .ok (.iconst 0, 1) := by decide +kernel
theorem dX5_longest_2 : decode cX5_longest 2 = .ok (.putfield 42, 3) := by decide +kernel
theorem dX5_longest_5 : decode cX5_longest 5 = .ok (.aload_n 0, 1) := by decide +kernel
theorem dX5_longest_6 : decode cX5_longest 6 = .ok (.iload_n 1, 1) := by decide +kernel
theorem dX5_longest_7 : decode cX5_longest 7 = .ok (.iload_n 2, 1) := by decide +kernel
theorem dX5_longest_8 : decode cX5_longest 8 = .ok (.sipush 301, 3) := by decide +kernel
theorem dX5_longest_11 : decode cX5_longest 11 = .ok (.invokevirtual 77, 3) := by decide +kernel
theorem dX5_longest_14 : decode cX5_longest 14 = .ok (.ireturn, 1) := by decide +kernel
set_option maxRecDepth 20000 in
theorem ggX5_chained_X5_told : GoodIn wsX5_chained wsX5_told := goodIn_r _ [7, 8, 9, 10, 11, 12, 6, 13, 14, 15, 16, 17, 18, 19, 20, 21, 22, 23, 24, 25, 26, 27, 28, 29, 30, 31, 32, 33, 34, 35, 36, 37, 38, 39, 40] (by decide +kernel) (by decide +kernel)
set_option maxRecDepth 20000 in
theorem gX5_chained_X5_told : GoodIn wsX5_chained (wsV RX5 77 RX5 yX5_told wsX5_told) := goodIn_app (goodIn_of _ (by decide +kernel)) ggX5_chained_X5_told
theorem dX5_chained_0 : decode cX5_chained 0 = .ok (.aload_n 0, 1) := by decide +kernel
theorem dX5_chained_1 : decode cX5_chained 1 = .ok (.iconst 0, 1) := by decide +kernel
theorem dX5_chained_2 : decode cX5_chained 2 = .ok (.putfield 42, 3) := by decide +kernel
theorem dX5_chained_5 : decode cX5_chained 5 = .ok (.aload_n 0, 1) := by decide +kernel
theorem dX5_chained_6 : decode cX5_chained 6 = .ok (.iload_n 1, 1) := by decide +kernel
theorem dX5_chained_7 : decode cX5_chained 7 = .ok (.iload_n 2, 1) := by decide +kernel
theorem dX5_chained_8 : decode cX5_chained 8 = .ok (.aload_n 0, 1) := by decide +kernel
theorem dX5_chained_9 : decode cX5_chained 9 = .ok (.getfield 39, 3) := by decide +kernel
theorem dX5_chained_12 : decode cX5_chained 12 = .ok (.invokevirtual 77, 3) := by decide +kernel
theorem dX5_chained_15 : decode cX5_chained 15 = .ok (.ireturn, 1) := by decide +kernel
set_option maxRecDepth 20000 in
theorem ggX5_front_X5_in : GoodIn wsX5_front wsX5_in := goodIn_r _ [7] (by decide +kernel) (by decide +kernel)
set_option maxRecDepth 20000 in
theorem gX5_front_X5_in : GoodIn wsX5_front (va_wsS RX5 48 yX5_in wsX5_in) := goodIn_app (goodIn_of _ (by decide +kernel)) ggX5_front_X5_in
set_option maxRecDepth 20000 in
theorem ggX5_front_X5_longAt : GoodIn wsX5_front wsX5_longAt := goodIn_r _ [11, 12, 2, 13, 14, 15, 16, 17, 18, 19, 20, 21, 22, 23, 24, 25, 26, 27, 28, 29] (by decide +kernel) (by decide +kernel)
set_option maxRecDepth 20000 in
theorem gX5_front_X5_longAt : GoodIn wsX5_front (wsV RX5 69 RX5 yX5_longAt wsX5_longAt) := goodIn_app (goodIn_of _ (by decide +kernel)) ggX5_front_X5_longAt
theorem dX5_front_0 : decode cX5_front 0 = .ok (.aload_n 0, 1) := by decide +kernel
theorem dX5_front_1 : decode cX5_front 1 = .ok (.iconst 0, 1) := by decide +kernel
theorem dX5_front_2 : decode cX5_front 2 = .ok (.putfield 42, 3) := by decide +kernel
theorem dX5_front_5 : decode cX5_front 5 = .ok (.iload_n 1, 1) := by decide +kernel
theorem dX5_front_6 : decode cX5_front 6 = .ok (.iconst 0, 1) := by decide +kernel
theorem dX5_front_7 : decode cX5_front 7 = .ok (.aload_n 0, 1) := by decide +kernel
theorem dX5_front_8 : decode cX5_front 8 = .ok (.getfield 45, 3) := by decide +kernel
theorem dX5_front_11 : decode cX5_front 11 = .ok (.iconst 1, 1) := by decide +kernel
theorem dX5_front_12 : decode cX5_front 12 = .ok (.isub, 1) := by decide +kernel
theorem dX5_front_13 : decode cX5_front 13 = .ok (.invokestatic 48, 3) := by decide +kernel
theorem dX5_front_16 : decode cX5_front 16 = .ok (.ifCond .eq 8, 3) := by decide +kernel
theorem dX5_front_19 : decode cX5_front 19 = .ok (.iload_n 2, 1) := by decide +kernel
theorem dX5_front_20 : decode cX5_front 20 = .ok (.iconst (-1), 1) := by decide +kernel
theorem dX5_front_21 : decode cX5_front 21 = .ok (.if_icmp .ge 5, 3) := by decide +kernel
theorem dX5_front_24 : decode cX5_front 24 = .ok (.iconst (-1), 1) := by decide +kernel
theorem dX5_front_25 : decode cX5_front 25 = .ok (.ireturn, 1) := by decide +kernel
theorem dX5_front_26 : decode cX5_front 26 = .ok (.iconst 0, 1) := by decide +kernel
theorem dX5_front_27 : decode cX5_front 27 = .ok (.istore 4, 2) := by decide +kernel
theorem dX5_front_29 : decode cX5_front 29 = .ok (.iconst 0, 1) := by decide +kernel
theorem dX5_front_30 : decode cX5_front 30 = .ok (.istore 5, 2) := by decide +kernel
theorem dX5_front_32 : decode cX5_front 32 = .ok (.iconst (-1), 1) := by decide +kernel
theorem dX5_front_33 : decode cX5_front 33 = .ok (.istore 6, 2) := by decide +kernel
theorem dX5_front_35 : decode cX5_front 35 = .ok (.iconst 1, 1) := by decide +kernel
theorem dX5_front_36 : decode cX5_front 36 = .ok (.istore 7, 2) := by decide +kernel
theorem dX5_front_38 : decode cX5_front 38 = .ok (.iload 7, 2) := by decide +kernel
theorem dX5_front_40 : decode cX5_front 40 = .ok (.aload_n 0, 1) := by decide +kernel
theorem dX5_front_41 : decode cX5_front 41 = .ok (.getfield 35, 3) := by decide +kernel
theorem dX5_front_44 : decode cX5_front 44 = .ok (.if_icmp .gt 56, 3) := by decide +kernel
theorem dX5_front_47 : decode cX5_front 47 = .ok (.aload_n 0, 1) := by decide +kernel
theorem dX5_front_48 : decode cX5_front 48 = .ok (.iload_n 1, 1) := by decide +kernel
theorem dX5_front_49 : decode cX5_front 49 = .ok (.iload 7, 2) := by decide +kernel
theorem dX5_front_51 : decode cX5_front 51 = .ok (.invokevirtual 69, 3) := by decide +kernel
theorem dX5_front_54 : decode cX5_front 54 = .ok (.istore 8, 2) := by decide +kernel
theorem dX5_front_56 : decode cX5_front 56 = .ok (.iload 8, 2) := by decide +kernel
theorem dX5_front_58 : decode cX5_front 58 = .ok (.iload 5, 2) := by decide +kernel
theorem dX5_front_60 : decode cX5_front 60 = .ok (.if_icmp .le 34, 3) := by decide +kernel
theorem dX5_front_63 : decode cX5_front 63 = .ok (.iload 8, 2) := by decide +kernel
theorem dX5_front_65 : decode cX5_front 65 = .ok (.istore 5, 2) := by decide +kernel
theorem dX5_front_67 : decode cX5_front 67 = .ok (.iload 4, 2) := by decide +kernel
theorem dX5_front_69 : decode cX5_front 69 = .ok (.iload_n 2, 1) := by decide +kernel
theorem dX5_front_70 : decode cX5_front 70 = .ok (.if_icmp .ne 17, 3) := by decide +kernel
theorem dX5_front_73 : decode cX5_front 73 = .ok (.iload_n 3, 1) := by decide +kernel
theorem dX5_front_74 : decode cX5_front 74 = .ok (.ifCond .ne 8, 3) := by decide +kernel
theorem dX5_front_77 : decode cX5_front 77 = .ok (.iload 8, 2) := by decide +kernel
theorem dX5_front_79 : decode cX5_front 79 = .ok (.goto 10, 3) := by decide +kernel
theorem dX5_front_82 : decode cX5_front 82 = .ok (.iload 7, 2) := by decide +kernel
theorem dX5_front_84 : decode cX5_front 84 = .ok (.goto 5, 3) := by decide +kernel
theorem dX5_front_87 : decode cX5_front 87 = .ok (.iload 6, 2) := by decide +kernel
theorem dX5_front_89 : decode cX5_front 89 = .ok (.istore 6, 2) := by decide +kernel
theorem dX5_front_91 : decode cX5_front 91 = .ok (.iinc 4 1, 3) := by decide +kernel
theorem dX5_front_94 : decode cX5_front 94 = .ok (.iinc 7 1, 3) := by decide +kernel
theorem dX5_front_97 : decode cX5_front 97 = .ok (.goto (-59), 3) := by decide +kernel
theorem dX5_front_100 : decode cX5_front 100 = .ok (.iload_n 2, 1) := by decide +kernel
theorem dX5_front_101 : decode cX5_front 101 = .ok (.iload 4, 2) := by decide +kernel
theorem dX5_front_103 : decode cX5_front 103 = .ok (.if_icmp .lt 5, 3) := by decide +kernel
theorem dX5_front_106 : decode cX5_front 106 = .ok (.iconst (-1), 1) := by decide +kernel
theorem dX5_front_107 : decode cX5_front 107 = .ok (.ireturn, 1) := by decide +kernel
theorem dX5_front_108 : decode cX5_front 108 = .ok (.iload_n 3, 1) := by decide +kernel
theorem dX5_front_109 : decode cX5_front 109 = .ok (.iconst 0, 1) := by decide +kernel
theorem dX5_front_110 : decode cX5_front 110 = .ok (.iconst 1, 1) := by decide +kernel
theorem dX5_front_111 : decode cX5_front 111 = .ok (.invokestatic 48, 3) := by decide +kernel
theorem dX5_front_114 : decode cX5_front 114 = .ok (.ifCond .ne 8, 3) := by decide +kernel
theorem dX5_front_117 : decode cX5_front 117 = .ok (.bipush (-2), 2) := by decide +kernel
theorem dX5_front_119 : decode cX5_front 119 = .ok (.goto 14, 3) := by decide +kernel
theorem dX5_front_122 : decode cX5_front 122 = .ok (.iload_n 2, 1) := by decide +kernel
theorem dX5_front_123 : decode cX5_front 123 = .ok (.ifCond .ge 8, 3) := by decide +kernel
theorem dX5_front_126 : decode cX5_front 126 = .ok (.iload 4, 2) := by decide +kernel
theorem dX5_front_128 : decode cX5_front 128 = .ok (.goto 5, 3) := by decide +kernel
theorem dX5_front_131 : decode cX5_front 131 = .ok (.iload 6, 2) := by decide +kernel
theorem dX5_front_133 : decode cX5_front 133 = .ok (.ireturn, 1) := by decide +kernel
theorem dX5_g_0 : decode cX5_g 0 = .ok (.iconst 1, 1) := by decide +kernel
theorem dX5_g_1 : decode cX5_g 1 = .ok (.istore_n 1, 1) := by decide +kernel
theorem dX5_g_2 : decode cX5_g 2 = .ok (.iload_n 0, 1) := by decide +kernel
theorem dX5_g_3 : decode cX5_g 3 = .ok (.istore_n 2, 1) := by decide +kernel
theorem dX5_g_4 : decode cX5_g 4 = .ok (.iload_n 2, 1) := by decide +kernel
theorem dX5_g_5 : decode cX5_g 5 = .ok (.iconst 1, 1) := by decide +kernel
theorem dX5_g_6 : decode cX5_g 6 = .ok (.if_icmp .le 13, 3) := by decide +kernel
theorem dX5_g_9 : decode cX5_g 9 = .ok (.iinc 1 2, 3) := by decide +kernel
theorem dX5_g_12 : decode cX5_g 12 = .ok (.iload_n 2, 1) := by decide +kernel
theorem dX5_g_13 : decode cX5_g 13 = .ok (.iconst 2, 1) := by decide +kernel
theorem dX5_g_14 : decode cX5_g 14 = .ok (.idiv, 1) := by decide +kernel
theorem dX5_g_15 : decode cX5_g 15 = .ok (.istore_n 2, 1) := by decide +kernel
theorem dX5_g_16 : decode cX5_g 16 = .ok (.goto (-12), 3) := by decide +kernel
theorem dX5_g_19 : decode cX5_g 19 = .ok (.iload_n 1, 1) := by decide +kernel
theorem dX5_g_20 : decode cX5_g 20 = .ok (.ireturn, 1) := by decide +kernel
theorem dX5_lay__0 : decode cX5_lay_ 0 = .ok (.sipush 300, 3) := by decide +kernel
theorem dX5_lay__3 : decode cX5_lay_ 3 = .ok (.iload_n 1, 1) := by decide +kernel
theorem dX5_lay__4 : decode cX5_lay_ 4 = .ok (.imul, 1) := by decide +kernel
theorem dX5_lay__5 : decode cX5_lay_ 5 = .ok (.aload_n 0, 1) := by decide +kernel
theorem dX5_lay__6 : decode cX5_lay_ 6 = .ok (.getfield 17, 3) := by decide +kernel
theorem dX5_lay__9 : decode cX5_lay_ 9 = .ok (.iload_n 1, 1) := by decide +kernel
theorem dX5_lay__10 : decode cX5_lay_ 10 = .ok (.iaload, 1) := by decide +kernel
theorem dX5_lay__11 : decode cX5_lay_ 11 = .ok (.iadd, 1) := by decide +kernel
theorem dX5_lay__12 : decode cX5_lay_ 12 = .ok (.istore 5, 2) := by decide +kernel
theorem dX5_lay__14 : decode cX5_lay_ 14 = .ok (.aload_n 0, 1) := by decide +kernel
theorem dX5_lay__15 : decode cX5_lay_ 15 = .ok (.getfield 20, 3) := by decide +kernel
theorem dX5_lay__18 : decode cX5_lay_ 18 = .ok (.iload 5, 2) := by decide +kernel
theorem dX5_lay__20 : decode cX5_lay_ 20 = .ok (.iload_n 2, 1) := by decide +kernel
theorem dX5_lay__21 : decode cX5_lay_ 21 = .ok (.iastore, 1) := by decide +kernel
theorem dX5_lay__22 : decode cX5_lay_ 22 = .ok (.aload_n 0, 1) := by decide +kernel
theorem dX5_lay__23 : decode cX5_lay_ 23 = .ok (.getfield 23, 3) := by decide +kernel
theorem dX5_lay__26 : decode cX5_lay_ 26 = .ok (.iload 5, 2) := by decide +kernel
theorem dX5_lay__28 : decode cX5_lay_ 28 = .ok (.iload_n 3, 1) := by decide +kernel
theorem dX5_lay__29 : decode cX5_lay_ 29 = .ok (.iastore, 1) := by decide +kernel
theorem dX5_lay__30 : decode cX5_lay_ 30 = .ok (.aload_n 0, 1) := by decide +kernel
theorem dX5_lay__31 : decode cX5_lay_ 31 = .ok (.getfield 26, 3) := by decide +kernel
theorem dX5_lay__34 : decode cX5_lay_ 34 = .ok (.iload 5, 2) := by decide +kernel
theorem dX5_lay__36 : decode cX5_lay_ 36 = .ok (.iload 4, 2) := by decide +kernel
theorem dX5_lay__38 : decode cX5_lay_ 38 = .ok (.iastore, 1) := by decide +kernel
theorem dX5_lay__39 : decode cX5_lay_ 39 = .ok (.aload_n 0, 1) := by decide +kernel
theorem dX5_lay__40 : decode cX5_lay_ 40 = .ok (.getfield 17, 3) := by decide +kernel
theorem dX5_lay__43 : decode cX5_lay_ 43 = .ok (.iload_n 1, 1) := by decide +kernel
theorem dX5_lay__44 : decode cX5_lay_ 44 = .ok (.dup2, 1) := by decide +kernel
theorem dX5_lay__45 : decode cX5_lay_ 45 = .ok (.iaload, 1) := by decide +kernel
theorem dX5_lay__46 : decode cX5_lay_ 46 = .ok (.iconst 1, 1) := by decide +kernel
theorem dX5_lay__47 : decode cX5_lay_ 47 = .ok (.iadd, 1) := by decide +kernel
theorem dX5_lay__48 : decode cX5_lay_ 48 = .ok (.iastore, 1) := by decide +kernel
theorem dX5_lay__49 : decode cX5_lay_ 49 = .ok (.return_, 1) := by decide +kernel
set_option maxRecDepth 20000 in
theorem ggX5_make_X5_makeLeast : GoodIn wsX5_make wsX5_makeLeast := goodIn_r _ [11, 12, 3, 13, 14, 15, 16, 10, 17, 18, 19, 20, 21, 22, 23, 24, 25, 26, 27, 28, 29, 30, 31, 32, 33, 34, 35, 2, 36, 37, 38, 43, 44, 45, 46, 47, 48, 49, 50, 51, 52, 53, 54, 55, 56, 57, 58] (by decide +kernel) (by decide +kernel)
set_option maxRecDepth 20000 in
theorem gX5_make_X5_makeLeast : GoodIn wsX5_make (wsV RX5 81 RX5 yX5_makeLeast wsX5_makeLeast) := goodIn_app (goodIn_of _ (by decide +kernel)) ggX5_make_X5_makeLeast
set_option maxRecDepth 20000 in
theorem ggX5_make_X5_find : GoodIn wsX5_make wsX5_find := goodIn_r _ [42, 5, 6, 18, 19, 20, 21, 10, 22, 23, 3, 24, 43, 44, 45, 46, 47, 48, 49, 50, 51, 52, 53, 54, 55, 56, 57, 58] (by decide +kernel) (by decide +kernel)
set_option maxRecDepth 20000 in
theorem gX5_make_X5_find : GoodIn wsX5_make (wsV RX5 73 RX5 yX5_find wsX5_find) := goodIn_app (goodIn_of _ (by decide +kernel)) ggX5_make_X5_find
set_option maxRecDepth 20000 in
theorem ggX5_make_X5_lay_ : GoodIn wsX5_make wsX5_lay_ := goodIn_r _ [35, 2, 36, 37, 38, 43, 44, 45, 46, 47, 48, 49, 50, 51, 52, 53, 54, 55, 56, 57, 58] (by decide +kernel) (by decide +kernel)
set_option maxRecDepth 20000 in
theorem gX5_make_X5_lay_ : GoodIn wsX5_make (wsV RX5 84 RX5 yX5_lay_ wsX5_lay_) := goodIn_app (goodIn_of _ (by decide +kernel)) ggX5_make_X5_lay_
theorem dX5_make_0 : decode cX5_make 0 = .ok (.aload_n 0, 1) := by decide +kernel
theorem dX5_make_1 : decode cX5_make 1 = .ok (.getfield 13, 3) := by decide +kernel
theorem dX5_make_4 : decode cX5_make 4 = .ok (.iload_n 1, 1) := by decide +kernel
theorem dX5_make_5 : decode cX5_make 5 = .ok (.baload, 1) := by decide +kernel
theorem dX5_make_6 : decode cX5_make 6 = .ok (.ifCond .eq 4, 3) := by decide +kernel
theorem dX5_make_9 : decode cX5_make 9 = .ok (.return_, 1) := by decide +kernel
theorem dX5_make_10 : decode cX5_make 10 = .ok (.aload_n 0, 1) := by decide +kernel
theorem dX5_make_11 : decode cX5_make 11 = .ok (.getfield 13, 3) := by decide +kernel
theorem dX5_make_14 : decode cX5_make 14 = .ok (.iload_n 1, 1) := by decide +kernel
theorem dX5_make_15 : decode cX5_make 15 = .ok (.iconst 1, 1) := by decide +kernel
theorem dX5_make_16 : decode cX5_make 16 = .ok (.bastore, 1) := by decide +kernel
theorem dX5_make_17 : decode cX5_make 17 = .ok (.aload_n 0, 1) := by decide +kernel
theorem dX5_make_18 : decode cX5_make 18 = .ok (.getfield 17, 3) := by decide +kernel
theorem dX5_make_21 : decode cX5_make 21 = .ok (.iload_n 1, 1) := by decide +kernel
theorem dX5_make_22 : decode cX5_make 22 = .ok (.iconst 0, 1) := by decide +kernel
theorem dX5_make_23 : decode cX5_make 23 = .ok (.iastore, 1) := by decide +kernel
theorem dX5_make_24 : decode cX5_make 24 = .ok (.iload_n 1, 1) := by decide +kernel
theorem dX5_make_25 : decode cX5_make 25 = .ok (.iconst 3, 1) := by decide +kernel
theorem dX5_make_26 : decode cX5_make 26 = .ok (.if_icmp .ne 8, 3) := by decide +kernel
theorem dX5_make_29 : decode cX5_make 29 = .ok (.aload_n 0, 1) := by decide +kernel
theorem dX5_make_30 : decode cX5_make 30 = .ok (.invokevirtual 81, 3) := by decide +kernel
theorem dX5_make_33 : decode cX5_make 33 = .ok (.return_, 1) := by decide +kernel
theorem dX5_make_34 : decode cX5_make 34 = .ok (.iconst 0, 1) := by decide +kernel
theorem dX5_make_35 : decode cX5_make 35 = .ok (.istore_n 2, 1) := by decide +kernel
theorem dX5_make_36 : decode cX5_make 36 = .ok (.iload_n 2, 1) := by decide +kernel
theorem dX5_make_37 : decode cX5_make 37 = .ok (.aload_n 0, 1) := by decide +kernel
theorem dX5_make_38 : decode cX5_make 38 = .ok (.getfield 45, 3) := by decide +kernel
theorem dX5_make_41 : decode cX5_make 41 = .ok (.if_icmp .ge 117, 3) := by decide +kernel
theorem dX5_make_44 : decode cX5_make 44 = .ok (.aload_n 0, 1) := by decide +kernel
theorem dX5_make_45 : decode cX5_make 45 = .ok (.iload_n 2, 1) := by decide +kernel
theorem dX5_make_46 : decode cX5_make 46 = .ok (.iload_n 1, 1) := by decide +kernel
theorem dX5_make_47 : decode cX5_make 47 = .ok (.iconst 1, 1) := by decide +kernel
theorem dX5_make_48 : decode cX5_make 48 = .ok (.if_icmp .ne 10, 3) := by decide +kernel
theorem dX5_make_51 : decode cX5_make 51 = .ok (.aload_n 0, 1) := by decide +kernel
theorem dX5_make_52 : decode cX5_make 52 = .ok (.getfield 39, 3) := by decide +kernel
theorem dX5_make_55 : decode cX5_make 55 = .ok (.goto 6, 3) := by decide +kernel
theorem dX5_make_58 : decode cX5_make 58 = .ok (.sipush 301, 3) := by decide +kernel
theorem dX5_make_61 : decode cX5_make 61 = .ok (.invokevirtual 73, 3) := by decide +kernel
theorem dX5_make_64 : decode cX5_make 64 = .ok (.aload_n 0, 1) := by decide +kernel
theorem dX5_make_65 : decode cX5_make 65 = .ok (.getfield 63, 3) := by decide +kernel
theorem dX5_make_68 : decode cX5_make 68 = .ok (.istore_n 3, 1) := by decide +kernel
theorem dX5_make_69 : decode cX5_make 69 = .ok (.aload_n 0, 1) := by decide +kernel
theorem dX5_make_70 : decode cX5_make 70 = .ok (.getfield 66, 3) := by decide +kernel
theorem dX5_make_73 : decode cX5_make 73 = .ok (.istore 4, 2) := by decide +kernel
theorem dX5_make_75 : decode cX5_make 75 = .ok (.iload_n 1, 1) := by decide +kernel
theorem dX5_make_76 : decode cX5_make 76 = .ok (.iconst 2, 1) := by decide +kernel
theorem dX5_make_77 : decode cX5_make 77 = .ok (.if_icmp .ne 41, 3) := by decide +kernel
theorem dX5_make_80 : decode cX5_make 80 = .ok (.iload_n 3, 1) := by decide +kernel
theorem dX5_make_81 : decode cX5_make 81 = .ok (.ifCond .le 37, 3) := by decide +kernel
theorem dX5_make_84 : decode cX5_make 84 = .ok (.iload_n 2, 1) := by decide +kernel
theorem dX5_make_85 : decode cX5_make 85 = .ok (.iconst 1, 1) := by decide +kernel
theorem dX5_make_86 : decode cX5_make 86 = .ok (.iadd, 1) := by decide +kernel
theorem dX5_make_87 : decode cX5_make 87 = .ok (.aload_n 0, 1) := by decide +kernel
theorem dX5_make_88 : decode cX5_make 88 = .ok (.getfield 45, 3) := by decide +kernel
theorem dX5_make_91 : decode cX5_make 91 = .ok (.if_icmp .ge 27, 3) := by decide +kernel
theorem dX5_make_94 : decode cX5_make 94 = .ok (.aload_n 0, 1) := by decide +kernel
theorem dX5_make_95 : decode cX5_make 95 = .ok (.iload_n 2, 1) := by decide +kernel
theorem dX5_make_96 : decode cX5_make 96 = .ok (.iconst 1, 1) := by decide +kernel
theorem dX5_make_97 : decode cX5_make 97 = .ok (.iadd, 1) := by decide +kernel
theorem dX5_make_98 : decode cX5_make 98 = .ok (.sipush 301, 3) := by decide +kernel
theorem dX5_make_101 : decode cX5_make 101 = .ok (.invokevirtual 73, 3) := by decide +kernel
theorem dX5_make_104 : decode cX5_make 104 = .ok (.aload_n 0, 1) := by decide +kernel
theorem dX5_make_105 : decode cX5_make 105 = .ok (.getfield 63, 3) := by decide +kernel
theorem dX5_make_108 : decode cX5_make 108 = .ok (.iload_n 3, 1) := by decide +kernel
theorem dX5_make_109 : decode cX5_make 109 = .ok (.if_icmp .le 7, 3) := by decide +kernel
theorem dX5_make_112 : decode cX5_make 112 = .ok (.iconst 0, 1) := by decide +kernel
theorem dX5_make_113 : decode cX5_make 113 = .ok (.goto 4, 3) := by decide +kernel
theorem dX5_make_116 : decode cX5_make 116 = .ok (.iload_n 3, 1) := by decide +kernel
theorem dX5_make_117 : decode cX5_make 117 = .ok (.istore_n 3, 1) := by decide +kernel
theorem dX5_make_118 : decode cX5_make 118 = .ok (.aload_n 0, 1) := by decide +kernel
theorem dX5_make_119 : decode cX5_make 119 = .ok (.iload_n 1, 1) := by decide +kernel
theorem dX5_make_120 : decode cX5_make 120 = .ok (.iload_n 2, 1) := by decide +kernel
theorem dX5_make_121 : decode cX5_make 121 = .ok (.iload_n 3, 1) := by decide +kernel
theorem dX5_make_122 : decode cX5_make 122 = .ok (.ifCond .ne 7, 3) := by decide +kernel
theorem dX5_make_125 : decode cX5_make 125 = .ok (.iconst 1, 1) := by decide +kernel
theorem dX5_make_126 : decode cX5_make 126 = .ok (.goto 4, 3) := by decide +kernel
theorem dX5_make_129 : decode cX5_make 129 = .ok (.iload_n 3, 1) := by decide +kernel
theorem dX5_make_130 : decode cX5_make 130 = .ok (.iload_n 3, 1) := by decide +kernel
theorem dX5_make_131 : decode cX5_make 131 = .ok (.ifCond .ne 7, 3) := by decide +kernel
theorem dX5_make_134 : decode cX5_make 134 = .ok (.iconst 0, 1) := by decide +kernel
theorem dX5_make_135 : decode cX5_make 135 = .ok (.goto 5, 3) := by decide +kernel
theorem dX5_make_138 : decode cX5_make 138 = .ok (.iload 4, 2) := by decide +kernel
theorem dX5_make_140 : decode cX5_make 140 = .ok (.invokevirtual 84, 3) := by decide +kernel
theorem dX5_make_143 : decode cX5_make 143 = .ok (.iload_n 2, 1) := by decide +kernel
theorem dX5_make_144 : decode cX5_make 144 = .ok (.iload_n 3, 1) := by decide +kernel
theorem dX5_make_145 : decode cX5_make 145 = .ok (.ifCond .ne 7, 3) := by decide +kernel
theorem dX5_make_148 : decode cX5_make 148 = .ok (.iconst 1, 1) := by decide +kernel
theorem dX5_make_149 : decode cX5_make 149 = .ok (.goto 4, 3) := by decide +kernel
theorem dX5_make_152 : decode cX5_make 152 = .ok (.iload_n 3, 1) := by decide +kernel
theorem dX5_make_153 : decode cX5_make 153 = .ok (.iadd, 1) := by decide +kernel
theorem dX5_make_154 : decode cX5_make 154 = .ok (.istore_n 2, 1) := by decide +kernel
theorem dX5_make_155 : decode cX5_make 155 = .ok (.goto (-119), 3) := by decide +kernel
theorem dX5_make_158 : decode cX5_make 158 = .ok (.return_, 1) := by decide +kernel
set_option maxRecDepth 20000 in
theorem ggX5_findLeast_X5_longAt : GoodIn wsX5_findLeast wsX5_longAt := goodIn_r _ [7, 8, 9, 10, 11, 12, 13, 14, 15, 16, 17, 18, 19, 20, 21, 22, 23, 24, 25, 26] (by decide +kernel) (by decide +kernel)
set_option maxRecDepth 20000 in
theorem gX5_findLeast_X5_longAt : GoodIn wsX5_findLeast (wsV RX5 69 RX5 yX5_longAt wsX5_longAt) := goodIn_app (goodIn_of _ (by decide +kernel)) ggX5_findLeast_X5_longAt
theorem dX5_findLeast_0 : decode cX5_findLeast 0 = .ok (.iconst 0, 1) := by decide +kernel
theorem dX5_findLeast_1 : decode cX5_findLeast 1 = .ok (.istore_n 2, 1) := by decide +kernel
theorem dX5_findLeast_2 : decode cX5_findLeast 2 = .ok (.iload_n 2, 1) := by decide +kernel
theorem dX5_findLeast_3 : decode cX5_findLeast 3 = .ok (.bipush 40, 2) := by decide +kernel
theorem dX5_findLeast_5 : decode cX5_findLeast 5 = .ok (.if_icmp .gt 16, 3) := by decide +kernel
theorem dX5_findLeast_8 : decode cX5_findLeast 8 = .ok (.aload_n 0, 1) := by decide +kernel
theorem dX5_findLeast_9 : decode cX5_findLeast 9 = .ok (.getfield 32, 3) := by decide +kernel
theorem dX5_findLeast_12 : decode cX5_findLeast 12 = .ok (.iload_n 2, 1) := by decide +kernel
theorem dX5_findLeast_13 : decode cX5_findLeast 13 = .ok (.iconst 0, 1) := by decide +kernel
theorem dX5_findLeast_14 : decode cX5_findLeast 14 = .ok (.iastore, 1) := by decide +kernel
theorem dX5_findLeast_15 : decode cX5_findLeast 15 = .ok (.iinc 2 1, 3) := by decide +kernel
theorem dX5_findLeast_18 : decode cX5_findLeast 18 = .ok (.goto (-16), 3) := by decide +kernel
theorem dX5_findLeast_21 : decode cX5_findLeast 21 = .ok (.aload_n 0, 1) := by decide +kernel
theorem dX5_findLeast_22 : decode cX5_findLeast 22 = .ok (.getfield 35, 3) := by decide +kernel
theorem dX5_findLeast_25 : decode cX5_findLeast 25 = .ok (.istore_n 2, 1) := by decide +kernel
theorem dX5_findLeast_26 : decode cX5_findLeast 26 = .ok (.iload_n 2, 1) := by decide +kernel
theorem dX5_findLeast_27 : decode cX5_findLeast 27 = .ok (.iconst 1, 1) := by decide +kernel
theorem dX5_findLeast_28 : decode cX5_findLeast 28 = .ok (.if_icmp .lt 39, 3) := by decide +kernel
theorem dX5_findLeast_31 : decode cX5_findLeast 31 = .ok (.aload_n 0, 1) := by decide +kernel
theorem dX5_findLeast_32 : decode cX5_findLeast 32 = .ok (.iload_n 1, 1) := by decide +kernel
theorem dX5_findLeast_33 : decode cX5_findLeast 33 = .ok (.iload_n 2, 1) := by decide +kernel
theorem dX5_findLeast_34 : decode cX5_findLeast 34 = .ok (.invokevirtual 69, 3) := by decide +kernel
theorem dX5_findLeast_37 : decode cX5_findLeast 37 = .ok (.istore_n 3, 1) := by decide +kernel
theorem dX5_findLeast_38 : decode cX5_findLeast 38 = .ok (.iconst 3, 1) := by decide +kernel
theorem dX5_findLeast_39 : decode cX5_findLeast 39 = .ok (.istore 4, 2) := by decide +kernel
theorem dX5_findLeast_41 : decode cX5_findLeast 41 = .ok (.iload 4, 2) := by decide +kernel
theorem dX5_findLeast_43 : decode cX5_findLeast 43 = .ok (.iload_n 3, 1) := by decide +kernel
theorem dX5_findLeast_44 : decode cX5_findLeast 44 = .ok (.if_icmp .gt 17, 3) := by decide +kernel
theorem dX5_findLeast_47 : decode cX5_findLeast 47 = .ok (.aload_n 0, 1) := by decide +kernel
theorem dX5_findLeast_48 : decode cX5_findLeast 48 = .ok (.getfield 32, 3) := by decide +kernel
theorem dX5_findLeast_51 : decode cX5_findLeast 51 = .ok (.iload 4, 2) := by decide +kernel
theorem dX5_findLeast_53 : decode cX5_findLeast 53 = .ok (.iload_n 2, 1) := by decide +kernel
theorem dX5_findLeast_54 : decode cX5_findLeast 54 = .ok (.iastore, 1) := by decide +kernel
theorem dX5_findLeast_55 : decode cX5_findLeast 55 = .ok (.iinc 4 1, 3) := by decide +kernel
theorem dX5_findLeast_58 : decode cX5_findLeast 58 = .ok (.goto (-17), 3) := by decide +kernel
theorem dX5_findLeast_61 : decode cX5_findLeast 61 = .ok (.iinc 2 (-1), 3) := by decide +kernel
theorem dX5_findLeast_64 : decode cX5_findLeast 64 = .ok (.goto (-38), 3) := by decide +kernel
theorem dX5_findLeast_67 : decode cX5_findLeast 67 = .ok (.return_, 1) := by decide +kernel
set_option maxRecDepth 20000 in
theorem ggX5_choose_X5_g : GoodIn wsX5_choose wsX5_g := goodIn_r _ [6] (by decide +kernel) (by decide +kernel)
set_option maxRecDepth 20000 in
theorem gX5_choose_X5_g : GoodIn wsX5_choose (va_wsS RX5 87 yX5_g wsX5_g) := goodIn_app (goodIn_of _ (by decide +kernel)) ggX5_choose_X5_g
theorem dX5_choose_0 : decode cX5_choose 0 = .ok (.iconst 1, 1) := by decide +kernel
theorem dX5_choose_1 : decode cX5_choose 1 = .ok (.istore_n 2, 1) := by decide +kernel
theorem dX5_choose_2 : decode cX5_choose 2 = .ok (.aload_n 0, 1) := by decide +kernel
theorem dX5_choose_3 : decode cX5_choose 3 = .ok (.getfield 29, 3) := by decide +kernel
theorem dX5_choose_6 : decode cX5_choose 6 = .ok (.iload_n 1, 1) := by decide +kernel
theorem dX5_choose_7 : decode cX5_choose 7 = .ok (.bipush 9, 2) := by decide +kernel
theorem dX5_choose_9 : decode cX5_choose 9 = .ok (.aload_n 0, 1) := by decide +kernel
theorem dX5_choose_10 : decode cX5_choose 10 = .ok (.getfield 29, 3) := by decide +kernel
theorem dX5_choose_13 : decode cX5_choose 13 = .ok (.iload_n 1, 1) := by decide +kernel
theorem dX5_choose_14 : decode cX5_choose 14 = .ok (.iconst 1, 1) := by decide +kernel
theorem dX5_choose_15 : decode cX5_choose 15 = .ok (.iadd, 1) := by decide +kernel
theorem dX5_choose_16 : decode cX5_choose 16 = .ok (.iaload, 1) := by decide +kernel
theorem dX5_choose_17 : decode cX5_choose 17 = .ok (.iadd, 1) := by decide +kernel
theorem dX5_choose_18 : decode cX5_choose 18 = .ok (.iastore, 1) := by decide +kernel
theorem dX5_choose_19 : decode cX5_choose 19 = .ok (.iconst 3, 1) := by decide +kernel
theorem dX5_choose_20 : decode cX5_choose 20 = .ok (.istore_n 3, 1) := by decide +kernel
theorem dX5_choose_21 : decode cX5_choose 21 = .ok (.iload_n 3, 1) := by decide +kernel
theorem dX5_choose_22 : decode cX5_choose 22 = .ok (.bipush 40, 2) := by decide +kernel
theorem dX5_choose_24 : decode cX5_choose 24 = .ok (.if_icmp .gt 92, 3) := by decide +kernel
theorem dX5_choose_27 : decode cX5_choose 27 = .ok (.aload_n 0, 1) := by decide +kernel
theorem dX5_choose_28 : decode cX5_choose 28 = .ok (.getfield 32, 3) := by decide +kernel
theorem dX5_choose_31 : decode cX5_choose 31 = .ok (.iload_n 3, 1) := by decide +kernel
theorem dX5_choose_32 : decode cX5_choose 32 = .ok (.iaload, 1) := by decide +kernel
theorem dX5_choose_33 : decode cX5_choose 33 = .ok (.ifCond .le 77, 3) := by decide +kernel
theorem dX5_choose_36 : decode cX5_choose 36 = .ok (.iconst 2, 1) := by decide +kernel
theorem dX5_choose_37 : decode cX5_choose 37 = .ok (.iload_n 3, 1) := by decide +kernel
theorem dX5_choose_38 : decode cX5_choose 38 = .ok (.iconst 2, 1) := by decide +kernel
theorem dX5_choose_39 : decode cX5_choose 39 = .ok (.isub, 1) := by decide +kernel
theorem dX5_choose_40 : decode cX5_choose 40 = .ok (.invokestatic 87, 3) := by decide +kernel
theorem dX5_choose_43 : decode cX5_choose 43 = .ok (.iadd, 1) := by decide +kernel
theorem dX5_choose_44 : decode cX5_choose 44 = .ok (.aload_n 0, 1) := by decide +kernel
theorem dX5_choose_45 : decode cX5_choose 45 = .ok (.getfield 32, 3) := by decide +kernel
theorem dX5_choose_48 : decode cX5_choose 48 = .ok (.iload_n 3, 1) := by decide +kernel
theorem dX5_choose_49 : decode cX5_choose 49 = .ok (.iaload, 1) := by decide +kernel
theorem dX5_choose_50 : decode cX5_choose 50 = .ok (.invokestatic 87, 3) := by decide +kernel
theorem dX5_choose_53 : decode cX5_choose 53 = .ok (.iadd, 1) := by decide +kernel
theorem dX5_choose_54 : decode cX5_choose 54 = .ok (.aload_n 0, 1) := by decide +kernel
theorem dX5_choose_55 : decode cX5_choose 55 = .ok (.getfield 29, 3) := by decide +kernel
theorem dX5_choose_58 : decode cX5_choose 58 = .ok (.iload_n 1, 1) := by decide +kernel
theorem dX5_choose_59 : decode cX5_choose 59 = .ok (.iload_n 3, 1) := by decide +kernel
theorem dX5_choose_60 : decode cX5_choose 60 = .ok (.iadd, 1) := by decide +kernel
theorem dX5_choose_61 : decode cX5_choose 61 = .ok (.iaload, 1) := by decide +kernel
theorem dX5_choose_62 : decode cX5_choose 62 = .ok (.iadd, 1) := by decide +kernel
theorem dX5_choose_63 : decode cX5_choose 63 = .ok (.istore 4, 2) := by decide +kernel
theorem dX5_choose_65 : decode cX5_choose 65 = .ok (.iload 4, 2) := by decide +kernel
theorem dX5_choose_67 : decode cX5_choose 67 = .ok (.aload_n 0, 1) := by decide +kernel
theorem dX5_choose_68 : decode cX5_choose 68 = .ok (.getfield 29, 3) := by decide +kernel
theorem dX5_choose_71 : decode cX5_choose 71 = .ok (.iload_n 1, 1) := by decide +kernel
theorem dX5_choose_72 : decode cX5_choose 72 = .ok (.iaload, 1) := by decide +kernel
theorem dX5_choose_73 : decode cX5_choose 73 = .ok (.if_icmp .gt 7, 3) := by decide +kernel
theorem dX5_choose_76 : decode cX5_choose 76 = .ok (.iload_n 3, 1) := by decide +kernel
