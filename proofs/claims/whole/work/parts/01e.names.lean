theorem dX5_choose_77 : decode cX5_choose 77 = .ok (.goto 4, 3) := by decide +kernel
theorem dX5_choose_80 : decode cX5_choose 80 = .ok (.iload_n 2, 1) := by decide +kernel
theorem dX5_choose_81 : decode cX5_choose 81 = .ok (.istore_n 2, 1) := by decide +kernel
theorem dX5_choose_82 : decode cX5_choose 82 = .ok (.aload_n 0, 1) := by decide +kernel
theorem dX5_choose_83 : decode cX5_choose 83 = .ok (.getfield 29, 3) := by decide +kernel
theorem dX5_choose_86 : decode cX5_choose 86 = .ok (.iload_n 1, 1) := by decide +kernel
theorem dX5_choose_87 : decode cX5_choose 87 = .ok (.iload 4, 2) := by decide +kernel
theorem dX5_choose_89 : decode cX5_choose 89 = .ok (.aload_n 0, 1) := by decide +kernel
theorem dX5_choose_90 : decode cX5_choose 90 = .ok (.getfield 29, 3) := by decide +kernel
theorem dX5_choose_93 : decode cX5_choose 93 = .ok (.iload_n 1, 1) := by decide +kernel
theorem dX5_choose_94 : decode cX5_choose 94 = .ok (.iaload, 1) := by decide +kernel
theorem dX5_choose_95 : decode cX5_choose 95 = .ok (.if_icmp .ge 8, 3) := by decide +kernel
theorem dX5_choose_98 : decode cX5_choose 98 = .ok (.iload 4, 2) := by decide +kernel
theorem dX5_choose_100 : decode cX5_choose 100 = .ok (.goto 9, 3) := by decide +kernel
theorem dX5_choose_103 : decode cX5_choose 103 = .ok (.aload_n 0, 1) := by decide +kernel
theorem dX5_choose_104 : decode cX5_choose 104 = .ok (.getfield 29, 3) := by decide +kernel
theorem dX5_choose_107 : decode cX5_choose 107 = .ok (.iload_n 1, 1) := by decide +kernel
theorem dX5_choose_108 : decode cX5_choose 108 = .ok (.iaload, 1) := by decide +kernel
theorem dX5_choose_109 : decode cX5_choose 109 = .ok (.iastore, 1) := by decide +kernel
theorem dX5_choose_110 : decode cX5_choose 110 = .ok (.iinc 3 1, 3) := by decide +kernel
theorem dX5_choose_113 : decode cX5_choose 113 = .ok (.goto (-92), 3) := by decide +kernel
theorem dX5_choose_116 : decode cX5_choose 116 = .ok (.iload_n 2, 1) := by decide +kernel
theorem dX5_choose_117 : decode cX5_choose 117 = .ok (.ireturn, 1) := by decide +kernel
set_option maxRecDepth 20000 in
theorem ggX5_makeLeast_X5_findLeast : GoodIn wsX5_makeLeast wsX5_findLeast := goodIn_r _ [8, 3, 9, 10, 11, 12, 7, 13, 14, 2, 15, 31, 32, 33, 34, 35, 36, 37, 38, 39, 40, 41, 42, 43, 44, 45, 46] (by decide +kernel) (by decide +kernel)
set_option maxRecDepth 20000 in
theorem gX5_makeLeast_X5_findLeast : GoodIn wsX5_makeLeast (wsV RX5 91 RX5 yX5_findLeast wsX5_findLeast) := goodIn_app (goodIn_of _ (by decide +kernel)) ggX5_makeLeast_X5_findLeast
set_option maxRecDepth 20000 in
theorem ggX5_makeLeast_X5_choose : GoodIn wsX5_makeLeast wsX5_choose := goodIn_r _ [19, 1, 3, 20, 21, 7, 22, 31, 32, 33, 34, 35, 36, 37, 38, 39, 40, 41, 42, 43, 44, 45, 46] (by decide +kernel) (by decide +kernel)
set_option maxRecDepth 20000 in
theorem gX5_makeLeast_X5_choose : GoodIn wsX5_makeLeast (wsV RX5 94 RX5 yX5_choose wsX5_choose) := goodIn_app (goodIn_of _ (by decide +kernel)) ggX5_makeLeast_X5_choose
set_option maxRecDepth 20000 in
theorem ggX5_makeLeast_X5_lay_ : GoodIn wsX5_makeLeast wsX5_lay_ := goodIn_r _ [26, 27, 28, 29, 30, 31, 32, 33, 34, 35, 36, 37, 38, 39, 40, 41, 42, 43, 44, 45, 46] (by decide +kernel) (by decide +kernel)
set_option maxRecDepth 20000 in
theorem gX5_makeLeast_X5_lay_ : GoodIn wsX5_makeLeast (wsV RX5 84 RX5 yX5_lay_ wsX5_lay_) := goodIn_app (goodIn_of _ (by decide +kernel)) ggX5_makeLeast_X5_lay_
theorem dX5_makeLeast_0 : decode cX5_makeLeast 0 = .ok (.aload_n 0, 1) := by decide +kernel
theorem dX5_makeLeast_1 : decode cX5_makeLeast 1 = .ok (.getfield 29, 3) := by decide +kernel
theorem dX5_makeLeast_4 : decode cX5_makeLeast 4 = .ok (.aload_n 0, 1) := by decide +kernel
theorem dX5_makeLeast_5 : decode cX5_makeLeast 5 = .ok (.getfield 45, 3) := by decide +kernel
theorem dX5_makeLeast_8 : decode cX5_makeLeast 8 = .ok (.iconst 0, 1) := by decide +kernel
theorem dX5_makeLeast_9 : decode cX5_makeLeast 9 = .ok (.iastore, 1) := by decide +kernel
theorem dX5_makeLeast_10 : decode cX5_makeLeast 10 = .ok (.aload_n 0, 1) := by decide +kernel
theorem dX5_makeLeast_11 : decode cX5_makeLeast 11 = .ok (.getfield 45, 3) := by decide +kernel
theorem dX5_makeLeast_14 : decode cX5_makeLeast 14 = .ok (.iconst 1, 1) := by decide +kernel
theorem dX5_makeLeast_15 : decode cX5_makeLeast 15 = .ok (.isub, 1) := by decide +kernel
theorem dX5_makeLeast_16 : decode cX5_makeLeast 16 = .ok (.istore_n 1, 1) := by decide +kernel
theorem dX5_makeLeast_17 : decode cX5_makeLeast 17 = .ok (.iload_n 1, 1) := by decide +kernel
theorem dX5_makeLeast_18 : decode cX5_makeLeast 18 = .ok (.ifCond .lt 20, 3) := by decide +kernel
theorem dX5_makeLeast_21 : decode cX5_makeLeast 21 = .ok (.aload_n 0, 1) := by decide +kernel
theorem dX5_makeLeast_22 : decode cX5_makeLeast 22 = .ok (.iload_n 1, 1) := by decide +kernel
theorem dX5_makeLeast_23 : decode cX5_makeLeast 23 = .ok (.invokevirtual 91, 3) := by decide +kernel
theorem dX5_makeLeast_26 : decode cX5_makeLeast 26 = .ok (.aload_n 0, 1) := by decide +kernel
theorem dX5_makeLeast_27 : decode cX5_makeLeast 27 = .ok (.iload_n 1, 1) := by decide +kernel
theorem dX5_makeLeast_28 : decode cX5_makeLeast 28 = .ok (.invokevirtual 94, 3) := by decide +kernel
theorem dX5_makeLeast_31 : decode cX5_makeLeast 31 = .ok (.istore_n 2, 1) := by decide +kernel
theorem dX5_makeLeast_32 : decode cX5_makeLeast 32 = .ok (.iinc 1 (-1), 3) := by decide +kernel
theorem dX5_makeLeast_35 : decode cX5_makeLeast 35 = .ok (.goto (-18), 3) := by decide +kernel
theorem dX5_makeLeast_38 : decode cX5_makeLeast 38 = .ok (.iconst 0, 1) := by decide +kernel
theorem dX5_makeLeast_39 : decode cX5_makeLeast 39 = .ok (.istore_n 1, 1) := by decide +kernel
theorem dX5_makeLeast_40 : decode cX5_makeLeast 40 = .ok (.iload_n 1, 1) := by decide +kernel
theorem dX5_makeLeast_41 : decode cX5_makeLeast 41 = .ok (.aload_n 0, 1) := by decide +kernel
theorem dX5_makeLeast_42 : decode cX5_makeLeast 42 = .ok (.getfield 45, 3) := by decide +kernel
theorem dX5_makeLeast_45 : decode cX5_makeLeast 45 = .ok (.if_icmp .ge 43, 3) := by decide +kernel
theorem dX5_makeLeast_48 : decode cX5_makeLeast 48 = .ok (.aload_n 0, 1) := by decide +kernel
theorem dX5_makeLeast_49 : decode cX5_makeLeast 49 = .ok (.iload_n 1, 1) := by decide +kernel
theorem dX5_makeLeast_50 : decode cX5_makeLeast 50 = .ok (.invokevirtual 91, 3) := by decide +kernel
theorem dX5_makeLeast_53 : decode cX5_makeLeast 53 = .ok (.aload_n 0, 1) := by decide +kernel
theorem dX5_makeLeast_54 : decode cX5_makeLeast 54 = .ok (.iload_n 1, 1) := by decide +kernel
theorem dX5_makeLeast_55 : decode cX5_makeLeast 55 = .ok (.invokevirtual 94, 3) := by decide +kernel
theorem dX5_makeLeast_58 : decode cX5_makeLeast 58 = .ok (.istore_n 2, 1) := by decide +kernel
theorem dX5_makeLeast_59 : decode cX5_makeLeast 59 = .ok (.aload_n 0, 1) := by decide +kernel
theorem dX5_makeLeast_60 : decode cX5_makeLeast 60 = .ok (.iconst 3, 1) := by decide +kernel
theorem dX5_makeLeast_61 : decode cX5_makeLeast 61 = .ok (.iload_n 1, 1) := by decide +kernel
theorem dX5_makeLeast_62 : decode cX5_makeLeast 62 = .ok (.iload_n 2, 1) := by decide +kernel
theorem dX5_makeLeast_63 : decode cX5_makeLeast 63 = .ok (.iload_n 2, 1) := by decide +kernel
theorem dX5_makeLeast_64 : decode cX5_makeLeast 64 = .ok (.iconst 1, 1) := by decide +kernel
theorem dX5_makeLeast_65 : decode cX5_makeLeast 65 = .ok (.if_icmp .ne 7, 3) := by decide +kernel
theorem dX5_makeLeast_68 : decode cX5_makeLeast 68 = .ok (.iconst 0, 1) := by decide +kernel
theorem dX5_makeLeast_69 : decode cX5_makeLeast 69 = .ok (.goto 9, 3) := by decide +kernel
theorem dX5_makeLeast_72 : decode cX5_makeLeast 72 = .ok (.aload_n 0, 1) := by decide +kernel
theorem dX5_makeLeast_73 : decode cX5_makeLeast 73 = .ok (.getfield 32, 3) := by decide +kernel
theorem dX5_makeLeast_76 : decode cX5_makeLeast 76 = .ok (.iload_n 2, 1) := by decide +kernel
theorem dX5_makeLeast_77 : decode cX5_makeLeast 77 = .ok (.iaload, 1) := by decide +kernel
theorem dX5_makeLeast_78 : decode cX5_makeLeast 78 = .ok (.invokevirtual 84, 3) := by decide +kernel
theorem dX5_makeLeast_81 : decode cX5_makeLeast 81 = .ok (.iload_n 1, 1) := by decide +kernel
theorem dX5_makeLeast_82 : decode cX5_makeLeast 82 = .ok (.iload_n 2, 1) := by decide +kernel
theorem dX5_makeLeast_83 : decode cX5_makeLeast 83 = .ok (.iadd, 1) := by decide +kernel
theorem dX5_makeLeast_84 : decode cX5_makeLeast 84 = .ok (.istore_n 1, 1) := by decide +kernel
theorem dX5_makeLeast_85 : decode cX5_makeLeast 85 = .ok (.goto (-45), 3) := by decide +kernel
theorem dX5_makeLeast_88 : decode cX5_makeLeast 88 = .ok (.return_, 1) := by decide +kernel
set_option maxRecDepth 20000 in
theorem ggX5_isWay_X5_in : GoodIn wsX5_isWay wsX5_in := goodIn_r _ [4] (by decide +kernel) (by decide +kernel)
set_option maxRecDepth 20000 in
theorem gX5_isWay_X5_in : GoodIn wsX5_isWay (va_wsS RX5 48 yX5_in wsX5_in) := goodIn_app (goodIn_of _ (by decide +kernel)) ggX5_isWay_X5_in
theorem dX5_isWay_0 : decode cX5_isWay 0 = .ok (.iload_n 0, 1) := by decide +kernel
theorem dX5_isWay_1 : decode cX5_isWay 1 = .ok (.iconst 0, 1) := by decide +kernel
theorem dX5_isWay_2 : decode cX5_isWay 2 = .ok (.iconst 3, 1) := by decide +kernel
theorem dX5_isWay_3 : decode cX5_isWay 3 = .ok (.invokestatic 48, 3) := by decide +kernel
theorem dX5_isWay_6 : decode cX5_isWay 6 = .ok (.ireturn, 1) := by decide +kernel
set_option maxRecDepth 20000 in
theorem ggX5_pieces_X5_isWay : GoodIn wsX5_pieces wsX5_isWay := goodIn_r _ [6, 7, 8, 5, 9] (by decide +kernel) (by decide +kernel)
set_option maxRecDepth 20000 in
theorem gX5_pieces_X5_isWay : GoodIn wsX5_pieces (va_wsS RX5 97 yX5_isWay wsX5_isWay) := goodIn_app (goodIn_of _ (by decide +kernel)) ggX5_pieces_X5_isWay
set_option maxRecDepth 20000 in
theorem ggX5_pieces_X5_make : GoodIn wsX5_pieces wsX5_make := goodIn_r _ [13, 14, 2, 15, 16, 17, 18, 19, 20, 21, 5, 22, 23, 24, 25, 26, 27, 28, 29, 30, 31, 32, 33, 34, 35, 36, 37, 38, 39, 40, 41, 42, 43, 44, 45, 46, 47, 48, 49, 50, 51, 52, 53, 54, 55, 56, 57, 58, 59, 60, 61, 62, 63, 64, 65, 66, 67, 68, 69] (by decide +kernel) (by decide +kernel)
set_option maxRecDepth 20000 in
theorem gX5_pieces_X5_make : GoodIn wsX5_pieces (wsV RX5 101 RX5 yX5_make wsX5_make) := goodIn_app (goodIn_of _ (by decide +kernel)) ggX5_pieces_X5_make
theorem dX5_pieces_0 : decode cX5_pieces 0 = .ok (.aload_n 0, 1) := by decide +kernel
theorem dX5_pieces_1 : decode cX5_pieces 1 = .ok (.iconst 0, 1) := by decide +kernel
theorem dX5_pieces_2 : decode cX5_pieces 2 = .ok (.putfield 42, 3) := by decide +kernel
theorem dX5_pieces_5 : decode cX5_pieces 5 = .ok (.iload_n 1, 1) := by decide +kernel
theorem dX5_pieces_6 : decode cX5_pieces 6 = .ok (.invokestatic 97, 3) := by decide +kernel
theorem dX5_pieces_9 : decode cX5_pieces 9 = .ok (.ifCond .ne 5, 3) := by decide +kernel
theorem dX5_pieces_12 : decode cX5_pieces 12 = .ok (.iconst (-1), 1) := by decide +kernel
theorem dX5_pieces_13 : decode cX5_pieces 13 = .ok (.ireturn, 1) := by decide +kernel
theorem dX5_pieces_14 : decode cX5_pieces 14 = .ok (.aload_n 0, 1) := by decide +kernel
theorem dX5_pieces_15 : decode cX5_pieces 15 = .ok (.iload_n 1, 1) := by decide +kernel
theorem dX5_pieces_16 : decode cX5_pieces 16 = .ok (.invokevirtual 101, 3) := by decide +kernel
theorem dX5_pieces_19 : decode cX5_pieces 19 = .ok (.aload_n 0, 1) := by decide +kernel
theorem dX5_pieces_20 : decode cX5_pieces 20 = .ok (.getfield 17, 3) := by decide +kernel
theorem dX5_pieces_23 : decode cX5_pieces 23 = .ok (.iload_n 1, 1) := by decide +kernel
theorem dX5_pieces_24 : decode cX5_pieces 24 = .ok (.iaload, 1) := by decide +kernel
theorem dX5_pieces_25 : decode cX5_pieces 25 = .ok (.ireturn, 1) := by decide +kernel
set_option maxRecDepth 20000 in
theorem ggX5_piece_X5_isWay : GoodIn wsX5_piece wsX5_isWay := goodIn_r _ [9, 10, 11, 8, 12] (by decide +kernel) (by decide +kernel)
set_option maxRecDepth 20000 in
theorem gX5_piece_X5_isWay : GoodIn wsX5_piece (va_wsS RX5 97 yX5_isWay wsX5_isWay) := goodIn_app (goodIn_of _ (by decide +kernel)) ggX5_piece_X5_isWay
set_option maxRecDepth 20000 in
theorem ggX5_piece_X5_make : GoodIn wsX5_piece wsX5_make := goodIn_r _ [16, 17, 2, 18, 19, 20, 21, 22, 23, 24, 8, 25, 26, 27, 28, 29, 30, 31, 32, 33, 34, 35, 36, 37, 38, 39, 40, 41, 42, 43, 44, 45, 46, 47, 48, 49, 3, 4, 5, 50, 51, 52, 53, 54, 55, 56, 57, 58, 59, 60, 61, 62, 63, 64, 65, 66, 67, 68, 69] (by decide +kernel) (by decide +kernel)
set_option maxRecDepth 20000 in
theorem gX5_piece_X5_make : GoodIn wsX5_piece (wsV RX5 101 RX5 yX5_make wsX5_make) := goodIn_app (goodIn_of _ (by decide +kernel)) ggX5_piece_X5_make
set_option maxRecDepth 20000 in
theorem ggX5_piece_X5_in : GoodIn wsX5_piece wsX5_in := goodIn_r _ [12] (by decide +kernel) (by decide +kernel)
set_option maxRecDepth 20000 in
theorem gX5_piece_X5_in : GoodIn wsX5_piece (va_wsS RX5 48 yX5_in wsX5_in) := goodIn_app (goodIn_of _ (by decide +kernel)) ggX5_piece_X5_in
theorem dX5_piece_0 : decode cX5_piece 0 = .ok (.aload_n 0, 1) := by decide +kernel
theorem dX5_piece_1 : decode cX5_piece 1 = .ok (.iconst 0, 1) := by decide +kernel
theorem dX5_piece_2 : decode cX5_piece 2 = .ok (.putfield 42, 3) := by decide +kernel
theorem dX5_piece_5 : decode cX5_piece 5 = .ok (.iload_n 1, 1) := by decide +kernel
theorem dX5_piece_6 : decode cX5_piece 6 = .ok (.invokestatic 97, 3) := by decide +kernel
theorem dX5_piece_9 : decode cX5_piece 9 = .ok (.ifCond .ne 5, 3) := by decide +kernel
theorem dX5_piece_12 : decode cX5_piece 12 = .ok (.iconst (-1), 1) := by decide +kernel
theorem dX5_piece_13 : decode cX5_piece 13 = .ok (.ireturn, 1) := by decide +kernel
theorem dX5_piece_14 : decode cX5_piece 14 = .ok (.aload_n 0, 1) := by decide +kernel
theorem dX5_piece_15 : decode cX5_piece 15 = .ok (.iload_n 1, 1) := by decide +kernel
theorem dX5_piece_16 : decode cX5_piece 16 = .ok (.invokevirtual 101, 3) := by decide +kernel
theorem dX5_piece_19 : decode cX5_piece 19 = .ok (.iload_n 2, 1) := by decide +kernel
theorem dX5_piece_20 : decode cX5_piece 20 = .ok (.iconst 0, 1) := by decide +kernel
theorem dX5_piece_21 : decode cX5_piece 21 = .ok (.aload_n 0, 1) := by decide +kernel
theorem dX5_piece_22 : decode cX5_piece 22 = .ok (.getfield 17, 3) := by decide +kernel
theorem dX5_piece_25 : decode cX5_piece 25 = .ok (.iload_n 1, 1) := by decide +kernel
theorem dX5_piece_26 : decode cX5_piece 26 = .ok (.iaload, 1) := by decide +kernel
theorem dX5_piece_27 : decode cX5_piece 27 = .ok (.iconst 1, 1) := by decide +kernel
theorem dX5_piece_28 : decode cX5_piece 28 = .ok (.isub, 1) := by decide +kernel
theorem dX5_piece_29 : decode cX5_piece 29 = .ok (.invokestatic 48, 3) := by decide +kernel
theorem dX5_piece_32 : decode cX5_piece 32 = .ok (.ifCond .ne 5, 3) := by decide +kernel
theorem dX5_piece_35 : decode cX5_piece 35 = .ok (.iconst (-1), 1) := by decide +kernel
theorem dX5_piece_36 : decode cX5_piece 36 = .ok (.ireturn, 1) := by decide +kernel
theorem dX5_piece_37 : decode cX5_piece 37 = .ok (.sipush 300, 3) := by decide +kernel
theorem dX5_piece_40 : decode cX5_piece 40 = .ok (.iload_n 1, 1) := by decide +kernel
theorem dX5_piece_41 : decode cX5_piece 41 = .ok (.imul, 1) := by decide +kernel
theorem dX5_piece_42 : decode cX5_piece 42 = .ok (.iload_n 2, 1) := by decide +kernel
theorem dX5_piece_43 : decode cX5_piece 43 = .ok (.iadd, 1) := by decide +kernel
theorem dX5_piece_44 : decode cX5_piece 44 = .ok (.istore 4, 2) := by decide +kernel
theorem dX5_piece_46 : decode cX5_piece 46 = .ok (.iload_n 3, 1) := by decide +kernel
theorem dX5_piece_47 : decode cX5_piece 47 = .ok (.ifCond .ne 13, 3) := by decide +kernel
theorem dX5_piece_50 : decode cX5_piece 50 = .ok (.aload_n 0, 1) := by decide +kernel
theorem dX5_piece_51 : decode cX5_piece 51 = .ok (.getfield 20, 3) := by decide +kernel
theorem dX5_piece_54 : decode cX5_piece 54 = .ok (.iload 4, 2) := by decide +kernel
theorem dX5_piece_56 : decode cX5_piece 56 = .ok (.iaload, 1) := by decide +kernel
theorem dX5_piece_57 : decode cX5_piece 57 = .ok (.goto 35, 3) := by decide +kernel
theorem dX5_piece_60 : decode cX5_piece 60 = .ok (.iload_n 3, 1) := by decide +kernel
theorem dX5_piece_61 : decode cX5_piece 61 = .ok (.iconst 1, 1) := by decide +kernel
theorem dX5_piece_62 : decode cX5_piece 62 = .ok (.if_icmp .ne 13, 3) := by decide +kernel
theorem dX5_piece_65 : decode cX5_piece 65 = .ok (.aload_n 0, 1) := by decide +kernel
theorem dX5_piece_66 : decode cX5_piece 66 = .ok (.getfield 23, 3) := by decide +kernel
theorem dX5_piece_69 : decode cX5_piece 69 = .ok (.iload 4, 2) := by decide +kernel
theorem dX5_piece_71 : decode cX5_piece 71 = .ok (.iaload, 1) := by decide +kernel
theorem dX5_piece_72 : decode cX5_piece 72 = .ok (.goto 20, 3) := by decide +kernel
theorem dX5_piece_75 : decode cX5_piece 75 = .ok (.iload_n 3, 1) := by decide +kernel
theorem dX5_piece_76 : decode cX5_piece 76 = .ok (.iconst 2, 1) := by decide +kernel
theorem dX5_piece_77 : decode cX5_piece 77 = .ok (.if_icmp .ne 13, 3) := by decide +kernel
theorem dX5_piece_80 : decode cX5_piece 80 = .ok (.aload_n 0, 1) := by decide +kernel
theorem dX5_piece_81 : decode cX5_piece 81 = .ok (.getfield 26, 3) := by decide +kernel
theorem dX5_piece_84 : decode cX5_piece 84 = .ok (.iload 4, 2) := by decide +kernel
theorem dX5_piece_86 : decode cX5_piece 86 = .ok (.iaload, 1) := by decide +kernel
theorem dX5_piece_87 : decode cX5_piece 87 = .ok (.goto 5, 3) := by decide +kernel
theorem dX5_piece_90 : decode cX5_piece 90 = .ok (.bipush (-2), 2) := by decide +kernel
theorem dX5_piece_92 : decode cX5_piece 92 = .ok (.ireturn, 1) := by decide +kernel
set_option maxRecDepth 20000 in
theorem ggX5_bitsOf_X5_make : GoodIn wsX5_bitsOf wsX5_make := goodIn_r _ [9, 10, 2, 11, 12, 13, 14, 15, 16, 17, 8, 18, 19, 20, 21, 22, 23, 24, 25, 26, 27, 28, 29, 30, 31, 32, 33, 34, 35, 36, 37, 38, 39, 40, 41, 42, 43, 4, 3, 44, 45, 46, 47, 48, 49, 50, 51, 52, 53, 54, 55, 56, 57, 58, 59, 60, 61, 62, 63] (by decide +kernel) (by decide +kernel)
set_option maxRecDepth 20000 in
theorem gX5_bitsOf_X5_make : GoodIn wsX5_bitsOf (wsV RX5 101 RX5 yX5_make wsX5_make) := goodIn_app (goodIn_of _ (by decide +kernel)) ggX5_bitsOf_X5_make
set_option maxRecDepth 20000 in
theorem ggX5_bitsOf_X5_g : GoodIn wsX5_bitsOf wsX5_g := goodIn_r _ [38] (by decide +kernel) (by decide +kernel)
set_option maxRecDepth 20000 in
theorem gX5_bitsOf_X5_g : GoodIn wsX5_bitsOf (va_wsS RX5 87 yX5_g wsX5_g) := goodIn_app (goodIn_of _ (by decide +kernel)) ggX5_bitsOf_X5_g
theorem dX5_bitsOf_0 : decode cX5_bitsOf 0 = .ok (.aload_n 0, 1) := by decide +kernel
theorem dX5_bitsOf_1 : decode cX5_bitsOf 1 = .ok (.iload_n 1, 1) := by decide +kernel
theorem dX5_bitsOf_2 : decode cX5_bitsOf 2 = .ok (.invokevirtual 101, 3) := by decide +kernel
theorem dX5_bitsOf_5 : decode cX5_bitsOf 5 = .ok (.iconst 0, 1) := by decide +kernel
theorem dX5_bitsOf_6 : decode cX5_bitsOf 6 = .ok (.istore_n 3, 1) := by decide +kernel
theorem dX5_bitsOf_7 : decode cX5_bitsOf 7 = .ok (.iconst 0, 1) := by decide +kernel
theorem dX5_bitsOf_8 : decode cX5_bitsOf 8 = .ok (.istore 4, 2) := by decide +kernel
theorem dX5_bitsOf_10 : decode cX5_bitsOf 10 = .ok (.iconst 0, 1) := by decide +kernel
theorem dX5_bitsOf_11 : decode cX5_bitsOf 11 = .ok (.istore 5, 2) := by decide +kernel
theorem dX5_bitsOf_13 : decode cX5_bitsOf 13 = .ok (.iconst 0, 1) := by decide +kernel
theorem dX5_bitsOf_14 : decode cX5_bitsOf 14 = .ok (.istore 6, 2) := by decide +kernel
theorem dX5_bitsOf_16 : decode cX5_bitsOf 16 = .ok (.aload_n 0, 1) := by decide +kernel
theorem dX5_bitsOf_17 : decode cX5_bitsOf 17 = .ok (.iconst 0, 1) := by decide +kernel
theorem dX5_bitsOf_18 : decode cX5_bitsOf 18 = .ok (.putfield 104, 3) := by decide +kernel
theorem dX5_bitsOf_21 : decode cX5_bitsOf 21 = .ok (.sipush 300, 3) := by decide +kernel
theorem dX5_bitsOf_24 : decode cX5_bitsOf 24 = .ok (.iload_n 1, 1) := by decide +kernel
theorem dX5_bitsOf_25 : decode cX5_bitsOf 25 = .ok (.imul, 1) := by decide +kernel
theorem dX5_bitsOf_26 : decode cX5_bitsOf 26 = .ok (.istore 7, 2) := by decide +kernel
theorem dX5_bitsOf_28 : decode cX5_bitsOf 28 = .ok (.iload 7, 2) := by decide +kernel
theorem dX5_bitsOf_30 : decode cX5_bitsOf 30 = .ok (.sipush 300, 3) := by decide +kernel
theorem dX5_bitsOf_33 : decode cX5_bitsOf 33 = .ok (.iload_n 1, 1) := by decide +kernel
theorem dX5_bitsOf_34 : decode cX5_bitsOf 34 = .ok (.imul, 1) := by decide +kernel
theorem dX5_bitsOf_35 : decode cX5_bitsOf 35 = .ok (.aload_n 0, 1) := by decide +kernel
theorem dX5_bitsOf_36 : decode cX5_bitsOf 36 = .ok (.getfield 17, 3) := by decide +kernel
theorem dX5_bitsOf_39 : decode cX5_bitsOf 39 = .ok (.iload_n 1, 1) := by decide +kernel
theorem dX5_bitsOf_40 : decode cX5_bitsOf 40 = .ok (.iaload, 1) := by decide +kernel
theorem dX5_bitsOf_41 : decode cX5_bitsOf 41 = .ok (.iadd, 1) := by decide +kernel
theorem dX5_bitsOf_42 : decode cX5_bitsOf 42 = .ok (.if_icmp .ge 168, 3) := by decide +kernel
theorem dX5_bitsOf_45 : decode cX5_bitsOf 45 = .ok (.aload_n 0, 1) := by decide +kernel
theorem dX5_bitsOf_46 : decode cX5_bitsOf 46 = .ok (.getfield 26, 3) := by decide +kernel
theorem dX5_bitsOf_49 : decode cX5_bitsOf 49 = .ok (.iload 7, 2) := by decide +kernel
theorem dX5_bitsOf_51 : decode cX5_bitsOf 51 = .ok (.iaload, 1) := by decide +kernel
theorem dX5_bitsOf_52 : decode cX5_bitsOf 52 = .ok (.istore 8, 2) := by decide +kernel
theorem dX5_bitsOf_54 : decode cX5_bitsOf 54 = .ok (.iload 8, 2) := by decide +kernel
theorem dX5_bitsOf_56 : decode cX5_bitsOf 56 = .ok (.ifCond .ne 9, 3) := by decide +kernel
theorem dX5_bitsOf_59 : decode cX5_bitsOf 59 = .ok (.iinc 3 9, 3) := by decide +kernel
theorem dX5_bitsOf_62 : decode cX5_bitsOf 62 = .ok (.goto 142, 3) := by decide +kernel
theorem dX5_bitsOf_65 : decode cX5_bitsOf 65 = .ok (.iload 8, 2) := by decide +kernel
theorem dX5_bitsOf_67 : decode cX5_bitsOf 67 = .ok (.iload 4, 2) := by decide +kernel
theorem dX5_bitsOf_69 : decode cX5_bitsOf 69 = .ok (.if_icmp .eq 17, 3) := by decide +kernel
theorem dX5_bitsOf_72 : decode cX5_bitsOf 72 = .ok (.iload 8, 2) := by decide +kernel
theorem dX5_bitsOf_74 : decode cX5_bitsOf 74 = .ok (.iload 5, 2) := by decide +kernel
theorem dX5_bitsOf_76 : decode cX5_bitsOf 76 = .ok (.if_icmp .eq 10, 3) := by decide +kernel
theorem dX5_bitsOf_79 : decode cX5_bitsOf 79 = .ok (.iload 8, 2) := by decide +kernel
theorem dX5_bitsOf_81 : decode cX5_bitsOf 81 = .ok (.iload 6, 2) := by decide +kernel
theorem dX5_bitsOf_83 : decode cX5_bitsOf 83 = .ok (.if_icmp .ne 7, 3) := by decide +kernel
theorem dX5_bitsOf_86 : decode cX5_bitsOf 86 = .ok (.iconst 1, 1) := by decide +kernel
theorem dX5_bitsOf_87 : decode cX5_bitsOf 87 = .ok (.goto 4, 3) := by decide +kernel
theorem dX5_bitsOf_90 : decode cX5_bitsOf 90 = .ok (.iconst 0, 1) := by decide +kernel
theorem dX5_bitsOf_91 : decode cX5_bitsOf 91 = .ok (.istore 9, 2) := by decide +kernel
theorem dX5_bitsOf_93 : decode cX5_bitsOf 93 = .ok (.aload_n 0, 1) := by decide +kernel
theorem dX5_bitsOf_94 : decode cX5_bitsOf 94 = .ok (.dup, 1) := by decide +kernel
theorem dX5_bitsOf_95 : decode cX5_bitsOf 95 = .ok (.getfield 104, 3) := by decide +kernel
theorem dX5_bitsOf_98 : decode cX5_bitsOf 98 = .ok (.iload 9, 2) := by decide +kernel
theorem dX5_bitsOf_100 : decode cX5_bitsOf 100 = .ok (.ifCond .eq 7, 3) := by decide +kernel
theorem dX5_bitsOf_103 : decode cX5_bitsOf 103 = .ok (.iconst 1, 1) := by decide +kernel
theorem dX5_bitsOf_104 : decode cX5_bitsOf 104 = .ok (.goto 4, 3) := by decide +kernel
theorem dX5_bitsOf_107 : decode cX5_bitsOf 107 = .ok (.iconst 0, 1) := by decide +kernel
theorem dX5_bitsOf_108 : decode cX5_bitsOf 108 = .ok (.iadd, 1) := by decide +kernel
theorem dX5_bitsOf_109 : decode cX5_bitsOf 109 = .ok (.putfield 104, 3) := by decide +kernel
theorem dX5_bitsOf_112 : decode cX5_bitsOf 112 = .ok (.iload_n 3, 1) := by decide +kernel
theorem dX5_bitsOf_113 : decode cX5_bitsOf 113 = .ok (.iload 9, 2) := by decide +kernel
theorem dX5_bitsOf_115 : decode cX5_bitsOf 115 = .ok (.ifCond .eq 24, 3) := by decide +kernel
theorem dX5_bitsOf_118 : decode cX5_bitsOf 118 = .ok (.iload_n 2, 1) := by decide +kernel
theorem dX5_bitsOf_119 : decode cX5_bitsOf 119 = .ok (.ifCond .eq 20, 3) := by decide +kernel
theorem dX5_bitsOf_122 : decode cX5_bitsOf 122 = .ok (.iconst 4, 1) := by decide +kernel
theorem dX5_bitsOf_123 : decode cX5_bitsOf 123 = .ok (.aload_n 0, 1) := by decide +kernel
theorem dX5_bitsOf_124 : decode cX5_bitsOf 124 = .ok (.getfield 23, 3) := by decide +kernel
theorem dX5_bitsOf_127 : decode cX5_bitsOf 127 = .ok (.iload 7, 2) := by decide +kernel
theorem dX5_bitsOf_129 : decode cX5_bitsOf 129 = .ok (.iaload, 1) := by decide +kernel
theorem dX5_bitsOf_130 : decode cX5_bitsOf 130 = .ok (.iconst 2, 1) := by decide +kernel
theorem dX5_bitsOf_131 : decode cX5_bitsOf 131 = .ok (.isub, 1) := by decide +kernel
theorem dX5_bitsOf_132 : decode cX5_bitsOf 132 = .ok (.invokestatic 87, 3) := by decide +kernel
theorem dX5_bitsOf_135 : decode cX5_bitsOf 135 = .ok (.iadd, 1) := by decide +kernel
theorem dX5_bitsOf_136 : decode cX5_bitsOf 136 = .ok (.goto 23, 3) := by decide +kernel
theorem dX5_bitsOf_139 : decode cX5_bitsOf 139 = .ok (.iconst 2, 1) := by decide +kernel
theorem dX5_bitsOf_140 : decode cX5_bitsOf 140 = .ok (.aload_n 0, 1) := by decide +kernel
theorem dX5_bitsOf_141 : decode cX5_bitsOf 141 = .ok (.getfield 23, 3) := by decide +kernel
theorem dX5_bitsOf_144 : decode cX5_bitsOf 144 = .ok (.iload 7, 2) := by decide +kernel
theorem dX5_bitsOf_146 : decode cX5_bitsOf 146 = .ok (.iaload, 1) := by decide +kernel
theorem dX5_bitsOf_147 : decode cX5_bitsOf 147 = .ok (.iconst 2, 1) := by decide +kernel
theorem dX5_bitsOf_148 : decode cX5_bitsOf 148 = .ok (.isub, 1) := by decide +kernel
theorem dX5_bitsOf_149 : decode cX5_bitsOf 149 = .ok (.invokestatic 87, 3) := by decide +kernel
theorem dX5_bitsOf_152 : decode cX5_bitsOf 152 = .ok (.iadd, 1) := by decide +kernel
theorem dX5_bitsOf_153 : decode cX5_bitsOf 153 = .ok (.iload 8, 2) := by decide +kernel
theorem dX5_bitsOf_155 : decode cX5_bitsOf 155 = .ok (.invokestatic 87, 3) := by decide +kernel
theorem dX5_bitsOf_158 : decode cX5_bitsOf 158 = .ok (.iadd, 1) := by decide +kernel
theorem dX5_bitsOf_159 : decode cX5_bitsOf 159 = .ok (.iadd, 1) := by decide +kernel
theorem dX5_bitsOf_160 : decode cX5_bitsOf 160 = .ok (.istore_n 3, 1) := by decide +kernel
theorem dX5_bitsOf_161 : decode cX5_bitsOf 161 = .ok (.iload 8, 2) := by decide +kernel
theorem dX5_bitsOf_163 : decode cX5_bitsOf 163 = .ok (.iload 4, 2) := by decide +kernel
theorem dX5_bitsOf_165 : decode cX5_bitsOf 165 = .ok (.if_icmp .eq 10, 3) := by decide +kernel
theorem dX5_bitsOf_168 : decode cX5_bitsOf 168 = .ok (.iload 8, 2) := by decide +kernel
theorem dX5_bitsOf_170 : decode cX5_bitsOf 170 = .ok (.iload 5, 2) := by decide +kernel
theorem dX5_bitsOf_172 : decode cX5_bitsOf 172 = .ok (.if_icmp .ne 8, 3) := by decide +kernel
theorem dX5_bitsOf_175 : decode cX5_bitsOf 175 = .ok (.iload 6, 2) := by decide +kernel
theorem dX5_bitsOf_177 : decode cX5_bitsOf 177 = .ok (.goto 5, 3) := by decide +kernel
theorem dX5_bitsOf_180 : decode cX5_bitsOf 180 = .ok (.iload 5, 2) := by decide +kernel
theorem dX5_bitsOf_182 : decode cX5_bitsOf 182 = .ok (.istore 6, 2) := by decide +kernel
theorem dX5_bitsOf_184 : decode cX5_bitsOf 184 = .ok (.iload 8, 2) := by decide +kernel
theorem dX5_bitsOf_186 : decode cX5_bitsOf 186 = .ok (.iload 4, 2) := by decide +kernel
theorem dX5_bitsOf_188 : decode cX5_bitsOf 188 = .ok (.if_icmp .ne 8, 3) := by decide +kernel
theorem dX5_bitsOf_191 : decode cX5_bitsOf 191 = .ok (.iload 5, 2) := by decide +kernel
theorem dX5_bitsOf_193 : decode cX5_bitsOf 193 = .ok (.goto 5, 3) := by decide +kernel
theorem dX5_bitsOf_196 : decode cX5_bitsOf 196 = .ok (.iload 4, 2) := by decide +kernel
theorem dX5_bitsOf_198 : decode cX5_bitsOf 198 = .ok (.istore 5, 2) := by decide +kernel
theorem dX5_bitsOf_200 : decode cX5_bitsOf 200 = .ok (.iload 8, 2) := by decide +kernel
theorem dX5_bitsOf_202 : decode cX5_bitsOf 202 = .ok (.istore 4, 2) := by decide +kernel
theorem dX5_bitsOf_204 : decode cX5_bitsOf 204 = .ok (.iinc 7 1, 3) := by decide +kernel
theorem dX5_bitsOf_207 : decode cX5_bitsOf 207 = .ok (.goto (-179), 3) := by decide +kernel
theorem dX5_bitsOf_210 : decode cX5_bitsOf 210 = .ok (.iload_n 3, 1) := by decide +kernel
theorem dX5_bitsOf_211 : decode cX5_bitsOf 211 = .ok (.ireturn, 1) := by decide +kernel
set_option maxRecDepth 20000 in
theorem ggX5_bits_X5_isWay : GoodIn wsX5_bits wsX5_isWay := goodIn_r _ [5, 6, 7, 4, 8] (by decide +kernel) (by decide +kernel)
set_option maxRecDepth 20000 in
theorem gX5_bits_X5_isWay : GoodIn wsX5_bits (va_wsS RX5 97 yX5_isWay wsX5_isWay) := goodIn_app (goodIn_of _ (by decide +kernel)) ggX5_bits_X5_isWay
set_option maxRecDepth 20000 in
theorem ggX5_bits_X5_in : GoodIn wsX5_bits wsX5_in := goodIn_r _ [8] (by decide +kernel) (by decide +kernel)
set_option maxRecDepth 20000 in
theorem gX5_bits_X5_in : GoodIn wsX5_bits (va_wsS RX5 48 yX5_in wsX5_in) := goodIn_app (goodIn_of _ (by decide +kernel)) ggX5_bits_X5_in
set_option maxRecDepth 20000 in
theorem ggX5_bits_X5_bitsOf : GoodIn wsX5_bits wsX5_bitsOf := goodIn_r _ [12, 13, 14, 15, 16, 17, 18, 19, 4, 20, 21, 22, 23, 24, 25, 26, 27, 28, 29, 30, 31, 32, 33, 34, 35, 36, 37, 38, 39, 40, 41, 42, 43, 44, 45, 46, 47, 48, 49, 50, 51, 52, 53, 54, 55, 56, 57, 58, 59, 60, 61, 62, 63, 64, 65, 66, 67, 68, 69, 70, 71, 72, 73, 74] (by decide +kernel) (by decide +kernel)
set_option maxRecDepth 20000 in
theorem gX5_bits_X5_bitsOf : GoodIn wsX5_bits (wsV RX5 107 RX5 yX5_bitsOf wsX5_bitsOf) := goodIn_app (goodIn_of _ (by decide +kernel)) ggX5_bits_X5_bitsOf
theorem dX5_bits_0 : decode cX5_bits 0 = .ok (.aload_n 0, 1) := by decide +kernel
theorem dX5_bits_1 : decode cX5_bits 1 = .ok (.iconst 0, 1) := by decide +kernel
theorem dX5_bits_2 : decode cX5_bits 2 = .ok (.putfield 42, 3) := by decide +kernel
theorem dX5_bits_5 : decode cX5_bits 5 = .ok (.iload_n 1, 1) := by decide +kernel
theorem dX5_bits_6 : decode cX5_bits 6 = .ok (.invokestatic 97, 3) := by decide +kernel
theorem dX5_bits_9 : decode cX5_bits 9 = .ok (.ifCond .ne 5, 3) := by decide +kernel
theorem dX5_bits_12 : decode cX5_bits 12 = .ok (.iconst (-1), 1) := by decide +kernel
theorem dX5_bits_13 : decode cX5_bits 13 = .ok (.ireturn, 1) := by decide +kernel
theorem dX5_bits_14 : decode cX5_bits 14 = .ok (.iload_n 2, 1) := by decide +kernel
theorem dX5_bits_15 : decode cX5_bits 15 = .ok (.iconst 0, 1) := by decide +kernel
theorem dX5_bits_16 : decode cX5_bits 16 = .ok (.iconst 1, 1) := by decide +kernel
theorem dX5_bits_17 : decode cX5_bits 17 = .ok (.invokestatic 48, 3) := by decide +kernel
theorem dX5_bits_20 : decode cX5_bits 20 = .ok (.ifCond .eq 21, 3) := by decide +kernel
theorem dX5_bits_23 : decode cX5_bits 23 = .ok (.aload_n 0, 1) := by decide +kernel
theorem dX5_bits_24 : decode cX5_bits 24 = .ok (.iload_n 1, 1) := by decide +kernel
theorem dX5_bits_25 : decode cX5_bits 25 = .ok (.iload_n 2, 1) := by decide +kernel
theorem dX5_bits_26 : decode cX5_bits 26 = .ok (.iconst 1, 1) := by decide +kernel
theorem dX5_bits_27 : decode cX5_bits 27 = .ok (.if_icmp .ne 7, 3) := by decide +kernel
theorem dX5_bits_30 : decode cX5_bits 30 = .ok (.iconst 1, 1) := by decide +kernel
theorem dX5_bits_31 : decode cX5_bits 31 = .ok (.goto 4, 3) := by decide +kernel
theorem dX5_bits_34 : decode cX5_bits 34 = .ok (.iconst 0, 1) := by decide +kernel
theorem dX5_bits_35 : decode cX5_bits 35 = .ok (.invokevirtual 107, 3) := by decide +kernel
theorem dX5_bits_38 : decode cX5_bits 38 = .ok (.goto 5, 3) := by decide +kernel
theorem dX5_bits_41 : decode cX5_bits 41 = .ok (.bipush (-2), 2) := by decide +kernel
theorem dX5_bits_43 : decode cX5_bits 43 = .ok (.ireturn, 1) := by decide +kernel
set_option maxRecDepth 20000 in
theorem ggX5_repeats_X5_isWay : GoodIn wsX5_repeats wsX5_isWay := goodIn_r _ [6, 7, 8, 5, 9] (by decide +kernel) (by decide +kernel)
set_option maxRecDepth 20000 in
theorem gX5_repeats_X5_isWay : GoodIn wsX5_repeats (va_wsS RX5 97 yX5_isWay wsX5_isWay) := goodIn_app (goodIn_of _ (by decide +kernel)) ggX5_repeats_X5_isWay
set_option maxRecDepth 20000 in
theorem ggX5_repeats_X5_bitsOf : GoodIn wsX5_repeats wsX5_bitsOf := goodIn_r _ [13, 2, 14, 15, 16, 17, 18, 19, 5, 20, 21, 22, 23, 24, 25, 26, 27, 28, 29, 30, 31, 32, 33, 34, 35, 36, 37, 38, 39, 40, 41, 42, 43, 44, 45, 46, 47, 48, 49, 50, 51, 52, 53, 54, 55, 56, 57, 58, 59, 60, 61, 62, 63, 64, 65, 66, 67, 68, 69, 70, 71, 72, 73, 74] (by decide +kernel) (by decide +kernel)
set_option maxRecDepth 20000 in
theorem gX5_repeats_X5_bitsOf : GoodIn wsX5_repeats (wsV RX5 107 RX5 yX5_bitsOf wsX5_bitsOf) := goodIn_app (goodIn_of _ (by decide +kernel)) ggX5_repeats_X5_bitsOf
theorem dX5_repeats_0 : decode cX5_repeats 0 = .ok (.aload_n 0, 1) := by decide +kernel
theorem dX5_repeats_1 : decode cX5_repeats 1 = .ok (.iconst 0, 1) := by decide +kernel
theorem dX5_repeats_2 : decode cX5_repeats 2 = .ok (.putfield 42, 3) := by decide +kernel
theorem dX5_repeats_5 : decode cX5_repeats 5 = .ok (.iload_n 1, 1) := by decide +kernel
theorem dX5_repeats_6 : decode cX5_repeats 6 = .ok (.invokestatic 97, 3) := by decide +kernel
theorem dX5_repeats_9 : decode cX5_repeats 9 = .ok (.ifCond .ne 5, 3) := by decide +kernel
theorem dX5_repeats_12 : decode cX5_repeats 12 = .ok (.iconst (-1), 1) := by decide +kernel
theorem dX5_repeats_13 : decode cX5_repeats 13 = .ok (.ireturn, 1) := by decide +kernel
theorem dX5_repeats_14 : decode cX5_repeats 14 = .ok (.aload_n 0, 1) := by decide +kernel
theorem dX5_repeats_15 : decode cX5_repeats 15 = .ok (.iload_n 1, 1) := by decide +kernel
theorem dX5_repeats_16 : decode cX5_repeats 16 = .ok (.iconst 1, 1) := by decide +kernel
theorem dX5_repeats_17 : decode cX5_repeats 17 = .ok (.invokevirtual 107, 3) := by decide +kernel
theorem dX5_repeats_20 : decode cX5_repeats 20 = .ok (.istore_n 2, 1) := by decide +kernel
theorem dX5_repeats_21 : decode cX5_repeats 21 = .ok (.aload_n 0, 1) := by decide +kernel
theorem dX5_repeats_22 : decode cX5_repeats 22 = .ok (.getfield 104, 3) := by decide +kernel
theorem dX5_repeats_25 : decode cX5_repeats 25 = .ok (.ireturn, 1) := by decide +kernel
set_option maxRecDepth 20000 in
theorem ggX5_share_X5_isWay : GoodIn wsX5_share wsX5_isWay := goodIn_r _ [6, 7, 8, 5, 9] (by decide +kernel) (by decide +kernel)
set_option maxRecDepth 20000 in
theorem gX5_share_X5_isWay : GoodIn wsX5_share (va_wsS RX5 97 yX5_isWay wsX5_isWay) := goodIn_app (goodIn_of _ (by decide +kernel)) ggX5_share_X5_isWay
set_option maxRecDepth 20000 in
theorem ggX5_share_X5_bitsOf : GoodIn wsX5_share wsX5_bitsOf := goodIn_r _ [13, 14, 15, 16, 17, 18, 19, 20, 5, 21, 22, 2, 23, 24, 25, 26, 27, 28, 29, 30, 31, 32, 33, 34, 35, 36, 37, 38, 39, 40, 41, 42, 43, 44, 45, 46, 47, 48, 49, 50, 51, 52, 53, 54, 55, 56, 57, 58, 59, 60, 61, 62, 63, 64, 65, 66, 67, 68, 69, 70, 71, 72, 73, 74] (by decide +kernel) (by decide +kernel)
set_option maxRecDepth 20000 in
theorem gX5_share_X5_bitsOf : GoodIn wsX5_share (wsV RX5 107 RX5 yX5_bitsOf wsX5_bitsOf) := goodIn_app (goodIn_of _ (by decide +kernel)) ggX5_share_X5_bitsOf
theorem dX5_share_0 : decode cX5_share 0 = .ok (.aload_n 0, 1) := by decide +kernel
theorem dX5_share_1 : decode cX5_share 1 = .ok (.iconst 0, 1) := by decide +kernel
theorem dX5_share_2 : decode cX5_share 2 = .ok (.putfield 42, 3) := by decide +kernel
theorem dX5_share_5 : decode cX5_share 5 = .ok (.iload_n 1, 1) := by decide +kernel
theorem dX5_share_6 : decode cX5_share 6 = .ok (.invokestatic 97, 3) := by decide +kernel
theorem dX5_share_9 : decode cX5_share 9 = .ok (.ifCond .ne 5, 3) := by decide +kernel
theorem dX5_share_12 : decode cX5_share 12 = .ok (.iconst (-1), 1) := by decide +kernel
theorem dX5_share_13 : decode cX5_share 13 = .ok (.ireturn, 1) := by decide +kernel
theorem dX5_share_14 : decode cX5_share 14 = .ok (.aload_n 0, 1) := by decide +kernel
theorem dX5_share_15 : decode cX5_share 15 = .ok (.getfield 45, 3) := by decide +kernel
theorem dX5_share_18 : decode cX5_share 18 = .ok (.ifCond .ne 10, 3) := by decide +kernel
theorem dX5_share_21 : decode cX5_share 21 = .ok (.aload_n 0, 1) := by decide +kernel
theorem dX5_share_22 : decode cX5_share 22 = .ok (.iconst 1, 1) := by decide +kernel
theorem dX5_share_23 : decode cX5_share 23 = .ok (.putfield 42, 3) := by decide +kernel
theorem dX5_share_26 : decode cX5_share 26 = .ok (.iconst 0, 1) := by decide +kernel
theorem dX5_share_27 : decode cX5_share 27 = .ok (.ireturn, 1) := by decide +kernel
theorem dX5_share_28 : decode cX5_share 28 = .ok (.sipush 1000, 3) := by decide +kernel
theorem dX5_share_31 : decode cX5_share 31 = .ok (.aload_n 0, 1) := by decide +kernel
theorem dX5_share_32 : decode cX5_share 32 = .ok (.iload_n 1, 1) := by decide +kernel
theorem dX5_share_33 : decode cX5_share 33 = .ok (.iconst 1, 1) := by decide +kernel
theorem dX5_share_34 : decode cX5_share 34 = .ok (.invokevirtual 107, 3) := by decide +kernel
theorem dX5_share_37 : decode cX5_share 37 = .ok (.imul, 1) := by decide +kernel
theorem dX5_share_38 : decode cX5_share 38 = .ok (.bipush 8, 2) := by decide +kernel
theorem dX5_share_40 : decode cX5_share 40 = .ok (.aload_n 0, 1) := by decide +kernel
theorem dX5_share_41 : decode cX5_share 41 = .ok (.getfield 45, 3) := by decide +kernel
theorem dX5_share_44 : decode cX5_share 44 = .ok (.imul, 1) := by decide +kernel
theorem dX5_share_45 : decode cX5_share 45 = .ok (.idiv, 1) := by decide +kernel
theorem dX5_share_46 : decode cX5_share 46 = .ok (.ireturn, 1) := by decide +kernel
theorem dJ9_max_7cf53_0 : decode cJ9_max_7cf53 0 = .ok (.iload_n 0, 1) := by decide +kernel
theorem dJ9_max_7cf53_1 : decode cJ9_max_7cf53 1 = .ok (.iload_n 1, 1) := by decide +kernel
theorem dJ9_max_7cf53_2 : decode cJ9_max_7cf53 2 = .ok (.if_icmp .lt 7, 3) := by decide +kernel
theorem dJ9_max_7cf53_5 : decode cJ9_max_7cf53 5 = .ok (.iload_n 0, 1) := by decide +kernel
theorem dJ9_max_7cf53_6 : decode cJ9_max_7cf53 6 = .ok (.goto 4, 3) := by decide +kernel
theorem dJ9_max_7cf53_9 : decode cJ9_max_7cf53 9 = .ok (.iload_n 1, 1) := by decide +kernel
theorem dJ9_max_7cf53_10 : decode cJ9_max_7cf53 10 = .ok (.ireturn, 1) := by decide +kernel
theorem dJ9_min_7cf53_0 : decode cJ9_min_7cf53 0 = .ok (.iload_n 0, 1) := by decide +kernel
theorem dJ9_min_7cf53_1 : decode cJ9_min_7cf53 1 = .ok (.iload_n 1, 1) := by decide +kernel
theorem dJ9_min_7cf53_2 : decode cJ9_min_7cf53 2 = .ok (.if_icmp .gt 7, 3) := by decide +kernel
theorem dJ9_min_7cf53_5 : decode cJ9_min_7cf53 5 = .ok (.iload_n 0, 1) := by decide +kernel
theorem dJ9_min_7cf53_6 : decode cJ9_min_7cf53 6 = .ok (.goto 4, 3) := by decide +kernel
theorem dJ9_min_7cf53_9 : decode cJ9_min_7cf53 9 = .ok (.iload_n 1, 1) := by decide +kernel
theorem dJ9_min_7cf53_10 : decode cJ9_min_7cf53 10 = .ok (.ireturn, 1) := by decide +kernel
abbrev vwCl : List vw_C := [(RX0, TX0, 8), (RX1, TX1, 3), (RX2, TX2, 11), (RX3, TX3, 3), (RX4, TX4, 4), (RX5, TX5, 16)]
