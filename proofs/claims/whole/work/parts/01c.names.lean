theorem dX2_put_57 : decode cX2_put 57 = .ok (.getfield 25, 3) := by decide +kernel
theorem dX2_put_60 : decode cX2_put 60 = .ok (.bipush 9, 2) := by decide +kernel
theorem dX2_put_62 : decode cX2_put 62 = .ok (.iadd, 1) := by decide +kernel
theorem dX2_put_63 : decode cX2_put 63 = .ok (.putfield 25, 3) := by decide +kernel
theorem dX2_put_66 : decode cX2_put 66 = .ok (.aload_n 0, 1) := by decide +kernel
theorem dX2_put_67 : decode cX2_put 67 = .ok (.dup, 1) := by decide +kernel
theorem dX2_put_68 : decode cX2_put 68 = .ok (.getfield 28, 3) := by decide +kernel
theorem dX2_put_71 : decode cX2_put 71 = .ok (.bipush 9, 2) := by decide +kernel
theorem dX2_put_73 : decode cX2_put 73 = .ok (.iadd, 1) := by decide +kernel
theorem dX2_put_74 : decode cX2_put 74 = .ok (.putfield 28, 3) := by decide +kernel
theorem dX2_put_77 : decode cX2_put 77 = .ok (.goto 9, 3) := by decide +kernel
theorem dX2_put_80 : decode cX2_put 80 = .ok (.aload_n 0, 1) := by decide +kernel
theorem dX2_put_81 : decode cX2_put 81 = .ok (.iload_n 2, 1) := by decide +kernel
theorem dX2_put_82 : decode cX2_put 82 = .ok (.iload_n 3, 1) := by decide +kernel
theorem dX2_put_83 : decode cX2_put 83 = .ok (.invokevirtual 43, 3) := by decide +kernel
theorem dX2_put_86 : decode cX2_put 86 = .ok (.return_, 1) := by decide +kernel
set_option maxRecDepth 20000 in
theorem ggX2_countMatch_X4_gammaBits : GoodIn wsX2_countMatch wsX4_gammaBits := goodIn_r _ [9] (by decide +kernel) (by decide +kernel)
set_option maxRecDepth 20000 in
theorem gX2_countMatch_X4_gammaBits_n47 : GoodIn wsX2_countMatch (wsX4_gammaBits) := ggX2_countMatch_X4_gammaBits
set_option maxRecDepth 20000 in
theorem ggX2_countMatch_X2_remember : GoodIn wsX2_countMatch wsX2_remember := goodIn_r _ [14, 2, 3, 4, 15, 16, 17, 18, 19, 20, 21, 22, 23, 24, 25] (by decide +kernel) (by decide +kernel)
set_option maxRecDepth 20000 in
theorem gX2_countMatch_X2_remember : GoodIn wsX2_countMatch (wsV RX2 51 RX2 yX2_remember wsX2_remember) := goodIn_app (goodIn_of _ (by decide +kernel)) ggX2_countMatch_X2_remember
theorem dX2_countMatch_0 : decode cX2_countMatch 0 = .ok (.iload_n 1, 1) := by decide +kernel
theorem dX2_countMatch_1 : decode cX2_countMatch 1 = .ok (.iconst 2, 1) := by decide +kernel
theorem dX2_countMatch_2 : decode cX2_countMatch 2 = .ok (.isub, 1) := by decide +kernel
theorem dX2_countMatch_3 : decode cX2_countMatch 3 = .ok (.invokestatic 47, 3) := by decide +kernel
theorem dX2_countMatch_6 : decode cX2_countMatch 6 = .ok (.istore_n 3, 1) := by decide +kernel
theorem dX2_countMatch_7 : decode cX2_countMatch 7 = .ok (.iconst 2, 1) := by decide +kernel
theorem dX2_countMatch_8 : decode cX2_countMatch 8 = .ok (.iload_n 3, 1) := by decide +kernel
theorem dX2_countMatch_9 : decode cX2_countMatch 9 = .ok (.iadd, 1) := by decide +kernel
theorem dX2_countMatch_10 : decode cX2_countMatch 10 = .ok (.iload_n 2, 1) := by decide +kernel
theorem dX2_countMatch_11 : decode cX2_countMatch 11 = .ok (.invokestatic 47, 3) := by decide +kernel
theorem dX2_countMatch_14 : decode cX2_countMatch 14 = .ok (.iadd, 1) := by decide +kernel
theorem dX2_countMatch_15 : decode cX2_countMatch 15 = .ok (.istore 4, 2) := by decide +kernel
theorem dX2_countMatch_17 : decode cX2_countMatch 17 = .ok (.aload_n 0, 1) := by decide +kernel
theorem dX2_countMatch_18 : decode cX2_countMatch 18 = .ok (.dup, 1) := by decide +kernel
theorem dX2_countMatch_19 : decode cX2_countMatch 19 = .ok (.getfield 25, 3) := by decide +kernel
theorem dX2_countMatch_22 : decode cX2_countMatch 22 = .ok (.iload 4, 2) := by decide +kernel
theorem dX2_countMatch_24 : decode cX2_countMatch 24 = .ok (.iadd, 1) := by decide +kernel
theorem dX2_countMatch_25 : decode cX2_countMatch 25 = .ok (.putfield 25, 3) := by decide +kernel
theorem dX2_countMatch_28 : decode cX2_countMatch 28 = .ok (.iload_n 2, 1) := by decide +kernel
theorem dX2_countMatch_29 : decode cX2_countMatch 29 = .ok (.aload_n 0, 1) := by decide +kernel
theorem dX2_countMatch_30 : decode cX2_countMatch 30 = .ok (.getfield 34, 3) := by decide +kernel
theorem dX2_countMatch_33 : decode cX2_countMatch 33 = .ok (.if_icmp .eq 19, 3) := by decide +kernel
theorem dX2_countMatch_36 : decode cX2_countMatch 36 = .ok (.iload_n 2, 1) := by decide +kernel
theorem dX2_countMatch_37 : decode cX2_countMatch 37 = .ok (.aload_n 0, 1) := by decide +kernel
theorem dX2_countMatch_38 : decode cX2_countMatch 38 = .ok (.getfield 37, 3) := by decide +kernel
theorem dX2_countMatch_41 : decode cX2_countMatch 41 = .ok (.if_icmp .eq 11, 3) := by decide +kernel
theorem dX2_countMatch_44 : decode cX2_countMatch 44 = .ok (.iload_n 2, 1) := by decide +kernel
theorem dX2_countMatch_45 : decode cX2_countMatch 45 = .ok (.aload_n 0, 1) := by decide +kernel
theorem dX2_countMatch_46 : decode cX2_countMatch 46 = .ok (.getfield 40, 3) := by decide +kernel
theorem dX2_countMatch_49 : decode cX2_countMatch 49 = .ok (.if_icmp .ne 28, 3) := by decide +kernel
theorem dX2_countMatch_52 : decode cX2_countMatch 52 = .ok (.aload_n 0, 1) := by decide +kernel
theorem dX2_countMatch_53 : decode cX2_countMatch 53 = .ok (.dup, 1) := by decide +kernel
theorem dX2_countMatch_54 : decode cX2_countMatch 54 = .ok (.getfield 31, 3) := by decide +kernel
theorem dX2_countMatch_57 : decode cX2_countMatch 57 = .ok (.iconst 1, 1) := by decide +kernel
theorem dX2_countMatch_58 : decode cX2_countMatch 58 = .ok (.iadd, 1) := by decide +kernel
theorem dX2_countMatch_59 : decode cX2_countMatch 59 = .ok (.putfield 31, 3) := by decide +kernel
theorem dX2_countMatch_62 : decode cX2_countMatch 62 = .ok (.aload_n 0, 1) := by decide +kernel
theorem dX2_countMatch_63 : decode cX2_countMatch 63 = .ok (.dup, 1) := by decide +kernel
theorem dX2_countMatch_64 : decode cX2_countMatch 64 = .ok (.getfield 28, 3) := by decide +kernel
theorem dX2_countMatch_67 : decode cX2_countMatch 67 = .ok (.iconst 4, 1) := by decide +kernel
theorem dX2_countMatch_68 : decode cX2_countMatch 68 = .ok (.iload_n 3, 1) := by decide +kernel
theorem dX2_countMatch_69 : decode cX2_countMatch 69 = .ok (.iadd, 1) := by decide +kernel
theorem dX2_countMatch_70 : decode cX2_countMatch 70 = .ok (.iadd, 1) := by decide +kernel
theorem dX2_countMatch_71 : decode cX2_countMatch 71 = .ok (.putfield 28, 3) := by decide +kernel
theorem dX2_countMatch_74 : decode cX2_countMatch 74 = .ok (.goto 14, 3) := by decide +kernel
theorem dX2_countMatch_77 : decode cX2_countMatch 77 = .ok (.aload_n 0, 1) := by decide +kernel
theorem dX2_countMatch_78 : decode cX2_countMatch 78 = .ok (.dup, 1) := by decide +kernel
theorem dX2_countMatch_79 : decode cX2_countMatch 79 = .ok (.getfield 28, 3) := by decide +kernel
theorem dX2_countMatch_82 : decode cX2_countMatch 82 = .ok (.iload 4, 2) := by decide +kernel
theorem dX2_countMatch_84 : decode cX2_countMatch 84 = .ok (.iadd, 1) := by decide +kernel
theorem dX2_countMatch_85 : decode cX2_countMatch 85 = .ok (.putfield 28, 3) := by decide +kernel
theorem dX2_countMatch_88 : decode cX2_countMatch 88 = .ok (.aload_n 0, 1) := by decide +kernel
theorem dX2_countMatch_89 : decode cX2_countMatch 89 = .ok (.iload_n 2, 1) := by decide +kernel
theorem dX2_countMatch_90 : decode cX2_countMatch 90 = .ok (.invokevirtual 51, 3) := by decide +kernel
theorem dX2_countMatch_93 : decode cX2_countMatch 93 = .ok (.return_, 1) := by decide +kernel
theorem dX2_remember_0 : decode cX2_remember 0 = .ok (.iload_n 1, 1) := by decide +kernel
theorem dX2_remember_1 : decode cX2_remember 1 = .ok (.aload_n 0, 1) := by decide +kernel
theorem dX2_remember_2 : decode cX2_remember 2 = .ok (.getfield 34, 3) := by decide +kernel
theorem dX2_remember_5 : decode cX2_remember 5 = .ok (.if_icmp .ne 4, 3) := by decide +kernel
theorem dX2_remember_8 : decode cX2_remember 8 = .ok (.return_, 1) := by decide +kernel
theorem dX2_remember_9 : decode cX2_remember 9 = .ok (.iload_n 1, 1) := by decide +kernel
theorem dX2_remember_10 : decode cX2_remember 10 = .ok (.aload_n 0, 1) := by decide +kernel
theorem dX2_remember_11 : decode cX2_remember 11 = .ok (.getfield 37, 3) := by decide +kernel
theorem dX2_remember_14 : decode cX2_remember 14 = .ok (.if_icmp .eq 11, 3) := by decide +kernel
theorem dX2_remember_17 : decode cX2_remember 17 = .ok (.aload_n 0, 1) := by decide +kernel
theorem dX2_remember_18 : decode cX2_remember 18 = .ok (.aload_n 0, 1) := by decide +kernel
theorem dX2_remember_19 : decode cX2_remember 19 = .ok (.getfield 37, 3) := by decide +kernel
theorem dX2_remember_22 : decode cX2_remember 22 = .ok (.putfield 40, 3) := by decide +kernel
theorem dX2_remember_25 : decode cX2_remember 25 = .ok (.aload_n 0, 1) := by decide +kernel
theorem dX2_remember_26 : decode cX2_remember 26 = .ok (.aload_n 0, 1) := by decide +kernel
theorem dX2_remember_27 : decode cX2_remember 27 = .ok (.getfield 34, 3) := by decide +kernel
theorem dX2_remember_30 : decode cX2_remember 30 = .ok (.putfield 37, 3) := by decide +kernel
theorem dX2_remember_33 : decode cX2_remember 33 = .ok (.aload_n 0, 1) := by decide +kernel
theorem dX2_remember_34 : decode cX2_remember 34 = .ok (.iload_n 1, 1) := by decide +kernel
theorem dX2_remember_35 : decode cX2_remember 35 = .ok (.putfield 34, 3) := by decide +kernel
theorem dX2_remember_38 : decode cX2_remember 38 = .ok (.return_, 1) := by decide +kernel
theorem dX3_init_0 : decode cX3_init 0 = .ok (.aload_n 0, 1) := by decide +kernel
theorem dX3_init_1 : decode cX3_init 1 = .ok (.invokespecial 3, 3) := by decide +kernel
theorem dX3_init_4 : decode cX3_init 4 = .ok (.aload_n 0, 1) := by decide +kernel
theorem dX3_init_5 : decode cX3_init 5 = .ok (.sipush 360, 3) := by decide +kernel
theorem dX3_init_8 : decode cX3_init 8 = .ok (.newarray .int, 2) := by decide +kernel
theorem dX3_init_10 : decode cX3_init 10 = .ok (.putfield 9, 3) := by decide +kernel
theorem dX3_init_13 : decode cX3_init 13 = .ok (.return_, 1) := by decide +kernel
theorem dX3_put_0 : decode cX3_put 0 = .ok (.aload_n 0, 1) := by decide +kernel
theorem dX3_put_1 : decode cX3_put 1 = .ok (.getfield 15, 3) := by decide +kernel
theorem dX3_put_4 : decode cX3_put 4 = .ok (.sipush 300, 3) := by decide +kernel
theorem dX3_put_7 : decode cX3_put 7 = .ok (.if_icmp .ge 28, 3) := by decide +kernel
theorem dX3_put_10 : decode cX3_put 10 = .ok (.aload_n 0, 1) := by decide +kernel
theorem dX3_put_11 : decode cX3_put 11 = .ok (.getfield 9, 3) := by decide +kernel
theorem dX3_put_14 : decode cX3_put 14 = .ok (.aload_n 0, 1) := by decide +kernel
theorem dX3_put_15 : decode cX3_put 15 = .ok (.getfield 19, 3) := by decide +kernel
theorem dX3_put_18 : decode cX3_put 18 = .ok (.aload_n 0, 1) := by decide +kernel
theorem dX3_put_19 : decode cX3_put 19 = .ok (.getfield 15, 3) := by decide +kernel
theorem dX3_put_22 : decode cX3_put 22 = .ok (.iadd, 1) := by decide +kernel
theorem dX3_put_23 : decode cX3_put 23 = .ok (.iload_n 1, 1) := by decide +kernel
theorem dX3_put_24 : decode cX3_put 24 = .ok (.iastore, 1) := by decide +kernel
theorem dX3_put_25 : decode cX3_put 25 = .ok (.aload_n 0, 1) := by decide +kernel
theorem dX3_put_26 : decode cX3_put 26 = .ok (.dup, 1) := by decide +kernel
theorem dX3_put_27 : decode cX3_put 27 = .ok (.getfield 15, 3) := by decide +kernel
theorem dX3_put_30 : decode cX3_put 30 = .ok (.iconst 1, 1) := by decide +kernel
theorem dX3_put_31 : decode cX3_put 31 = .ok (.iadd, 1) := by decide +kernel
theorem dX3_put_32 : decode cX3_put 32 = .ok (.putfield 15, 3) := by decide +kernel
theorem dX3_put_35 : decode cX3_put 35 = .ok (.return_, 1) := by decide +kernel
theorem dX3_becomeDictionary_0 : decode cX3_becomeDictionary 0 = .ok (.bipush 60, 2) := by decide +kernel
theorem dX3_becomeDictionary_2 : decode cX3_becomeDictionary 2 = .ok (.aload_n 0, 1) := by decide +kernel
theorem dX3_becomeDictionary_3 : decode cX3_becomeDictionary 3 = .ok (.getfield 15, 3) := by decide +kernel
theorem dX3_becomeDictionary_6 : decode cX3_becomeDictionary 6 = .ok (.invokestatic 22, 3) := by decide +kernel
theorem dX3_becomeDictionary_9 : decode cX3_becomeDictionary 9 = .ok (.istore_n 1, 1) := by decide +kernel
theorem dX3_becomeDictionary_10 : decode cX3_becomeDictionary 10 = .ok (.aload_n 0, 1) := by decide +kernel
theorem dX3_becomeDictionary_11 : decode cX3_becomeDictionary 11 = .ok (.getfield 19, 3) := by decide +kernel
theorem dX3_becomeDictionary_14 : decode cX3_becomeDictionary 14 = .ok (.aload_n 0, 1) := by decide +kernel
theorem dX3_becomeDictionary_15 : decode cX3_becomeDictionary 15 = .ok (.getfield 15, 3) := by decide +kernel
theorem dX3_becomeDictionary_18 : decode cX3_becomeDictionary 18 = .ok (.iadd, 1) := by decide +kernel
theorem dX3_becomeDictionary_19 : decode cX3_becomeDictionary 19 = .ok (.iload_n 1, 1) := by decide +kernel
theorem dX3_becomeDictionary_20 : decode cX3_becomeDictionary 20 = .ok (.isub, 1) := by decide +kernel
theorem dX3_becomeDictionary_21 : decode cX3_becomeDictionary 21 = .ok (.istore_n 2, 1) := by decide +kernel
theorem dX3_becomeDictionary_22 : decode cX3_becomeDictionary 22 = .ok (.iconst 0, 1) := by decide +kernel
theorem dX3_becomeDictionary_23 : decode cX3_becomeDictionary 23 = .ok (.istore_n 3, 1) := by decide +kernel
theorem dX3_becomeDictionary_24 : decode cX3_becomeDictionary 24 = .ok (.iload_n 3, 1) := by decide +kernel
theorem dX3_becomeDictionary_25 : decode cX3_becomeDictionary 25 = .ok (.iload_n 1, 1) := by decide +kernel
theorem dX3_becomeDictionary_26 : decode cX3_becomeDictionary 26 = .ok (.if_icmp .ge 23, 3) := by decide +kernel
theorem dX3_becomeDictionary_29 : decode cX3_becomeDictionary 29 = .ok (.aload_n 0, 1) := by decide +kernel
theorem dX3_becomeDictionary_30 : decode cX3_becomeDictionary 30 = .ok (.getfield 9, 3) := by decide +kernel
theorem dX3_becomeDictionary_33 : decode cX3_becomeDictionary 33 = .ok (.iload_n 3, 1) := by decide +kernel
theorem dX3_becomeDictionary_34 : decode cX3_becomeDictionary 34 = .ok (.aload_n 0, 1) := by decide +kernel
theorem dX3_becomeDictionary_35 : decode cX3_becomeDictionary 35 = .ok (.getfield 9, 3) := by decide +kernel
theorem dX3_becomeDictionary_38 : decode cX3_becomeDictionary 38 = .ok (.iload_n 2, 1) := by decide +kernel
theorem dX3_becomeDictionary_39 : decode cX3_becomeDictionary 39 = .ok (.iload_n 3, 1) := by decide +kernel
theorem dX3_becomeDictionary_40 : decode cX3_becomeDictionary 40 = .ok (.iadd, 1) := by decide +kernel
theorem dX3_becomeDictionary_41 : decode cX3_becomeDictionary 41 = .ok (.iaload, 1) := by decide +kernel
theorem dX3_becomeDictionary_42 : decode cX3_becomeDictionary 42 = .ok (.iastore, 1) := by decide +kernel
theorem dX3_becomeDictionary_43 : decode cX3_becomeDictionary 43 = .ok (.iinc 3 1, 3) := by decide +kernel
theorem dX3_becomeDictionary_46 : decode cX3_becomeDictionary 46 = .ok (.goto (-22), 3) := by decide +kernel
theorem dX3_becomeDictionary_49 : decode cX3_becomeDictionary 49 = .ok (.aload_n 0, 1) := by decide +kernel
theorem dX3_becomeDictionary_50 : decode cX3_becomeDictionary 50 = .ok (.iload_n 1, 1) := by decide +kernel
theorem dX3_becomeDictionary_51 : decode cX3_becomeDictionary 51 = .ok (.putfield 19, 3) := by decide +kernel
theorem dX3_becomeDictionary_54 : decode cX3_becomeDictionary 54 = .ok (.aload_n 0, 1) := by decide +kernel
theorem dX3_becomeDictionary_55 : decode cX3_becomeDictionary 55 = .ok (.iconst 0, 1) := by decide +kernel
theorem dX3_becomeDictionary_56 : decode cX3_becomeDictionary 56 = .ok (.putfield 15, 3) := by decide +kernel
theorem dX3_becomeDictionary_59 : decode cX3_becomeDictionary 59 = .ok (.return_, 1) := by decide +kernel
theorem dX3_at_0 : decode cX3_at 0 = .ok (.iload_n 1, 1) := by decide +kernel
theorem dX3_at_1 : decode cX3_at 1 = .ok (.aload_n 0, 1) := by decide +kernel
theorem dX3_at_2 : decode cX3_at 2 = .ok (.getfield 19, 3) := by decide +kernel
theorem dX3_at_5 : decode cX3_at 5 = .ok (.ineg, 1) := by decide +kernel
theorem dX3_at_6 : decode cX3_at 6 = .ok (.if_icmp .lt 25, 3) := by decide +kernel
theorem dX3_at_9 : decode cX3_at 9 = .ok (.iload_n 1, 1) := by decide +kernel
theorem dX3_at_10 : decode cX3_at 10 = .ok (.aload_n 0, 1) := by decide +kernel
theorem dX3_at_11 : decode cX3_at 11 = .ok (.getfield 15, 3) := by decide +kernel
theorem dX3_at_14 : decode cX3_at 14 = .ok (.if_icmp .ge 17, 3) := by decide +kernel
theorem dX3_at_17 : decode cX3_at 17 = .ok (.aload_n 0, 1) := by decide +kernel
theorem dX3_at_18 : decode cX3_at 18 = .ok (.getfield 9, 3) := by decide +kernel
theorem dX3_at_21 : decode cX3_at 21 = .ok (.aload_n 0, 1) := by decide +kernel
theorem dX3_at_22 : decode cX3_at 22 = .ok (.getfield 19, 3) := by decide +kernel
theorem dX3_at_25 : decode cX3_at 25 = .ok (.iload_n 1, 1) := by decide +kernel
theorem dX3_at_26 : decode cX3_at 26 = .ok (.iadd, 1) := by decide +kernel
theorem dX3_at_27 : decode cX3_at 27 = .ok (.iaload, 1) := by decide +kernel
theorem dX3_at_28 : decode cX3_at 28 = .ok (.goto 4, 3) := by decide +kernel
theorem dX3_at_31 : decode cX3_at 31 = .ok (.iconst (-1), 1) := by decide +kernel
theorem dX3_at_32 : decode cX3_at 32 = .ok (.ireturn, 1) := by decide +kernel
theorem dX3_farthest_0 : decode cX3_farthest 0 = .ok (.aload_n 0, 1) := by decide +kernel
theorem dX3_farthest_1 : decode cX3_farthest 1 = .ok (.getfield 19, 3) := by decide +kernel
theorem dX3_farthest_4 : decode cX3_farthest 4 = .ok (.iload_n 1, 1) := by decide +kernel
theorem dX3_farthest_5 : decode cX3_farthest 5 = .ok (.iadd, 1) := by decide +kernel
theorem dX3_farthest_6 : decode cX3_farthest 6 = .ok (.ireturn, 1) := by decide +kernel
theorem dX3_mostLength_0 : decode cX3_mostLength 0 = .ok (.bipush 40, 2) := by decide +kernel
theorem dX3_mostLength_2 : decode cX3_mostLength 2 = .ok (.aload_n 0, 1) := by decide +kernel
theorem dX3_mostLength_3 : decode cX3_mostLength 3 = .ok (.getfield 15, 3) := by decide +kernel
theorem dX3_mostLength_6 : decode cX3_mostLength 6 = .ok (.iload_n 1, 1) := by decide +kernel
theorem dX3_mostLength_7 : decode cX3_mostLength 7 = .ok (.isub, 1) := by decide +kernel
theorem dX3_mostLength_8 : decode cX3_mostLength 8 = .ok (.invokestatic 22, 3) := by decide +kernel
theorem dX3_mostLength_11 : decode cX3_mostLength 11 = .ok (.ireturn, 1) := by decide +kernel
theorem dX3_reach_0 : decode cX3_reach 0 = .ok (.aload_n 0, 1) := by decide +kernel
theorem dX3_reach_1 : decode cX3_reach 1 = .ok (.getfield 19, 3) := by decide +kernel
theorem dX3_reach_4 : decode cX3_reach 4 = .ok (.iload_n 1, 1) := by decide +kernel
theorem dX3_reach_5 : decode cX3_reach 5 = .ok (.iadd, 1) := by decide +kernel
theorem dX3_reach_6 : decode cX3_reach 6 = .ok (.istore 4, 2) := by decide +kernel
theorem dX3_reach_8 : decode cX3_reach 8 = .ok (.iload 4, 2) := by decide +kernel
theorem dX3_reach_10 : decode cX3_reach 10 = .ok (.iload_n 2, 1) := by decide +kernel
theorem dX3_reach_11 : decode cX3_reach 11 = .ok (.isub, 1) := by decide +kernel
theorem dX3_reach_12 : decode cX3_reach 12 = .ok (.istore 5, 2) := by decide +kernel
theorem dX3_reach_14 : decode cX3_reach 14 = .ok (.iload 5, 2) := by decide +kernel
theorem dX3_reach_16 : decode cX3_reach 16 = .ok (.ifCond .lt 22, 3) := by decide +kernel
theorem dX3_reach_19 : decode cX3_reach 19 = .ok (.iload 5, 2) := by decide +kernel
theorem dX3_reach_21 : decode cX3_reach 21 = .ok (.iload 4, 2) := by decide +kernel
theorem dX3_reach_23 : decode cX3_reach 23 = .ok (.if_icmp .ge 15, 3) := by decide +kernel
theorem dX3_reach_26 : decode cX3_reach 26 = .ok (.iload 4, 2) := by decide +kernel
theorem dX3_reach_28 : decode cX3_reach 28 = .ok (.iload_n 3, 1) := by decide +kernel
theorem dX3_reach_29 : decode cX3_reach 29 = .ok (.iadd, 1) := by decide +kernel
theorem dX3_reach_30 : decode cX3_reach 30 = .ok (.aload_n 0, 1) := by decide +kernel
theorem dX3_reach_31 : decode cX3_reach 31 = .ok (.getfield 9, 3) := by decide +kernel
theorem dX3_reach_34 : decode cX3_reach 34 = .ok (.arraylength, 1) := by decide +kernel
theorem dX3_reach_35 : decode cX3_reach 35 = .ok (.if_icmp .le 5, 3) := by decide +kernel
theorem dX3_reach_38 : decode cX3_reach 38 = .ok (.iconst 0, 1) := by decide +kernel
theorem dX3_reach_39 : decode cX3_reach 39 = .ok (.ireturn, 1) := by decide +kernel
theorem dX3_reach_40 : decode cX3_reach 40 = .ok (.iconst 0, 1) := by decide +kernel
theorem dX3_reach_41 : decode cX3_reach 41 = .ok (.istore 6, 2) := by decide +kernel
theorem dX3_reach_43 : decode cX3_reach 43 = .ok (.iload 6, 2) := by decide +kernel
theorem dX3_reach_45 : decode cX3_reach 45 = .ok (.iload_n 3, 1) := by decide +kernel
theorem dX3_reach_46 : decode cX3_reach 46 = .ok (.if_icmp .ge 32, 3) := by decide +kernel
theorem dX3_reach_49 : decode cX3_reach 49 = .ok (.aload_n 0, 1) := by decide +kernel
theorem dX3_reach_50 : decode cX3_reach 50 = .ok (.getfield 9, 3) := by decide +kernel
theorem dX3_reach_53 : decode cX3_reach 53 = .ok (.iload 4, 2) := by decide +kernel
theorem dX3_reach_55 : decode cX3_reach 55 = .ok (.iload 6, 2) := by decide +kernel
theorem dX3_reach_57 : decode cX3_reach 57 = .ok (.iadd, 1) := by decide +kernel
theorem dX3_reach_58 : decode cX3_reach 58 = .ok (.iaload, 1) := by decide +kernel
theorem dX3_reach_59 : decode cX3_reach 59 = .ok (.aload_n 0, 1) := by decide +kernel
theorem dX3_reach_60 : decode cX3_reach 60 = .ok (.getfield 9, 3) := by decide +kernel
theorem dX3_reach_63 : decode cX3_reach 63 = .ok (.iload 5, 2) := by decide +kernel
theorem dX3_reach_65 : decode cX3_reach 65 = .ok (.iload 6, 2) := by decide +kernel
theorem dX3_reach_67 : decode cX3_reach 67 = .ok (.iadd, 1) := by decide +kernel
theorem dX3_reach_68 : decode cX3_reach 68 = .ok (.iaload, 1) := by decide +kernel
theorem dX3_reach_69 : decode cX3_reach 69 = .ok (.if_icmp .ne 9, 3) := by decide +kernel
theorem dX3_reach_72 : decode cX3_reach 72 = .ok (.iinc 6 1, 3) := by decide +kernel
theorem dX3_reach_75 : decode cX3_reach 75 = .ok (.goto (-32), 3) := by decide +kernel
theorem dX3_reach_78 : decode cX3_reach 78 = .ok (.iload 6, 2) := by decide +kernel
theorem dX3_reach_80 : decode cX3_reach 80 = .ok (.ireturn, 1) := by decide +kernel
set_option maxRecDepth 20000 in
theorem ggX4_init_X3_init : GoodIn wsX4_init wsX3_init := goodIn_r _ [21, 22, 2, 3, 23, 24, 57, 58, 59] (by decide +kernel) (by decide +kernel)
set_option maxRecDepth 20000 in
theorem gX4_init_X3_init_n11 : GoodIn wsX4_init (wsX3_init) := ggX4_init_X3_init
set_option maxRecDepth 20000 in
theorem ggX4_init_X4_nearest : GoodIn wsX4_init wsX4_nearest := goodIn_r _ [28, 29, 30, 31, 32, 33, 34, 35] (by decide +kernel) (by decide +kernel)
set_option maxRecDepth 20000 in
theorem gX4_init_X4_nearest : GoodIn wsX4_init (va_wsS RX4 18 yX4_nearest wsX4_nearest) := goodIn_app (goodIn_of _ (by decide +kernel)) ggX4_init_X4_nearest
set_option maxRecDepth 20000 in
theorem ggX4_init_X0_init : GoodIn wsX4_init wsX0_init := goodIn_r _ [38, 39, 2, 3, 23, 40, 41, 42, 43, 44, 64, 65, 66, 67, 68, 69, 70, 71] (by decide +kernel) (by decide +kernel)
set_option maxRecDepth 20000 in
theorem gX4_init_X0_init : GoodIn wsX4_init (wsX0_init) := ggX4_init_X0_init
set_option maxRecDepth 20000 in
theorem ggX4_init_X1_init : GoodIn wsX4_init wsX1_init := goodIn_r _ [46, 47, 2, 3, 23, 48, 49, 50, 72, 73, 74] (by decide +kernel) (by decide +kernel)
set_option maxRecDepth 20000 in
theorem gX4_init_X1_init_n31 : GoodIn wsX4_init (wsX1_init) := ggX4_init_X1_init
set_option maxRecDepth 20000 in
theorem ggX4_init_X2_init : GoodIn wsX4_init wsX2_init := goodIn_r _ [52, 53, 2, 3, 23, 54, 55, 56, 75, 76, 77, 78, 79, 80, 81, 82, 83, 84, 85] (by decide +kernel) (by decide +kernel)
set_option maxRecDepth 20000 in
theorem gX4_init_X2_init_n42 : GoodIn wsX4_init (wsX2_init) := ggX4_init_X2_init
theorem dX4_init_0 : decode cX4_init 0 = .ok (.aload_n 0, 1) := by decide +kernel
theorem dX4_init_1 : decode cX4_init 1 = .ok (.invokespecial 3, 3) := by decide +kernel
theorem dX4_init_4 : decode cX4_init 4 = .ok (.aload_n 0, 1) := by decide +kernel
theorem dX4_init_5 : decode cX4_init 5 = .ok (.new 9, 3) := by decide +kernel
theorem dX4_init_8 : decode cX4_init 8 = .ok (.dup, 1) := by decide +kernel
theorem dX4_init_9 : decode cX4_init 9 = .ok (.invokespecial 11, 3) := by decide +kernel
theorem dX4_init_12 : decode cX4_init 12 = .ok (.putfield 12, 3) := by decide +kernel
theorem dX4_init_15 : decode cX4_init 15 = .ok (.aload_n 0, 1) := by decide +kernel
theorem dX4_init_16 : decode cX4_init 16 = .ok (.new 16, 3) := by decide +kernel
theorem dX4_init_19 : decode cX4_init 19 = .ok (.dup, 1) := by decide +kernel
theorem dX4_init_20 : decode cX4_init 20 = .ok (.aload_n 0, 1) := by decide +kernel
theorem dX4_init_21 : decode cX4_init 21 = .ok (.getfield 12, 3) := by decide +kernel
theorem dX4_init_24 : decode cX4_init 24 = .ok (.iload_n 1, 1) := by decide +kernel
theorem dX4_init_25 : decode cX4_init 25 = .ok (.sipush 300, 3) := by decide +kernel
theorem dX4_init_28 : decode cX4_init 28 = .ok (.invokestatic 18, 3) := by decide +kernel
theorem dX4_init_31 : decode cX4_init 31 = .ok (.iload_n 2, 1) := by decide +kernel
theorem dX4_init_32 : decode cX4_init 32 = .ok (.bipush 64, 2) := by decide +kernel
theorem dX4_init_34 : decode cX4_init 34 = .ok (.invokestatic 18, 3) := by decide +kernel
theorem dX4_init_37 : decode cX4_init 37 = .ok (.invokespecial 22, 3) := by decide +kernel
theorem dX4_init_40 : decode cX4_init 40 = .ok (.putfield 25, 3) := by decide +kernel
theorem dX4_init_43 : decode cX4_init 43 = .ok (.aload_n 0, 1) := by decide +kernel
theorem dX4_init_44 : decode cX4_init 44 = .ok (.new 29, 3) := by decide +kernel
theorem dX4_init_47 : decode cX4_init 47 = .ok (.dup, 1) := by decide +kernel
theorem dX4_init_48 : decode cX4_init 48 = .ok (.invokespecial 31, 3) := by decide +kernel
theorem dX4_init_51 : decode cX4_init 51 = .ok (.putfield 32, 3) := by decide +kernel
theorem dX4_init_54 : decode cX4_init 54 = .ok (.aload_n 0, 1) := by decide +kernel
theorem dX4_init_55 : decode cX4_init 55 = .ok (.iconst 4, 1) := by decide +kernel
theorem dX4_init_56 : decode cX4_init 56 = .ok (.anewarray 36, 3) := by decide +kernel
theorem dX4_init_59 : decode cX4_init 59 = .ok (.putfield 38, 3) := by decide +kernel
theorem dX4_init_62 : decode cX4_init 62 = .ok (.iconst 0, 1) := by decide +kernel
theorem dX4_init_63 : decode cX4_init 63 = .ok (.istore_n 3, 1) := by decide +kernel
theorem dX4_init_64 : decode cX4_init 64 = .ok (.iload_n 3, 1) := by decide +kernel
theorem dX4_init_65 : decode cX4_init 65 = .ok (.iconst 4, 1) := by decide +kernel
theorem dX4_init_66 : decode cX4_init 66 = .ok (.if_icmp .ge 22, 3) := by decide +kernel
theorem dX4_init_69 : decode cX4_init 69 = .ok (.aload_n 0, 1) := by decide +kernel
theorem dX4_init_70 : decode cX4_init 70 = .ok (.getfield 38, 3) := by decide +kernel
theorem dX4_init_73 : decode cX4_init 73 = .ok (.iload_n 3, 1) := by decide +kernel
theorem dX4_init_74 : decode cX4_init 74 = .ok (.new 36, 3) := by decide +kernel
theorem dX4_init_77 : decode cX4_init 77 = .ok (.dup, 1) := by decide +kernel
theorem dX4_init_78 : decode cX4_init 78 = .ok (.invokespecial 42, 3) := by decide +kernel
theorem dX4_init_81 : decode cX4_init 81 = .ok (.aastore, 1) := by decide +kernel
theorem dX4_init_82 : decode cX4_init 82 = .ok (.iinc 3 1, 3) := by decide +kernel
theorem dX4_init_85 : decode cX4_init 85 = .ok (.goto (-21), 3) := by decide +kernel
theorem dX4_init_88 : decode cX4_init 88 = .ok (.return_, 1) := by decide +kernel
set_option maxRecDepth 20000 in
theorem ggX4_add_X3_put : GoodIn wsX4_add wsX3_put := goodIn_r _ [7, 8, 9, 10, 22, 23, 24] (by decide +kernel) (by decide +kernel)
set_option maxRecDepth 20000 in
theorem gX4_add_X3_put : GoodIn wsX4_add (wsV RX4 47 RX3 yX3_put wsX3_put) := goodIn_app (goodIn_of _ (by decide +kernel)) ggX4_add_X3_put
set_option maxRecDepth 20000 in
theorem ggX4_add_X4_forgetRows : GoodIn wsX4_add wsX4_forgetRows := goodIn_r _ [15, 16, 17, 18, 19, 20, 21, 25, 26, 27, 28, 29, 30, 31, 32, 33, 34, 35] (by decide +kernel) (by decide +kernel)
set_option maxRecDepth 20000 in
theorem gX4_add_X4_forgetRows : GoodIn wsX4_add (wsV RX4 51 RX4 yX4_forgetRows wsX4_forgetRows) := goodIn_app (goodIn_of _ (by decide +kernel)) ggX4_add_X4_forgetRows
theorem dX4_add_0 : decode cX4_add 0 = .ok (.iload_n 1, 1) := by decide +kernel
theorem dX4_add_1 : decode cX4_add 1 = .ok (.ifCond .lt 10, 3) := by decide +kernel
theorem dX4_add_4 : decode cX4_add 4 = .ok (.iload_n 1, 1) := by decide +kernel
theorem dX4_add_5 : decode cX4_add 5 = .ok (.sipush 255, 3) := by decide +kernel
theorem dX4_add_8 : decode cX4_add 8 = .ok (.if_icmp .le 6, 3) := by decide +kernel
theorem dX4_add_11 : decode cX4_add 11 = .ok (.bipush (-2), 2) := by decide +kernel
theorem dX4_add_13 : decode cX4_add 13 = .ok (.ireturn, 1) := by decide +kernel
theorem dX4_add_14 : decode cX4_add 14 = .ok (.aload_n 0, 1) := by decide +kernel
theorem dX4_add_15 : decode cX4_add 15 = .ok (.getfield 12, 3) := by decide +kernel
theorem dX4_add_18 : decode cX4_add 18 = .ok (.getfield 43, 3) := by decide +kernel
theorem dX4_add_21 : decode cX4_add 21 = .ok (.sipush 300, 3) := by decide +kernel
theorem dX4_add_24 : decode cX4_add 24 = .ok (.if_icmp .lt 6, 3) := by decide +kernel
theorem dX4_add_27 : decode cX4_add 27 = .ok (.bipush (-4), 2) := by decide +kernel
theorem dX4_add_29 : decode cX4_add 29 = .ok (.ireturn, 1) := by decide +kernel
theorem dX4_add_30 : decode cX4_add 30 = .ok (.aload_n 0, 1) := by decide +kernel
theorem dX4_add_31 : decode cX4_add 31 = .ok (.getfield 12, 3) := by decide +kernel
theorem dX4_add_34 : decode cX4_add 34 = .ok (.iload_n 1, 1) := by decide +kernel
theorem dX4_add_35 : decode cX4_add 35 = .ok (.invokevirtual 47, 3) := by decide +kernel
theorem dX4_add_38 : decode cX4_add 38 = .ok (.aload_n 0, 1) := by decide +kernel
theorem dX4_add_39 : decode cX4_add 39 = .ok (.invokevirtual 51, 3) := by decide +kernel
theorem dX4_add_42 : decode cX4_add 42 = .ok (.aload_n 0, 1) := by decide +kernel
theorem dX4_add_43 : decode cX4_add 43 = .ok (.getfield 12, 3) := by decide +kernel
theorem dX4_add_46 : decode cX4_add 46 = .ok (.getfield 43, 3) := by decide +kernel
theorem dX4_add_49 : decode cX4_add 49 = .ok (.ireturn, 1) := by decide +kernel
set_option maxRecDepth 20000 in
theorem ggX4_fill_X4_filling : GoodIn wsX4_fill wsX4_filling := goodIn_r _ [8, 1, 2, 9, 10, 11, 12, 13, 14, 15, 16, 27, 28, 29, 30, 31, 32, 33] (by decide +kernel) (by decide +kernel)
set_option maxRecDepth 20000 in
theorem gX4_fill_X4_filling : GoodIn wsX4_fill (wsV RX4 55 RX4 yX4_filling wsX4_filling) := goodIn_app (goodIn_of _ (by decide +kernel)) ggX4_fill_X4_filling
set_option maxRecDepth 20000 in
theorem ggX4_fill_X3_put : GoodIn wsX4_fill wsX3_put := goodIn_r _ [20, 15, 16, 14, 31, 32, 33] (by decide +kernel) (by decide +kernel)
set_option maxRecDepth 20000 in
theorem gX4_fill_X3_put : GoodIn wsX4_fill (wsV RX4 47 RX3 yX3_put wsX3_put) := goodIn_app (goodIn_of _ (by decide +kernel)) ggX4_fill_X3_put
set_option maxRecDepth 20000 in
theorem ggX4_fill_X4_forgetRows : GoodIn wsX4_fill wsX4_forgetRows := goodIn_r _ [24, 25, 26, 27, 28, 29, 30, 34, 35, 36, 37, 38, 39, 40, 41, 42, 43, 44] (by decide +kernel) (by decide +kernel)
set_option maxRecDepth 20000 in
theorem gX4_fill_X4_forgetRows : GoodIn wsX4_fill (wsV RX4 51 RX4 yX4_forgetRows wsX4_forgetRows) := goodIn_app (goodIn_of _ (by decide +kernel)) ggX4_fill_X4_forgetRows
theorem dX4_fill_0 : decode cX4_fill 0 = .ok (.iload_n 1, 1) := by decide +kernel
theorem dX4_fill_1 : decode cX4_fill 1 = .ok (.iconst 1, 1) := by decide +kernel
theorem dX4_fill_2 : decode cX4_fill 2 = .ok (.if_icmp .lt 19, 3) := by decide +kernel
theorem dX4_fill_5 : decode cX4_fill 5 = .ok (.iload_n 1, 1) := by decide +kernel
theorem dX4_fill_6 : decode cX4_fill 6 = .ok (.sipush 300, 3) := by decide +kernel
theorem dX4_fill_9 : decode cX4_fill 9 = .ok (.if_icmp .gt 12, 3) := by decide +kernel
theorem dX4_fill_12 : decode cX4_fill 12 = .ok (.iload_n 3, 1) := by decide +kernel
theorem dX4_fill_13 : decode cX4_fill 13 = .ok (.ifCond .lt 8, 3) := by decide +kernel
theorem dX4_fill_16 : decode cX4_fill 16 = .ok (.iload_n 3, 1) := by decide +kernel
theorem dX4_fill_17 : decode cX4_fill 17 = .ok (.iconst 2, 1) := by decide +kernel
theorem dX4_fill_18 : decode cX4_fill 18 = .ok (.if_icmp .le 6, 3) := by decide +kernel
theorem dX4_fill_21 : decode cX4_fill 21 = .ok (.bipush (-2), 2) := by decide +kernel
theorem dX4_fill_23 : decode cX4_fill 23 = .ok (.ireturn, 1) := by decide +kernel
theorem dX4_fill_24 : decode cX4_fill 24 = .ok (.iload_n 1, 1) := by decide +kernel
theorem dX4_fill_25 : decode cX4_fill 25 = .ok (.sipush 300, 3) := by decide +kernel
theorem dX4_fill_28 : decode cX4_fill 28 = .ok (.aload_n 0, 1) := by decide +kernel
theorem dX4_fill_29 : decode cX4_fill 29 = .ok (.getfield 12, 3) := by decide +kernel
theorem dX4_fill_32 : decode cX4_fill 32 = .ok (.getfield 43, 3) := by decide +kernel
theorem dX4_fill_35 : decode cX4_fill 35 = .ok (.isub, 1) := by decide +kernel
theorem dX4_fill_36 : decode cX4_fill 36 = .ok (.if_icmp .le 6, 3) := by decide +kernel
theorem dX4_fill_39 : decode cX4_fill 39 = .ok (.bipush (-4), 2) := by decide +kernel
theorem dX4_fill_41 : decode cX4_fill 41 = .ok (.ireturn, 1) := by decide +kernel
theorem dX4_fill_42 : decode cX4_fill 42 = .ok (.iconst 1, 1) := by decide +kernel
theorem dX4_fill_43 : decode cX4_fill 43 = .ok (.iload_n 2, 1) := by decide +kernel
theorem dX4_fill_44 : decode cX4_fill 44 = .ok (.bipush 27, 2) := by decide +kernel
theorem dX4_fill_46 : decode cX4_fill 46 = .ok (.iushr, 1) := by decide +kernel
theorem dX4_fill_47 : decode cX4_fill 47 = .ok (.iadd, 1) := by decide +kernel
theorem dX4_fill_48 : decode cX4_fill 48 = .ok (.istore 4, 2) := by decide +kernel
theorem dX4_fill_50 : decode cX4_fill 50 = .ok (.iload_n 2, 1) := by decide +kernel
theorem dX4_fill_51 : decode cX4_fill 51 = .ok (.istore 5, 2) := by decide +kernel
theorem dX4_fill_53 : decode cX4_fill 53 = .ok (.iconst 0, 1) := by decide +kernel
theorem dX4_fill_54 : decode cX4_fill 54 = .ok (.istore 6, 2) := by decide +kernel
theorem dX4_fill_56 : decode cX4_fill 56 = .ok (.iload 6, 2) := by decide +kernel
theorem dX4_fill_58 : decode cX4_fill 58 = .ok (.iload_n 1, 1) := by decide +kernel
theorem dX4_fill_59 : decode cX4_fill 59 = .ok (.if_icmp .ge 39, 3) := by decide +kernel
theorem dX4_fill_62 : decode cX4_fill 62 = .ok (.iload 5, 2) := by decide +kernel
theorem dX4_fill_64 : decode cX4_fill 64 = .ok (.ldc 54, 2) := by decide +kernel
theorem dX4_fill_66 : decode cX4_fill 66 = .ok (.imul, 1) := by decide +kernel
theorem dX4_fill_67 : decode cX4_fill 67 = .ok (.sipush 12345, 3) := by decide +kernel
theorem dX4_fill_70 : decode cX4_fill 70 = .ok (.iadd, 1) := by decide +kernel
theorem dX4_fill_71 : decode cX4_fill 71 = .ok (.istore 5, 2) := by decide +kernel
theorem dX4_fill_73 : decode cX4_fill 73 = .ok (.aload_n 0, 1) := by decide +kernel
theorem dX4_fill_74 : decode cX4_fill 74 = .ok (.getfield 12, 3) := by decide +kernel
theorem dX4_fill_77 : decode cX4_fill 77 = .ok (.aload_n 0, 1) := by decide +kernel
theorem dX4_fill_78 : decode cX4_fill 78 = .ok (.iload 5, 2) := by decide +kernel
theorem dX4_fill_80 : decode cX4_fill 80 = .ok (.bipush 16, 2) := by decide +kernel
theorem dX4_fill_82 : decode cX4_fill 82 = .ok (.iushr, 1) := by decide +kernel
theorem dX4_fill_83 : decode cX4_fill 83 = .ok (.iload_n 3, 1) := by decide +kernel
theorem dX4_fill_84 : decode cX4_fill 84 = .ok (.iload 4, 2) := by decide +kernel
theorem dX4_fill_86 : decode cX4_fill 86 = .ok (.invokevirtual 55, 3) := by decide +kernel
theorem dX4_fill_89 : decode cX4_fill 89 = .ok (.invokevirtual 47, 3) := by decide +kernel
theorem dX4_fill_92 : decode cX4_fill 92 = .ok (.iinc 6 1, 3) := by decide +kernel
theorem dX4_fill_95 : decode cX4_fill 95 = .ok (.goto (-39), 3) := by decide +kernel
theorem dX4_fill_98 : decode cX4_fill 98 = .ok (.aload_n 0, 1) := by decide +kernel
theorem dX4_fill_99 : decode cX4_fill 99 = .ok (.invokevirtual 51, 3) := by decide +kernel
theorem dX4_fill_102 : decode cX4_fill 102 = .ok (.aload_n 0, 1) := by decide +kernel
theorem dX4_fill_103 : decode cX4_fill 103 = .ok (.getfield 12, 3) := by decide +kernel
theorem dX4_fill_106 : decode cX4_fill 106 = .ok (.getfield 43, 3) := by decide +kernel
theorem dX4_fill_109 : decode cX4_fill 109 = .ok (.ireturn, 1) := by decide +kernel
set_option maxRecDepth 20000 in
theorem ggX4_clear_X4_forgetRows : GoodIn wsX4_clear wsX4_forgetRows := goodIn_r _ [7, 8, 9, 10, 11, 12, 13, 17, 18, 19, 20, 21, 22, 23, 24, 25, 26, 27] (by decide +kernel) (by decide +kernel)
set_option maxRecDepth 20000 in
theorem gX4_clear_X4_forgetRows : GoodIn wsX4_clear (wsV RX4 51 RX4 yX4_forgetRows wsX4_forgetRows) := goodIn_app (goodIn_of _ (by decide +kernel)) ggX4_clear_X4_forgetRows
theorem dX4_clear_0 : decode cX4_clear 0 = .ok (.aload_n 0, 1) := by decide +kernel
theorem dX4_clear_1 : decode cX4_clear 1 = .ok (.getfield 12, 3) := by decide +kernel
theorem dX4_clear_4 : decode cX4_clear 4 = .ok (.getfield 43, 3) := by decide +kernel
theorem dX4_clear_7 : decode cX4_clear 7 = .ok (.istore_n 1, 1) := by decide +kernel
theorem dX4_clear_8 : decode cX4_clear 8 = .ok (.aload_n 0, 1) := by decide +kernel
theorem dX4_clear_9 : decode cX4_clear 9 = .ok (.getfield 12, 3) := by decide +kernel
theorem dX4_clear_12 : decode cX4_clear 12 = .ok (.iconst 0, 1) := by decide +kernel
theorem dX4_clear_13 : decode cX4_clear 13 = .ok (.putfield 43, 3) := by decide +kernel
theorem dX4_clear_16 : decode cX4_clear 16 = .ok (.aload_n 0, 1) := by decide +kernel
theorem dX4_clear_17 : decode cX4_clear 17 = .ok (.invokevirtual 51, 3) := by decide +kernel
theorem dX4_clear_20 : decode cX4_clear 20 = .ok (.iload_n 1, 1) := by decide +kernel
theorem dX4_clear_21 : decode cX4_clear 21 = .ok (.ireturn, 1) := by decide +kernel
set_option maxRecDepth 20000 in
theorem ggX4_dictionary_X3_becomeDictionary : GoodIn wsX4_dictionary wsX3_becomeDictionary := goodIn_r _ [7, 8, 9, 10, 11, 12, 13, 14, 26, 27, 28] (by decide +kernel) (by decide +kernel)
set_option maxRecDepth 20000 in
theorem gX4_dictionary_X3_becomeDictionary : GoodIn wsX4_dictionary (wsV RX4 59 RX3 yX3_becomeDictionary wsX3_becomeDictionary) := goodIn_app (goodIn_of _ (by decide +kernel)) ggX4_dictionary_X3_becomeDictionary
set_option maxRecDepth 20000 in
theorem ggX4_dictionary_X4_forgetRows : GoodIn wsX4_dictionary wsX4_forgetRows := goodIn_r _ [19, 20, 21, 22, 23, 24, 25, 29, 30, 31, 32, 33, 34, 35, 36, 37, 38, 39] (by decide +kernel) (by decide +kernel)
set_option maxRecDepth 20000 in
theorem gX4_dictionary_X4_forgetRows : GoodIn wsX4_dictionary (wsV RX4 51 RX4 yX4_forgetRows wsX4_forgetRows) := goodIn_app (goodIn_of _ (by decide +kernel)) ggX4_dictionary_X4_forgetRows
theorem dX4_dictionary_0 : decode cX4_dictionary 0 = .ok (.aload_n 0, 1) := by decide +kernel
theorem dX4_dictionary_1 : decode cX4_dictionary 1 = .ok (.getfield 12, 3) := by decide +kernel
theorem dX4_dictionary_4 : decode cX4_dictionary 4 = .ok (.invokevirtual 59, 3) := by decide +kernel
theorem dX4_dictionary_7 : decode cX4_dictionary 7 = .ok (.aload_n 0, 1) := by decide +kernel
theorem dX4_dictionary_8 : decode cX4_dictionary 8 = .ok (.invokevirtual 51, 3) := by decide +kernel
theorem dX4_dictionary_11 : decode cX4_dictionary 11 = .ok (.aload_n 0, 1) := by decide +kernel
theorem dX4_dictionary_12 : decode cX4_dictionary 12 = .ok (.getfield 12, 3) := by decide +kernel
theorem dX4_dictionary_15 : decode cX4_dictionary 15 = .ok (.getfield 62, 3) := by decide +kernel
theorem dX4_dictionary_18 : decode cX4_dictionary 18 = .ok (.ireturn, 1) := by decide +kernel
theorem dX4_size_0 : decode cX4_size 0 = .ok (.iload_n 1, 1) := by decide +kernel
theorem dX4_size_1 : decode cX4_size 1 = .ok (.ifCond .ne 11, 3) := by decide +kernel
theorem dX4_size_4 : decode cX4_size 4 = .ok (.aload_n 0, 1) := by decide +kernel
theorem dX4_size_5 : decode cX4_size 5 = .ok (.getfield 12, 3) := by decide +kernel
theorem dX4_size_8 : decode cX4_size 8 = .ok (.getfield 43, 3) := by decide +kernel
theorem dX4_size_11 : decode cX4_size 11 = .ok (.ireturn, 1) := by decide +kernel
theorem dX4_size_12 : decode cX4_size 12 = .ok (.iload_n 1, 1) := by decide +kernel
theorem dX4_size_13 : decode cX4_size 13 = .ok (.iconst 1, 1) := by decide +kernel
theorem dX4_size_14 : decode cX4_size 14 = .ok (.if_icmp .ne 13, 3) := by decide +kernel
theorem dX4_size_17 : decode cX4_size 17 = .ok (.aload_n 0, 1) := by decide +kernel
theorem dX4_size_18 : decode cX4_size 18 = .ok (.getfield 12, 3) := by decide +kernel
theorem dX4_size_21 : decode cX4_size 21 = .ok (.getfield 62, 3) := by decide +kernel
theorem dX4_size_24 : decode cX4_size 24 = .ok (.goto 5, 3) := by decide +kernel
theorem dX4_size_27 : decode cX4_size 27 = .ok (.bipush (-2), 2) := by decide +kernel
theorem dX4_size_29 : decode cX4_size 29 = .ok (.ireturn, 1) := by decide +kernel
set_option maxRecDepth 20000 in
theorem ggX4_octet_X3_at : GoodIn wsX4_octet wsX3_at := goodIn_r _ [6, 7, 8, 9, 14, 15, 16] (by decide +kernel) (by decide +kernel)
set_option maxRecDepth 20000 in
theorem gX4_octet_X3_at : GoodIn wsX4_octet (wsV RX4 65 RX3 yX3_at wsX3_at) := goodIn_app (goodIn_of _ (by decide +kernel)) ggX4_octet_X3_at
theorem dX4_octet_0 : decode cX4_octet 0 = .ok (.aload_n 0, 1) := by decide +kernel
theorem dX4_octet_1 : decode cX4_octet 1 = .ok (.getfield 12, 3) := by decide +kernel
theorem dX4_octet_4 : decode cX4_octet 4 = .ok (.iload_n 1, 1) := by decide +kernel
theorem dX4_octet_5 : decode cX4_octet 5 = .ok (.invokevirtual 65, 3) := by decide +kernel
theorem dX4_octet_8 : decode cX4_octet 8 = .ok (.ireturn, 1) := by decide +kernel
set_option maxRecDepth 20000 in
theorem ggX4_longest_X4_isPlace : GoodIn wsX4_longest wsX4_isPlace := goodIn_r _ [8, 9, 10, 52, 53, 54, 55, 64, 65, 66] (by decide +kernel) (by decide +kernel)
set_option maxRecDepth 20000 in
theorem gX4_longest_X4_isPlace : GoodIn wsX4_longest (wsV RX4 69 RX4 yX4_isPlace wsX4_isPlace) := goodIn_app (goodIn_of _ (by decide +kernel)) ggX4_longest_X4_isPlace
set_option maxRecDepth 20000 in
theorem ggX4_longest_X0_seekLongest : GoodIn wsX4_longest wsX0_seekLongest := goodIn_r _ [15, 16, 17, 18, 19, 20, 21, 14, 22, 23, 24, 25, 26, 27, 28, 29, 30, 31, 32, 33, 34, 35, 36, 37, 38, 39, 40, 41, 42, 43, 44, 45, 46, 47, 48, 49, 50, 51, 56, 57, 58, 59, 60, 61, 62, 63, 64, 65, 66] (by decide +kernel) (by decide +kernel)
set_option maxRecDepth 20000 in
theorem gX4_longest_X0_seekLongest : GoodIn wsX4_longest (wsV RX4 73 RX0 yX0_seekLongest wsX0_seekLongest) := goodIn_app (goodIn_of _ (by decide +kernel)) ggX4_longest_X0_seekLongest
theorem dX4_longest_0 : decode cX4_longest 0 = .ok (.aload_n 0, 1) := by decide +kernel
theorem dX4_longest_1 : decode cX4_longest 1 = .ok (.iload_n 1, 1) := by decide +kernel
theorem dX4_longest_2 : decode cX4_longest 2 = .ok (.invokevirtual 69, 3) := by decide +kernel
theorem dX4_longest_5 : decode cX4_longest 5 = .ok (.ifCond .ne 5, 3) := by decide +kernel
theorem dX4_longest_8 : decode cX4_longest 8 = .ok (.iconst (-1), 1) := by decide +kernel
theorem dX4_longest_9 : decode cX4_longest 9 = .ok (.ireturn, 1) := by decide +kernel
theorem dX4_longest_10 : decode cX4_longest 10 = .ok (.iload_n 2, 1) := by decide +kernel
theorem dX4_longest_11 : decode cX4_longest 11 = .ok (.ifCond .lt 8, 3) := by decide +kernel
theorem dX4_longest_14 : decode cX4_longest 14 = .ok (.iload_n 2, 1) := by decide +kernel
theorem dX4_longest_15 : decode cX4_longest 15 = .ok (.iconst 1, 1) := by decide +kernel
theorem dX4_longest_16 : decode cX4_longest 16 = .ok (.if_icmp .le 6, 3) := by decide +kernel
theorem dX4_longest_19 : decode cX4_longest 19 = .ok (.bipush (-2), 2) := by decide +kernel
theorem dX4_longest_21 : decode cX4_longest 21 = .ok (.ireturn, 1) := by decide +kernel
theorem dX4_longest_22 : decode cX4_longest 22 = .ok (.aload_n 0, 1) := by decide +kernel
theorem dX4_longest_23 : decode cX4_longest 23 = .ok (.getfield 25, 3) := by decide +kernel
theorem dX4_longest_26 : decode cX4_longest 26 = .ok (.iload_n 1, 1) := by decide +kernel
theorem dX4_longest_27 : decode cX4_longest 27 = .ok (.invokevirtual 73, 3) := by decide +kernel
theorem dX4_longest_30 : decode cX4_longest 30 = .ok (.iload_n 2, 1) := by decide +kernel
theorem dX4_longest_31 : decode cX4_longest 31 = .ok (.ifCond .ne 13, 3) := by decide +kernel
theorem dX4_longest_34 : decode cX4_longest 34 = .ok (.aload_n 0, 1) := by decide +kernel
theorem dX4_longest_35 : decode cX4_longest 35 = .ok (.getfield 25, 3) := by decide +kernel
theorem dX4_longest_38 : decode cX4_longest 38 = .ok (.getfield 76, 3) := by decide +kernel
theorem dX4_longest_41 : decode cX4_longest 41 = .ok (.goto 10, 3) := by decide +kernel
theorem dX4_longest_44 : decode cX4_longest 44 = .ok (.aload_n 0, 1) := by decide +kernel
theorem dX4_longest_45 : decode cX4_longest 45 = .ok (.getfield 25, 3) := by decide +kernel
theorem dX4_longest_48 : decode cX4_longest 48 = .ok (.getfield 79, 3) := by decide +kernel
theorem dX4_longest_51 : decode cX4_longest 51 = .ok (.ireturn, 1) := by decide +kernel
set_option maxRecDepth 20000 in
theorem ggX4_chained_X4_isPlace : GoodIn wsX4_chained wsX4_isPlace := goodIn_r _ [8, 9, 10, 46, 47, 48, 49, 58, 59, 60] (by decide +kernel) (by decide +kernel)
set_option maxRecDepth 20000 in
theorem gX4_chained_X4_isPlace : GoodIn wsX4_chained (wsV RX4 69 RX4 yX4_isPlace wsX4_isPlace) := goodIn_app (goodIn_of _ (by decide +kernel)) ggX4_chained_X4_isPlace
set_option maxRecDepth 20000 in
theorem ggX4_chained_X0_seekChained : GoodIn wsX4_chained wsX0_seekChained := goodIn_r _ [15, 16, 17, 18, 19, 20, 21, 22, 23, 24, 25, 26, 14, 27, 28, 29, 30, 31, 32, 33, 34, 35, 36, 37, 38, 39, 40, 41, 42, 43, 44, 45, 50, 51, 52, 53, 54, 55, 56, 57, 58, 59, 60] (by decide +kernel) (by decide +kernel)
set_option maxRecDepth 20000 in
theorem gX4_chained_X0_seekChained : GoodIn wsX4_chained (wsV RX4 82 RX0 yX0_seekChained wsX0_seekChained) := goodIn_app (goodIn_of _ (by decide +kernel)) ggX4_chained_X0_seekChained
theorem dX4_chained_0 : decode cX4_chained 0 = .ok (.aload_n 0, 1) := by decide +kernel
theorem dX4_chained_1 : decode cX4_chained 1 = .ok (.iload_n 1, 1) := by decide +kernel
theorem dX4_chained_2 : decode cX4_chained 2 = .ok (.invokevirtual 69, 3) := by decide +kernel
theorem dX4_chained_5 : decode cX4_chained 5 = .ok (.ifCond .ne 5, 3) := by decide +kernel
theorem dX4_chained_8 : decode cX4_chained 8 = .ok (.iconst (-1), 1) := by decide +kernel
theorem dX4_chained_9 : decode cX4_chained 9 = .ok (.ireturn, 1) := by decide +kernel
theorem dX4_chained_10 : decode cX4_chained 10 = .ok (.iload_n 2, 1) := by decide +kernel
theorem dX4_chained_11 : decode cX4_chained 11 = .ok (.ifCond .lt 8, 3) := by decide +kernel
theorem dX4_chained_14 : decode cX4_chained 14 = .ok (.iload_n 2, 1) := by decide +kernel
theorem dX4_chained_15 : decode cX4_chained 15 = .ok (.iconst 1, 1) := by decide +kernel
theorem dX4_chained_16 : decode cX4_chained 16 = .ok (.if_icmp .le 6, 3) := by decide +kernel
theorem dX4_chained_19 : decode cX4_chained 19 = .ok (.bipush (-2), 2) := by decide +kernel
theorem dX4_chained_21 : decode cX4_chained 21 = .ok (.ireturn, 1) := by decide +kernel
theorem dX4_chained_22 : decode cX4_chained 22 = .ok (.aload_n 0, 1) := by decide +kernel
theorem dX4_chained_23 : decode cX4_chained 23 = .ok (.getfield 25, 3) := by decide +kernel
theorem dX4_chained_26 : decode cX4_chained 26 = .ok (.iload_n 1, 1) := by decide +kernel
theorem dX4_chained_27 : decode cX4_chained 27 = .ok (.invokevirtual 82, 3) := by decide +kernel
theorem dX4_chained_30 : decode cX4_chained 30 = .ok (.iload_n 2, 1) := by decide +kernel
theorem dX4_chained_31 : decode cX4_chained 31 = .ok (.ifCond .ne 13, 3) := by decide +kernel
theorem dX4_chained_34 : decode cX4_chained 34 = .ok (.aload_n 0, 1) := by decide +kernel
theorem dX4_chained_35 : decode cX4_chained 35 = .ok (.getfield 25, 3) := by decide +kernel
theorem dX4_chained_38 : decode cX4_chained 38 = .ok (.getfield 76, 3) := by decide +kernel
theorem dX4_chained_41 : decode cX4_chained 41 = .ok (.goto 10, 3) := by decide +kernel
theorem dX4_chained_44 : decode cX4_chained 44 = .ok (.aload_n 0, 1) := by decide +kernel
theorem dX4_chained_45 : decode cX4_chained 45 = .ok (.getfield 25, 3) := by decide +kernel
theorem dX4_chained_48 : decode cX4_chained 48 = .ok (.getfield 79, 3) := by decide +kernel
theorem dX4_chained_51 : decode cX4_chained 51 = .ok (.ireturn, 1) := by decide +kernel
set_option maxRecDepth 20000 in
theorem ggX4_front_X4_isPlace : GoodIn wsX4_front wsX4_isPlace := goodIn_r _ [9, 10, 11, 43, 44, 45, 46, 55, 56, 57] (by decide +kernel) (by decide +kernel)
set_option maxRecDepth 20000 in
theorem gX4_front_X4_isPlace : GoodIn wsX4_front (wsV RX4 69 RX4 yX4_isPlace wsX4_isPlace) := goodIn_app (goodIn_of _ (by decide +kernel)) ggX4_front_X4_isPlace
set_option maxRecDepth 20000 in
theorem ggX4_front_X0_gatherFront : GoodIn wsX4_front wsX0_gatherFront := goodIn_r _ [16, 17, 18, 19, 20, 21, 22, 23, 24, 25, 26, 27, 28, 29, 30, 31, 32, 33, 34, 35, 36, 37, 38, 39, 40, 41, 42, 47, 48, 49, 50, 51, 52, 53, 54, 55, 56, 57] (by decide +kernel) (by decide +kernel)
set_option maxRecDepth 20000 in
theorem gX4_front_X0_gatherFront : GoodIn wsX4_front (wsV RX4 85 RX0 yX0_gatherFront wsX0_gatherFront) := goodIn_app (goodIn_of _ (by decide +kernel)) ggX4_front_X0_gatherFront
theorem dX4_front_0 : decode cX4_front 0 = .ok (.aload_n 0, 1) := by decide +kernel
theorem dX4_front_1 : decode cX4_front 1 = .ok (.iload_n 1, 1) := by decide +kernel
theorem dX4_front_2 : decode cX4_front 2 = .ok (.invokevirtual 69, 3) := by decide +kernel
theorem dX4_front_5 : decode cX4_front 5 = .ok (.ifCond .ne 5, 3) := by decide +kernel
theorem dX4_front_8 : decode cX4_front 8 = .ok (.iconst (-1), 1) := by decide +kernel
theorem dX4_front_9 : decode cX4_front 9 = .ok (.ireturn, 1) := by decide +kernel
theorem dX4_front_10 : decode cX4_front 10 = .ok (.aload_n 0, 1) := by decide +kernel
theorem dX4_front_11 : decode cX4_front 11 = .ok (.getfield 25, 3) := by decide +kernel
theorem dX4_front_14 : decode cX4_front 14 = .ok (.iload_n 1, 1) := by decide +kernel
theorem dX4_front_15 : decode cX4_front 15 = .ok (.invokevirtual 85, 3) := by decide +kernel
theorem dX4_front_18 : decode cX4_front 18 = .ok (.iload_n 2, 1) := by decide +kernel
theorem dX4_front_19 : decode cX4_front 19 = .ok (.iconst (-1), 1) := by decide +kernel
theorem dX4_front_20 : decode cX4_front 20 = .ok (.if_icmp .lt 14, 3) := by decide +kernel
theorem dX4_front_23 : decode cX4_front 23 = .ok (.iload_n 2, 1) := by decide +kernel
theorem dX4_front_24 : decode cX4_front 24 = .ok (.aload_n 0, 1) := by decide +kernel
theorem dX4_front_25 : decode cX4_front 25 = .ok (.getfield 25, 3) := by decide +kernel
theorem dX4_front_28 : decode cX4_front 28 = .ok (.getfield 88, 3) := by decide +kernel
theorem dX4_front_31 : decode cX4_front 31 = .ok (.if_icmp .lt 5, 3) := by decide +kernel
theorem dX4_front_34 : decode cX4_front 34 = .ok (.iconst (-1), 1) := by decide +kernel
theorem dX4_front_35 : decode cX4_front 35 = .ok (.ireturn, 1) := by decide +kernel
theorem dX4_front_36 : decode cX4_front 36 = .ok (.iload_n 3, 1) := by decide +kernel
theorem dX4_front_37 : decode cX4_front 37 = .ok (.ifCond .lt 8, 3) := by decide +kernel
theorem dX4_front_40 : decode cX4_front 40 = .ok (.iload_n 3, 1) := by decide +kernel
theorem dX4_front_41 : decode cX4_front 41 = .ok (.iconst 1, 1) := by decide +kernel
theorem dX4_front_42 : decode cX4_front 42 = .ok (.if_icmp .le 6, 3) := by decide +kernel
theorem dX4_front_45 : decode cX4_front 45 = .ok (.bipush (-2), 2) := by decide +kernel
theorem dX4_front_47 : decode cX4_front 47 = .ok (.ireturn, 1) := by decide +kernel
theorem dX4_front_48 : decode cX4_front 48 = .ok (.iload_n 2, 1) := by decide +kernel
theorem dX4_front_49 : decode cX4_front 49 = .ok (.iconst (-1), 1) := by decide +kernel
theorem dX4_front_50 : decode cX4_front 50 = .ok (.if_icmp .ne 11, 3) := by decide +kernel
theorem dX4_front_53 : decode cX4_front 53 = .ok (.aload_n 0, 1) := by decide +kernel
theorem dX4_front_54 : decode cX4_front 54 = .ok (.getfield 25, 3) := by decide +kernel
theorem dX4_front_57 : decode cX4_front 57 = .ok (.getfield 88, 3) := by decide +kernel
theorem dX4_front_60 : decode cX4_front 60 = .ok (.ireturn, 1) := by decide +kernel
theorem dX4_front_61 : decode cX4_front 61 = .ok (.iload_n 3, 1) := by decide +kernel
theorem dX4_front_62 : decode cX4_front 62 = .ok (.ifCond .ne 15, 3) := by decide +kernel
theorem dX4_front_65 : decode cX4_front 65 = .ok (.aload_n 0, 1) := by decide +kernel
theorem dX4_front_66 : decode cX4_front 66 = .ok (.getfield 25, 3) := by decide +kernel
theorem dX4_front_69 : decode cX4_front 69 = .ok (.getfield 91, 3) := by decide +kernel
theorem dX4_front_72 : decode cX4_front 72 = .ok (.iload_n 2, 1) := by decide +kernel
theorem dX4_front_73 : decode cX4_front 73 = .ok (.iaload, 1) := by decide +kernel
theorem dX4_front_74 : decode cX4_front 74 = .ok (.goto 12, 3) := by decide +kernel
theorem dX4_front_77 : decode cX4_front 77 = .ok (.aload_n 0, 1) := by decide +kernel
theorem dX4_front_78 : decode cX4_front 78 = .ok (.getfield 25, 3) := by decide +kernel
theorem dX4_front_81 : decode cX4_front 81 = .ok (.getfield 95, 3) := by decide +kernel
theorem dX4_front_84 : decode cX4_front 84 = .ok (.iload_n 2, 1) := by decide +kernel
theorem dX4_front_85 : decode cX4_front 85 = .ok (.iaload, 1) := by decide +kernel
theorem dX4_front_86 : decode cX4_front 86 = .ok (.ireturn, 1) := by decide +kernel
set_option maxRecDepth 20000 in
theorem ggX4_pieces_X4_isWay : GoodIn wsX4_pieces wsX4_isWay := goodIn_r _ [5] (by decide +kernel) (by decide +kernel)
set_option maxRecDepth 20000 in
theorem gX4_pieces_X4_isWay : GoodIn wsX4_pieces (va_wsS RX4 98 yX4_isWay wsX4_isWay) := goodIn_app (goodIn_of _ (by decide +kernel)) ggX4_pieces_X4_isWay
set_option maxRecDepth 20000 in
theorem ggX4_pieces_X4_rowOf : GoodIn wsX4_pieces wsX4_rowOf := goodIn_r _ [9, 10, 11, 12, 13, 14, 15, 16, 17, 18, 19, 20, 21, 22, 23, 24, 25, 26, 27, 28, 29, 30, 31, 32, 33, 34, 35, 36, 37, 38, 39, 40, 41, 42, 43, 44, 45, 46, 47, 48, 49, 50, 51, 52, 53, 54, 55, 56, 57, 58, 59, 60, 61, 62, 63, 64, 65, 66, 4, 67, 68, 69, 70, 71, 72, 73, 74, 75, 76, 77, 78, 79, 80, 81, 82, 83, 84, 85, 86, 87, 88, 89, 90, 91, 92, 93, 94, 95, 96, 97, 98, 99, 100, 101, 102, 103, 104, 105, 106, 107, 108, 109, 110, 111, 112, 113, 114, 115, 116, 117, 118, 119, 120, 121, 122, 134, 135, 136, 137, 123, 124, 125, 126, 127, 128, 129, 130, 131, 132, 133, 138, 139, 140, 141, 142, 143, 144, 145, 146, 147, 148, 149, 150, 151] (by decide +kernel) (by decide +kernel)
set_option maxRecDepth 20000 in
theorem gX4_pieces_X4_rowOf : GoodIn wsX4_pieces (wsV RX4 101 RX4 yX4_rowOf wsX4_rowOf) := goodIn_app (goodIn_of _ (by decide +kernel)) ggX4_pieces_X4_rowOf
theorem dX4_pieces_0 : decode cX4_pieces 0 = .ok (.iload_n 1, 1) := by decide +kernel
theorem dX4_pieces_1 : decode cX4_pieces 1 = .ok (.invokestatic 98, 3) := by decide +kernel
theorem dX4_pieces_4 : decode cX4_pieces 4 = .ok (.ifCond .ne 5, 3) := by decide +kernel
theorem dX4_pieces_7 : decode cX4_pieces 7 = .ok (.iconst (-1), 1) := by decide +kernel
theorem dX4_pieces_8 : decode cX4_pieces 8 = .ok (.ireturn, 1) := by decide +kernel
theorem dX4_pieces_9 : decode cX4_pieces 9 = .ok (.aload_n 0, 1) := by decide +kernel
theorem dX4_pieces_10 : decode cX4_pieces 10 = .ok (.iload_n 1, 1) := by decide +kernel
theorem dX4_pieces_11 : decode cX4_pieces 11 = .ok (.invokevirtual 101, 3) := by decide +kernel
theorem dX4_pieces_14 : decode cX4_pieces 14 = .ok (.getfield 105, 3) := by decide +kernel
theorem dX4_pieces_17 : decode cX4_pieces 17 = .ok (.ireturn, 1) := by decide +kernel
set_option maxRecDepth 20000 in
theorem ggX4_piece_X4_isWay : GoodIn wsX4_piece wsX4_isWay := goodIn_r _ [8] (by decide +kernel) (by decide +kernel)
set_option maxRecDepth 20000 in
theorem gX4_piece_X4_isWay : GoodIn wsX4_piece (va_wsS RX4 98 yX4_isWay wsX4_isWay) := goodIn_app (goodIn_of _ (by decide +kernel)) ggX4_piece_X4_isWay
set_option maxRecDepth 20000 in
theorem ggX4_piece_X4_rowOf : GoodIn wsX4_piece wsX4_rowOf := goodIn_r _ [12, 13, 14, 15, 16, 17, 18, 19, 20, 21, 22, 23, 24, 25, 26, 27, 28, 29, 30, 31, 32, 33, 34, 35, 36, 37, 38, 39, 40, 41, 42, 43, 44, 45, 46, 47, 48, 49, 50, 51, 52, 53, 54, 55, 56, 57, 58, 59, 60, 61, 62, 63, 64, 65, 66, 67, 68, 69, 7, 70, 71, 72, 73, 74, 75, 76, 77, 78, 79, 80, 81, 82, 83, 84, 85, 86, 87, 88, 89, 90, 91, 92, 93, 94, 95, 96, 97, 98, 99, 100, 101, 102, 103, 104, 105, 106, 107, 108, 109, 110, 111, 112, 113, 114, 115, 116, 117, 118, 119, 120, 121, 122, 123, 124, 125, 137, 138, 139, 140, 126, 127, 128, 129, 130, 131, 132, 133, 134, 135, 136, 141, 142, 143, 144, 145, 146, 147, 148, 149, 150, 151, 152, 153, 154] (by decide +kernel) (by decide +kernel)
set_option maxRecDepth 20000 in
theorem gX4_piece_X4_rowOf : GoodIn wsX4_piece (wsV RX4 101 RX4 yX4_rowOf wsX4_rowOf) := goodIn_app (goodIn_of _ (by decide +kernel)) ggX4_piece_X4_rowOf
theorem dX4_piece_0 : decode cX4_piece 0 = .ok (.iload_n 1, 1) := by decide +kernel
theorem dX4_piece_1 : decode cX4_piece 1 = .ok (.invokestatic 98, 3) := by decide +kernel
theorem dX4_piece_4 : decode cX4_piece 4 = .ok (.ifCond .ne 5, 3) := by decide +kernel
theorem dX4_piece_7 : decode cX4_piece 7 = .ok (.iconst (-1), 1) := by decide +kernel
theorem dX4_piece_8 : decode cX4_piece 8 = .ok (.ireturn, 1) := by decide +kernel
theorem dX4_piece_9 : decode cX4_piece 9 = .ok (.aload_n 0, 1) := by decide +kernel
theorem dX4_piece_10 : decode cX4_piece 10 = .ok (.iload_n 1, 1) := by decide +kernel
theorem dX4_piece_11 : decode cX4_piece 11 = .ok (.invokevirtual 101, 3) := by decide +kernel
theorem dX4_piece_14 : decode cX4_piece 14 = .ok (.astore 4, 2) := by decide +kernel
theorem dX4_piece_16 : decode cX4_piece 16 = .ok (.iload_n 2, 1) := by decide +kernel
theorem dX4_piece_17 : decode cX4_piece 17 = .ok (.ifCond .lt 12, 3) := by decide +kernel
theorem dX4_piece_20 : decode cX4_piece 20 = .ok (.iload_n 2, 1) := by decide +kernel
theorem dX4_piece_21 : decode cX4_piece 21 = .ok (.aload 4, 2) := by decide +kernel
theorem dX4_piece_23 : decode cX4_piece 23 = .ok (.getfield 105, 3) := by decide +kernel
theorem dX4_piece_26 : decode cX4_piece 26 = .ok (.if_icmp .lt 5, 3) := by decide +kernel
theorem dX4_piece_29 : decode cX4_piece 29 = .ok (.iconst (-1), 1) := by decide +kernel
theorem dX4_piece_30 : decode cX4_piece 30 = .ok (.ireturn, 1) := by decide +kernel
theorem dX4_piece_31 : decode cX4_piece 31 = .ok (.iload_n 3, 1) := by decide +kernel
theorem dX4_piece_32 : decode cX4_piece 32 = .ok (.tableswitch 52 0 2 #[28, 36, 44], 28) := by decide +kernel
theorem dX4_piece_60 : decode cX4_piece 60 = .ok (.aload 4, 2) := by decide +kernel
theorem dX4_piece_62 : decode cX4_piece 62 = .ok (.getfield 108, 3) := by decide +kernel
theorem dX4_piece_65 : decode cX4_piece 65 = .ok (.iload_n 2, 1) := by decide +kernel
theorem dX4_piece_66 : decode cX4_piece 66 = .ok (.iaload, 1) := by decide +kernel
theorem dX4_piece_67 : decode cX4_piece 67 = .ok (.ireturn, 1) := by decide +kernel
theorem dX4_piece_68 : decode cX4_piece 68 = .ok (.aload 4, 2) := by decide +kernel
theorem dX4_piece_70 : decode cX4_piece 70 = .ok (.getfield 111, 3) := by decide +kernel
theorem dX4_piece_73 : decode cX4_piece 73 = .ok (.iload_n 2, 1) := by decide +kernel
theorem dX4_piece_74 : decode cX4_piece 74 = .ok (.iaload, 1) := by decide +kernel
theorem dX4_piece_75 : decode cX4_piece 75 = .ok (.ireturn, 1) := by decide +kernel
theorem dX4_piece_76 : decode cX4_piece 76 = .ok (.aload 4, 2) := by decide +kernel
theorem dX4_piece_78 : decode cX4_piece 78 = .ok (.getfield 114, 3) := by decide +kernel
theorem dX4_piece_81 : decode cX4_piece 81 = .ok (.iload_n 2, 1) := by decide +kernel
theorem dX4_piece_82 : decode cX4_piece 82 = .ok (.iaload, 1) := by decide +kernel
theorem dX4_piece_83 : decode cX4_piece 83 = .ok (.ireturn, 1) := by decide +kernel
theorem dX4_piece_84 : decode cX4_piece 84 = .ok (.bipush (-2), 2) := by decide +kernel
theorem dX4_piece_86 : decode cX4_piece 86 = .ok (.ireturn, 1) := by decide +kernel
set_option maxRecDepth 20000 in
theorem ggX4_bits_X4_isWay : GoodIn wsX4_bits wsX4_isWay := goodIn_r _ [6] (by decide +kernel) (by decide +kernel)
set_option maxRecDepth 20000 in
theorem gX4_bits_X4_isWay : GoodIn wsX4_bits (va_wsS RX4 98 yX4_isWay wsX4_isWay) := goodIn_app (goodIn_of _ (by decide +kernel)) ggX4_bits_X4_isWay
set_option maxRecDepth 20000 in
theorem ggX4_bits_X4_rowOf : GoodIn wsX4_bits wsX4_rowOf := goodIn_r _ [10, 11, 12, 13, 14, 15, 16, 17, 18, 19, 20, 21, 22, 23, 24, 25, 26, 27, 28, 29, 30, 31, 32, 33, 34, 35, 36, 37, 38, 39, 40, 41, 42, 43, 44, 45, 46, 47, 48, 49, 50, 51, 52, 53, 54, 55, 56, 57, 58, 59, 60, 61, 62, 63, 64, 65, 66, 67, 5, 68, 69, 70, 71, 72, 73, 74, 75, 76, 77, 78, 79, 80, 81, 82, 83, 84, 85, 86, 87, 88, 89, 90, 91, 92, 93, 94, 95, 96, 97, 98, 99, 100, 101, 102, 103, 104, 105, 106, 107, 108, 109, 110, 111, 112, 113, 114, 115, 116, 117, 118, 119, 120, 121, 122, 123, 135, 136, 137, 138, 124, 125, 126, 127, 128, 129, 130, 131, 132, 133, 134, 139, 140, 141, 142, 143, 144, 145, 146, 147, 148, 149, 150, 151, 152] (by decide +kernel) (by decide +kernel)
set_option maxRecDepth 20000 in
theorem gX4_bits_X4_rowOf : GoodIn wsX4_bits (wsV RX4 101 RX4 yX4_rowOf wsX4_rowOf) := goodIn_app (goodIn_of _ (by decide +kernel)) ggX4_bits_X4_rowOf
theorem dX4_bits_0 : decode cX4_bits 0 = .ok (.iload_n 1, 1) := by decide +kernel
theorem dX4_bits_1 : decode cX4_bits 1 = .ok (.invokestatic 98, 3) := by decide +kernel
theorem dX4_bits_4 : decode cX4_bits 4 = .ok (.ifCond .ne 5, 3) := by decide +kernel
theorem dX4_bits_7 : decode cX4_bits 7 = .ok (.iconst (-1), 1) := by decide +kernel
theorem dX4_bits_8 : decode cX4_bits 8 = .ok (.ireturn, 1) := by decide +kernel
theorem dX4_bits_9 : decode cX4_bits 9 = .ok (.iload_n 2, 1) := by decide +kernel
theorem dX4_bits_10 : decode cX4_bits 10 = .ok (.ifCond .lt 8, 3) := by decide +kernel
theorem dX4_bits_13 : decode cX4_bits 13 = .ok (.iload_n 2, 1) := by decide +kernel
theorem dX4_bits_14 : decode cX4_bits 14 = .ok (.iconst 1, 1) := by decide +kernel
theorem dX4_bits_15 : decode cX4_bits 15 = .ok (.if_icmp .le 6, 3) := by decide +kernel
theorem dX4_bits_18 : decode cX4_bits 18 = .ok (.bipush (-2), 2) := by decide +kernel
theorem dX4_bits_20 : decode cX4_bits 20 = .ok (.ireturn, 1) := by decide +kernel
theorem dX4_bits_21 : decode cX4_bits 21 = .ok (.aload_n 0, 1) := by decide +kernel
theorem dX4_bits_22 : decode cX4_bits 22 = .ok (.iload_n 1, 1) := by decide +kernel
theorem dX4_bits_23 : decode cX4_bits 23 = .ok (.invokevirtual 101, 3) := by decide +kernel
theorem dX4_bits_26 : decode cX4_bits 26 = .ok (.astore_n 3, 1) := by decide +kernel
theorem dX4_bits_27 : decode cX4_bits 27 = .ok (.iload_n 2, 1) := by decide +kernel
theorem dX4_bits_28 : decode cX4_bits 28 = .ok (.ifCond .ne 10, 3) := by decide +kernel
theorem dX4_bits_31 : decode cX4_bits 31 = .ok (.aload_n 3, 1) := by decide +kernel
theorem dX4_bits_32 : decode cX4_bits 32 = .ok (.getfield 117, 3) := by decide +kernel
theorem dX4_bits_35 : decode cX4_bits 35 = .ok (.goto 7, 3) := by decide +kernel
theorem dX4_bits_38 : decode cX4_bits 38 = .ok (.aload_n 3, 1) := by decide +kernel
theorem dX4_bits_39 : decode cX4_bits 39 = .ok (.getfield 120, 3) := by decide +kernel
theorem dX4_bits_42 : decode cX4_bits 42 = .ok (.ireturn, 1) := by decide +kernel
set_option maxRecDepth 20000 in
theorem ggX4_repeats_X4_isWay : GoodIn wsX4_repeats wsX4_isWay := goodIn_r _ [5] (by decide +kernel) (by decide +kernel)
set_option maxRecDepth 20000 in
theorem gX4_repeats_X4_isWay : GoodIn wsX4_repeats (va_wsS RX4 98 yX4_isWay wsX4_isWay) := goodIn_app (goodIn_of _ (by decide +kernel)) ggX4_repeats_X4_isWay
set_option maxRecDepth 20000 in
theorem ggX4_repeats_X4_rowOf : GoodIn wsX4_repeats wsX4_rowOf := goodIn_r _ [9, 10, 11, 12, 13, 14, 15, 16, 17, 18, 19, 20, 21, 22, 23, 24, 25, 26, 27, 28, 29, 30, 31, 32, 33, 34, 35, 36, 37, 38, 39, 40, 41, 42, 43, 44, 45, 46, 47, 48, 49, 50, 51, 52, 53, 54, 55, 56, 57, 58, 59, 60, 61, 62, 63, 64, 65, 66, 4, 67, 68, 69, 70, 71, 72, 73, 74, 75, 76, 77, 78, 79, 80, 81, 82, 83, 84, 85, 86, 87, 88, 89, 90, 91, 92, 93, 94, 95, 96, 97, 98, 99, 100, 101, 102, 103, 104, 105, 106, 107, 108, 109, 110, 111, 112, 113, 114, 115, 116, 117, 118, 119, 120, 121, 122, 134, 135, 136, 137, 123, 124, 125, 126, 127, 128, 129, 130, 131, 132, 133, 138, 139, 140, 141, 142, 143, 144, 145, 146, 147, 148, 149, 150, 151] (by decide +kernel) (by decide +kernel)
set_option maxRecDepth 20000 in
theorem gX4_repeats_X4_rowOf : GoodIn wsX4_repeats (wsV RX4 101 RX4 yX4_rowOf wsX4_rowOf) := goodIn_app (goodIn_of _ (by decide +kernel)) ggX4_repeats_X4_rowOf
theorem dX4_repeats_0 : decode cX4_repeats 0 = .ok (.iload_n 1, 1) := by decide +kernel
theorem dX4_repeats_1 : decode cX4_repeats 1 = .ok (.invokestatic 98, 3) := by decide +kernel
theorem dX4_repeats_4 : decode cX4_repeats 4 = .ok (.ifCond .ne 5, 3) := by decide +kernel
theorem dX4_repeats_7 : decode cX4_repeats 7 = .ok (.iconst (-1), 1) := by decide +kernel
theorem dX4_repeats_8 : decode cX4_repeats 8 = .ok (.ireturn, 1) := by decide +kernel
theorem dX4_repeats_9 : decode cX4_repeats 9 = .ok (.aload_n 0, 1) := by decide +kernel
theorem dX4_repeats_10 : decode cX4_repeats 10 = .ok (.iload_n 1, 1) := by decide +kernel
theorem dX4_repeats_11 : decode cX4_repeats 11 = .ok (.invokevirtual 101, 3) := by decide +kernel
theorem dX4_repeats_14 : decode cX4_repeats 14 = .ok (.getfield 123, 3) := by decide +kernel
theorem dX4_repeats_17 : decode cX4_repeats 17 = .ok (.ireturn, 1) := by decide +kernel
set_option maxRecDepth 20000 in
theorem ggX4_share_X4_isWay : GoodIn wsX4_share wsX4_isWay := goodIn_r _ [9] (by decide +kernel) (by decide +kernel)
set_option maxRecDepth 20000 in
theorem gX4_share_X4_isWay : GoodIn wsX4_share (va_wsS RX4 98 yX4_isWay wsX4_isWay) := goodIn_app (goodIn_of _ (by decide +kernel)) ggX4_share_X4_isWay
set_option maxRecDepth 20000 in
theorem ggX4_share_X4_rowOf : GoodIn wsX4_share wsX4_rowOf := goodIn_r _ [13, 14, 15, 16, 17, 3, 4, 18, 19, 20, 21, 22, 23, 24, 25, 26, 27, 28, 29, 30, 31, 32, 33, 34, 35, 36, 37, 38, 39, 40, 41, 42, 43, 44, 45, 46, 47, 48, 49, 50, 51, 52, 53, 54, 55, 56, 57, 58, 59, 60, 61, 62, 63, 64, 65, 66, 67, 68, 8, 69, 70, 71, 72, 73, 74, 75, 76, 77, 78, 79, 80, 81, 82, 83, 84, 85, 86, 87, 88, 89, 90, 91, 92, 93, 94, 95, 96, 97, 98, 99, 100, 101, 102, 103, 104, 105, 106, 107, 108, 109, 110, 111, 112, 113, 114, 115, 116, 117, 118, 119, 120, 121, 122, 123, 124, 125, 126, 127, 128, 132, 133, 134, 135, 136, 137, 138, 139, 140, 141, 142, 129, 130, 131, 143, 144, 145, 146, 147, 148, 149, 150, 151, 152, 153] (by decide +kernel) (by decide +kernel)
set_option maxRecDepth 20000 in
theorem gX4_share_X4_rowOf : GoodIn wsX4_share (wsV RX4 101 RX4 yX4_rowOf wsX4_rowOf) := goodIn_app (goodIn_of _ (by decide +kernel)) ggX4_share_X4_rowOf
theorem dX4_share_0 : decode cX4_share 0 = .ok (.iload_n 1, 1) := by decide +kernel
theorem dX4_share_1 : decode cX4_share 1 = .ok (.invokestatic 98, 3) := by decide +kernel
theorem dX4_share_4 : decode cX4_share 4 = .ok (.ifCond .ne 5, 3) := by decide +kernel
theorem dX4_share_7 : decode cX4_share 7 = .ok (.iconst (-1), 1) := by decide +kernel
theorem dX4_share_8 : decode cX4_share 8 = .ok (.ireturn, 1) := by decide +kernel
theorem dX4_share_9 : decode cX4_share 9 = .ok (.aload_n 0, 1) := by decide +kernel
theorem dX4_share_10 : decode cX4_share 10 = .ok (.getfield 12, 3) := by decide +kernel
theorem dX4_share_13 : decode cX4_share 13 = .ok (.getfield 43, 3) := by decide +kernel
theorem dX4_share_16 : decode cX4_share 16 = .ok (.ifCond .gt 13, 3) := by decide +kernel
theorem dX4_share_19 : decode cX4_share 19 = .ok (.new 126, 3) := by decide +kernel
theorem dX4_share_22 : decode cX4_share 22 = .ok (.dup, 1) := by decide +kernel
theorem dX4_share_23 : decode cX4_share 23 = .ok (.ldc 128, 2) := by decide +kernel
theorem dX4_share_25 : decode cX4_share 25 = .ok (.invokespecial 130, 3) := by decide +kernel
theorem dX4_share_28 : decode cX4_share 28 = .ok (.athrow, 1) := by decide +kernel
theorem dX4_share_29 : decode cX4_share 29 = .ok (.sipush 1000, 3) := by decide +kernel
theorem dX4_share_32 : decode cX4_share 32 = .ok (.aload_n 0, 1) := by decide +kernel
theorem dX4_share_33 : decode cX4_share 33 = .ok (.iload_n 1, 1) := by decide +kernel
theorem dX4_share_34 : decode cX4_share 34 = .ok (.invokevirtual 101, 3) := by decide +kernel
theorem dX4_share_37 : decode cX4_share 37 = .ok (.getfield 120, 3) := by decide +kernel
theorem dX4_share_40 : decode cX4_share 40 = .ok (.imul, 1) := by decide +kernel
theorem dX4_share_41 : decode cX4_share 41 = .ok (.bipush 8, 2) := by decide +kernel
theorem dX4_share_43 : decode cX4_share 43 = .ok (.aload_n 0, 1) := by decide +kernel
theorem dX4_share_44 : decode cX4_share 44 = .ok (.getfield 12, 3) := by decide +kernel
theorem dX4_share_47 : decode cX4_share 47 = .ok (.getfield 43, 3) := by decide +kernel
theorem dX4_share_50 : decode cX4_share 50 = .ok (.imul, 1) := by decide +kernel
theorem dX4_share_51 : decode cX4_share 51 = .ok (.idiv, 1) := by decide +kernel
theorem dX4_share_52 : decode cX4_share 52 = .ok (.ireturn, 1) := by decide +kernel
theorem dX4_nearest_0 : decode cX4_nearest 0 = .ok (.iconst 1, 1) := by decide +kernel
theorem dX4_nearest_1 : decode cX4_nearest 1 = .ok (.iload_n 1, 1) := by decide +kernel
theorem dX4_nearest_2 : decode cX4_nearest 2 = .ok (.iload_n 0, 1) := by decide +kernel
theorem dX4_nearest_3 : decode cX4_nearest 3 = .ok (.invokestatic 133, 3) := by decide +kernel
theorem dX4_nearest_6 : decode cX4_nearest 6 = .ok (.invokestatic 138, 3) := by decide +kernel
theorem dX4_nearest_9 : decode cX4_nearest 9 = .ok (.ireturn, 1) := by decide +kernel
theorem dX4_gammaBits_0 : decode cX4_gammaBits 0 = .ok (.iconst 1, 1) := by decide +kernel
theorem dX4_gammaBits_1 : decode cX4_gammaBits 1 = .ok (.istore_n 1, 1) := by decide +kernel
theorem dX4_gammaBits_2 : decode cX4_gammaBits 2 = .ok (.iload_n 0, 1) := by decide +kernel
theorem dX4_gammaBits_3 : decode cX4_gammaBits 3 = .ok (.istore_n 2, 1) := by decide +kernel
theorem dX4_gammaBits_4 : decode cX4_gammaBits 4 = .ok (.iload_n 2, 1) := by decide +kernel
theorem dX4_gammaBits_5 : decode cX4_gammaBits 5 = .ok (.iconst 1, 1) := by decide +kernel
theorem dX4_gammaBits_6 : decode cX4_gammaBits 6 = .ok (.if_icmp .le 13, 3) := by decide +kernel
theorem dX4_gammaBits_9 : decode cX4_gammaBits 9 = .ok (.iinc 1 2, 3) := by decide +kernel
theorem dX4_gammaBits_12 : decode cX4_gammaBits 12 = .ok (.iload_n 2, 1) := by decide +kernel
theorem dX4_gammaBits_13 : decode cX4_gammaBits 13 = .ok (.iconst 1, 1) := by decide +kernel
theorem dX4_gammaBits_14 : decode cX4_gammaBits 14 = .ok (.ishr, 1) := by decide +kernel
theorem dX4_gammaBits_15 : decode cX4_gammaBits 15 = .ok (.istore_n 2, 1) := by decide +kernel
theorem dX4_gammaBits_16 : decode cX4_gammaBits 16 = .ok (.goto (-12), 3) := by decide +kernel
theorem dX4_gammaBits_19 : decode cX4_gammaBits 19 = .ok (.iload_n 1, 1) := by decide +kernel
theorem dX4_gammaBits_20 : decode cX4_gammaBits 20 = .ok (.ireturn, 1) := by decide +kernel
theorem dX4_isPlace_0 : decode cX4_isPlace 0 = .ok (.iload_n 1, 1) := by decide +kernel
theorem dX4_isPlace_1 : decode cX4_isPlace 1 = .ok (.ifCond .lt 18, 3) := by decide +kernel
theorem dX4_isPlace_4 : decode cX4_isPlace 4 = .ok (.iload_n 1, 1) := by decide +kernel
theorem dX4_isPlace_5 : decode cX4_isPlace 5 = .ok (.aload_n 0, 1) := by decide +kernel
theorem dX4_isPlace_6 : decode cX4_isPlace 6 = .ok (.getfield 12, 3) := by decide +kernel
theorem dX4_isPlace_9 : decode cX4_isPlace 9 = .ok (.getfield 43, 3) := by decide +kernel
theorem dX4_isPlace_12 : decode cX4_isPlace 12 = .ok (.if_icmp .ge 7, 3) := by decide +kernel
theorem dX4_isPlace_15 : decode cX4_isPlace 15 = .ok (.iconst 1, 1) := by decide +kernel
theorem dX4_isPlace_16 : decode cX4_isPlace 16 = .ok (.goto 4, 3) := by decide +kernel
theorem dX4_isPlace_19 : decode cX4_isPlace 19 = .ok (.iconst 0, 1) := by decide +kernel
theorem dX4_isPlace_20 : decode cX4_isPlace 20 = .ok (.ireturn, 1) := by decide +kernel
theorem dX4_isWay_0 : decode cX4_isWay 0 = .ok (.iload_n 0, 1) := by decide +kernel
theorem dX4_isWay_1 : decode cX4_isWay 1 = .ok (.ifCond .lt 12, 3) := by decide +kernel
theorem dX4_isWay_4 : decode cX4_isWay 4 = .ok (.iload_n 0, 1) := by decide +kernel
theorem dX4_isWay_5 : decode cX4_isWay 5 = .ok (.iconst 4, 1) := by decide +kernel
theorem dX4_isWay_6 : decode cX4_isWay 6 = .ok (.if_icmp .ge 7, 3) := by decide +kernel
theorem dX4_isWay_9 : decode cX4_isWay 9 = .ok (.iconst 1, 1) := by decide +kernel
theorem dX4_isWay_10 : decode cX4_isWay 10 = .ok (.goto 4, 3) := by decide +kernel
theorem dX4_isWay_13 : decode cX4_isWay 13 = .ok (.iconst 0, 1) := by decide +kernel
theorem dX4_isWay_14 : decode cX4_isWay 14 = .ok (.ireturn, 1) := by decide +kernel
set_option maxRecDepth 20000 in
theorem ggX4_filling_X3_at : GoodIn wsX4_filling wsX3_at := goodIn_r _ [7, 8, 9, 10, 15, 16, 17] (by decide +kernel) (by decide +kernel)
set_option maxRecDepth 20000 in
theorem gX4_filling_X3_at : GoodIn wsX4_filling (wsV RX4 65 RX3 yX3_at wsX3_at) := goodIn_app (goodIn_of _ (by decide +kernel)) ggX4_filling_X3_at
theorem dX4_filling_0 : decode cX4_filling 0 = .ok (.iload_n 2, 1) := by decide +kernel
theorem dX4_filling_1 : decode cX4_filling 1 = .ok (.ifCond .ne 9, 3) := by decide +kernel
theorem dX4_filling_4 : decode cX4_filling 4 = .ok (.iload_n 1, 1) := by decide +kernel
theorem dX4_filling_5 : decode cX4_filling 5 = .ok (.sipush 256, 3) := by decide +kernel
theorem dX4_filling_8 : decode cX4_filling 8 = .ok (.irem, 1) := by decide +kernel
theorem dX4_filling_9 : decode cX4_filling 9 = .ok (.ireturn, 1) := by decide +kernel
theorem dX4_filling_10 : decode cX4_filling 10 = .ok (.iload_n 2, 1) := by decide +kernel
theorem dX4_filling_11 : decode cX4_filling 11 = .ok (.iconst 1, 1) := by decide +kernel
theorem dX4_filling_12 : decode cX4_filling 12 = .ok (.if_icmp .ne 7, 3) := by decide +kernel
theorem dX4_filling_15 : decode cX4_filling 15 = .ok (.iload_n 1, 1) := by decide +kernel
theorem dX4_filling_16 : decode cX4_filling 16 = .ok (.iconst 3, 1) := by decide +kernel
theorem dX4_filling_17 : decode cX4_filling 17 = .ok (.irem, 1) := by decide +kernel
theorem dX4_filling_18 : decode cX4_filling 18 = .ok (.ireturn, 1) := by decide +kernel
theorem dX4_filling_19 : decode cX4_filling 19 = .ok (.aload_n 0, 1) := by decide +kernel
theorem dX4_filling_20 : decode cX4_filling 20 = .ok (.getfield 12, 3) := by decide +kernel
theorem dX4_filling_23 : decode cX4_filling 23 = .ok (.getfield 43, 3) := by decide +kernel
theorem dX4_filling_26 : decode cX4_filling 26 = .ok (.iload_n 3, 1) := by decide +kernel
theorem dX4_filling_27 : decode cX4_filling 27 = .ok (.isub, 1) := by decide +kernel
theorem dX4_filling_28 : decode cX4_filling 28 = .ok (.istore 4, 2) := by decide +kernel
theorem dX4_filling_30 : decode cX4_filling 30 = .ok (.iload_n 1, 1) := by decide +kernel
theorem dX4_filling_31 : decode cX4_filling 31 = .ok (.bipush 8, 2) := by decide +kernel
theorem dX4_filling_33 : decode cX4_filling 33 = .ok (.irem, 1) := by decide +kernel
theorem dX4_filling_34 : decode cX4_filling 34 = .ok (.ifCond .eq 20, 3) := by decide +kernel
theorem dX4_filling_37 : decode cX4_filling 37 = .ok (.iload 4, 2) := by decide +kernel
theorem dX4_filling_39 : decode cX4_filling 39 = .ok (.ifCond .lt 15, 3) := by decide +kernel
theorem dX4_filling_42 : decode cX4_filling 42 = .ok (.aload_n 0, 1) := by decide +kernel
theorem dX4_filling_43 : decode cX4_filling 43 = .ok (.getfield 12, 3) := by decide +kernel
theorem dX4_filling_46 : decode cX4_filling 46 = .ok (.iload 4, 2) := by decide +kernel
theorem dX4_filling_48 : decode cX4_filling 48 = .ok (.invokevirtual 65, 3) := by decide +kernel
theorem dX4_filling_51 : decode cX4_filling 51 = .ok (.goto 6, 3) := by decide +kernel
theorem dX4_filling_54 : decode cX4_filling 54 = .ok (.iload_n 1, 1) := by decide +kernel
theorem dX4_filling_55 : decode cX4_filling 55 = .ok (.iconst 4, 1) := by decide +kernel
theorem dX4_filling_56 : decode cX4_filling 56 = .ok (.irem, 1) := by decide +kernel
theorem dX4_filling_57 : decode cX4_filling 57 = .ok (.ireturn, 1) := by decide +kernel
theorem dX4_forgetRows_0 : decode cX4_forgetRows 0 = .ok (.iconst 0, 1) := by decide +kernel
theorem dX4_forgetRows_1 : decode cX4_forgetRows 1 = .ok (.istore_n 1, 1) := by decide +kernel
theorem dX4_forgetRows_2 : decode cX4_forgetRows 2 = .ok (.iload_n 1, 1) := by decide +kernel
theorem dX4_forgetRows_3 : decode cX4_forgetRows 3 = .ok (.iconst 4, 1) := by decide +kernel
theorem dX4_forgetRows_4 : decode cX4_forgetRows 4 = .ok (.if_icmp .ge 19, 3) := by decide +kernel
theorem dX4_forgetRows_7 : decode cX4_forgetRows 7 = .ok (.aload_n 0, 1) := by decide +kernel
theorem dX4_forgetRows_8 : decode cX4_forgetRows 8 = .ok (.getfield 38, 3) := by decide +kernel
theorem dX4_forgetRows_11 : decode cX4_forgetRows 11 = .ok (.iload_n 1, 1) := by decide +kernel
theorem dX4_forgetRows_12 : decode cX4_forgetRows 12 = .ok (.aaload, 1) := by decide +kernel
theorem dX4_forgetRows_13 : decode cX4_forgetRows 13 = .ok (.iconst 0, 1) := by decide +kernel
theorem dX4_forgetRows_14 : decode cX4_forgetRows 14 = .ok (.putfield 141, 3) := by decide +kernel
theorem dX4_forgetRows_17 : decode cX4_forgetRows 17 = .ok (.iinc 1 1, 3) := by decide +kernel
theorem dX4_forgetRows_20 : decode cX4_forgetRows 20 = .ok (.goto (-18), 3) := by decide +kernel
theorem dX4_forgetRows_23 : decode cX4_forgetRows 23 = .ok (.return_, 1) := by decide +kernel
set_option maxRecDepth 20000 in
theorem ggX4_rowOf_X1_make : GoodIn wsX4_rowOf wsX1_make := goodIn_r _ [13, 14, 15, 16, 17, 18, 19, 20, 21, 22, 23, 24, 25, 26, 27, 28, 29, 30, 31, 32, 33, 34, 35, 36, 37, 38, 39, 40, 41, 42, 43, 44, 45, 46, 47, 48, 49, 50, 51, 52, 12, 53, 54, 55, 56, 57, 58, 59, 133, 134, 135, 136, 137, 138, 139, 140, 130, 131, 132, 141, 142, 143] (by decide +kernel) (by decide +kernel)
set_option maxRecDepth 20000 in
theorem gX4_rowOf_X1_make : GoodIn wsX4_rowOf (wsV RX4 145 RX1 yX1_make wsX1_make) := goodIn_app (goodIn_of _ (by decide +kernel)) ggX4_rowOf_X1_make
set_option maxRecDepth 20000 in
theorem ggX4_rowOf_X2_begin : GoodIn wsX4_rowOf wsX2_begin := goodIn_r _ [64, 65, 66, 67, 68, 69, 70, 71, 119, 120, 121, 122, 123, 124, 125, 126, 127, 128, 129] (by decide +kernel) (by decide +kernel)
set_option maxRecDepth 20000 in
theorem gX4_rowOf_X2_begin : GoodIn wsX4_rowOf (wsV RX4 149 RX2 yX2_begin wsX2_begin) := goodIn_app (goodIn_of _ (by decide +kernel)) ggX4_rowOf_X2_begin
set_option maxRecDepth 20000 in
theorem ggX4_rowOf_X4_choose : GoodIn wsX4_rowOf wsX4_choose := goodIn_r _ [75, 4, 3, 76, 77, 78, 79, 80, 22, 81, 24, 31, 32, 82, 20, 21, 23, 25, 26, 27, 28, 29, 30, 33, 34, 35, 36, 37, 38, 39, 40, 41, 42, 43, 44, 45, 46, 47, 48, 49, 83, 84, 85, 86, 87, 88, 89, 90, 91, 92, 93, 94, 95, 96, 97, 98, 99, 115, 116, 117, 118, 141, 142, 143, 133, 134, 135, 136, 137, 138, 139, 140, 130, 131, 132] (by decide +kernel) (by decide +kernel)
set_option maxRecDepth 20000 in
theorem gX4_rowOf_X4_choose : GoodIn wsX4_rowOf (wsV RX4 152 RX4 yX4_choose wsX4_choose) := goodIn_app (goodIn_of _ (by decide +kernel)) ggX4_rowOf_X4_choose
set_option maxRecDepth 20000 in
theorem ggX4_rowOf_X2_put : GoodIn wsX4_rowOf wsX2_put := goodIn_r _ [103, 65, 104, 105, 106, 66, 67, 107, 108, 109, 63, 110, 69, 70, 71, 68, 57, 58, 59, 111, 112, 113, 114, 119, 120, 121, 122, 123, 124, 125, 126, 127, 128, 129] (by decide +kernel) (by decide +kernel)
set_option maxRecDepth 20000 in
theorem gX4_rowOf_X2_put : GoodIn wsX4_rowOf (wsV RX4 156 RX2 yX2_put wsX2_put) := goodIn_app (goodIn_of _ (by decide +kernel)) ggX4_rowOf_X2_put
theorem dX4_rowOf_0 : decode cX4_rowOf 0 = .ok (.aload_n 0, 1) := by decide +kernel
theorem dX4_rowOf_1 : decode cX4_rowOf 1 = .ok (.getfield 38, 3) := by decide +kernel
theorem dX4_rowOf_4 : decode cX4_rowOf 4 = .ok (.iload_n 1, 1) := by decide +kernel
theorem dX4_rowOf_5 : decode cX4_rowOf 5 = .ok (.aaload, 1) := by decide +kernel
theorem dX4_rowOf_6 : decode cX4_rowOf 6 = .ok (.astore_n 2, 1) := by decide +kernel
theorem dX4_rowOf_7 : decode cX4_rowOf 7 = .ok (.aload_n 2, 1) := by decide +kernel
theorem dX4_rowOf_8 : decode cX4_rowOf 8 = .ok (.getfield 141, 3) := by decide +kernel
theorem dX4_rowOf_11 : decode cX4_rowOf 11 = .ok (.ifCond .eq 5, 3) := by decide +kernel
theorem dX4_rowOf_14 : decode cX4_rowOf 14 = .ok (.aload_n 2, 1) := by decide +kernel
theorem dX4_rowOf_15 : decode cX4_rowOf 15 = .ok (.areturn, 1) := by decide +kernel
theorem dX4_rowOf_16 : decode cX4_rowOf 16 = .ok (.iload_n 1, 1) := by decide +kernel
theorem dX4_rowOf_17 : decode cX4_rowOf 17 = .ok (.iconst 3, 1) := by decide +kernel
theorem dX4_rowOf_18 : decode cX4_rowOf 18 = .ok (.if_icmp .ne 14, 3) := by decide +kernel
theorem dX4_rowOf_21 : decode cX4_rowOf 21 = .ok (.aload_n 0, 1) := by decide +kernel
theorem dX4_rowOf_22 : decode cX4_rowOf 22 = .ok (.getfield 32, 3) := by decide +kernel
theorem dX4_rowOf_25 : decode cX4_rowOf 25 = .ok (.aload_n 0, 1) := by decide +kernel
theorem dX4_rowOf_26 : decode cX4_rowOf 26 = .ok (.getfield 25, 3) := by decide +kernel
theorem dX4_rowOf_29 : decode cX4_rowOf 29 = .ok (.invokevirtual 145, 3) := by decide +kernel
theorem dX4_rowOf_32 : decode cX4_rowOf 32 = .ok (.aload_n 2, 1) := by decide +kernel
theorem dX4_rowOf_33 : decode cX4_rowOf 33 = .ok (.invokevirtual 149, 3) := by decide +kernel
theorem dX4_rowOf_36 : decode cX4_rowOf 36 = .ok (.iconst 0, 1) := by decide +kernel
theorem dX4_rowOf_37 : decode cX4_rowOf 37 = .ok (.istore_n 3, 1) := by decide +kernel
theorem dX4_rowOf_38 : decode cX4_rowOf 38 = .ok (.iload_n 3, 1) := by decide +kernel
theorem dX4_rowOf_39 : decode cX4_rowOf 39 = .ok (.aload_n 0, 1) := by decide +kernel
theorem dX4_rowOf_40 : decode cX4_rowOf 40 = .ok (.getfield 12, 3) := by decide +kernel
theorem dX4_rowOf_43 : decode cX4_rowOf 43 = .ok (.getfield 43, 3) := by decide +kernel
theorem dX4_rowOf_46 : decode cX4_rowOf 46 = .ok (.if_icmp .ge 76, 3) := by decide +kernel
theorem dX4_rowOf_49 : decode cX4_rowOf 49 = .ok (.aload_n 0, 1) := by decide +kernel
theorem dX4_rowOf_50 : decode cX4_rowOf 50 = .ok (.iload_n 1, 1) := by decide +kernel
theorem dX4_rowOf_51 : decode cX4_rowOf 51 = .ok (.iload_n 3, 1) := by decide +kernel
theorem dX4_rowOf_52 : decode cX4_rowOf 52 = .ok (.invokevirtual 152, 3) := by decide +kernel
theorem dX4_rowOf_55 : decode cX4_rowOf 55 = .ok (.aload_n 0, 1) := by decide +kernel
theorem dX4_rowOf_56 : decode cX4_rowOf 56 = .ok (.getfield 25, 3) := by decide +kernel
theorem dX4_rowOf_59 : decode cX4_rowOf 59 = .ok (.getfield 76, 3) := by decide +kernel
theorem dX4_rowOf_62 : decode cX4_rowOf 62 = .ok (.iconst 3, 1) := by decide +kernel
theorem dX4_rowOf_63 : decode cX4_rowOf 63 = .ok (.if_icmp .lt 7, 3) := by decide +kernel
theorem dX4_rowOf_66 : decode cX4_rowOf 66 = .ok (.iconst 1, 1) := by decide +kernel
theorem dX4_rowOf_67 : decode cX4_rowOf 67 = .ok (.goto 4, 3) := by decide +kernel
theorem dX4_rowOf_70 : decode cX4_rowOf 70 = .ok (.iconst 0, 1) := by decide +kernel
theorem dX4_rowOf_71 : decode cX4_rowOf 71 = .ok (.istore 4, 2) := by decide +kernel
theorem dX4_rowOf_73 : decode cX4_rowOf 73 = .ok (.iload 4, 2) := by decide +kernel
theorem dX4_rowOf_75 : decode cX4_rowOf 75 = .ok (.ifCond .eq 13, 3) := by decide +kernel
theorem dX4_rowOf_78 : decode cX4_rowOf 78 = .ok (.aload_n 0, 1) := by decide +kernel
theorem dX4_rowOf_79 : decode cX4_rowOf 79 = .ok (.getfield 25, 3) := by decide +kernel
theorem dX4_rowOf_82 : decode cX4_rowOf 82 = .ok (.getfield 76, 3) := by decide +kernel
theorem dX4_rowOf_85 : decode cX4_rowOf 85 = .ok (.goto 4, 3) := by decide +kernel
theorem dX4_rowOf_88 : decode cX4_rowOf 88 = .ok (.iconst 1, 1) := by decide +kernel
theorem dX4_rowOf_89 : decode cX4_rowOf 89 = .ok (.istore 5, 2) := by decide +kernel
theorem dX4_rowOf_91 : decode cX4_rowOf 91 = .ok (.aload_n 2, 1) := by decide +kernel
theorem dX4_rowOf_92 : decode cX4_rowOf 92 = .ok (.iload_n 3, 1) := by decide +kernel
theorem dX4_rowOf_93 : decode cX4_rowOf 93 = .ok (.iload 5, 2) := by decide +kernel
theorem dX4_rowOf_95 : decode cX4_rowOf 95 = .ok (.iload 4, 2) := by decide +kernel
theorem dX4_rowOf_97 : decode cX4_rowOf 97 = .ok (.ifCond .eq 13, 3) := by decide +kernel
theorem dX4_rowOf_100 : decode cX4_rowOf 100 = .ok (.aload_n 0, 1) := by decide +kernel
