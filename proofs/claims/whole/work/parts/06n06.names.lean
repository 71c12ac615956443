theorem dX4_livingOf_21 : decode cX4_livingOf 21 = .ok (.iload_n 1, 1) := by decide +kernel
theorem dX4_livingOf_22 : decode cX4_livingOf 22 = .ok (.imul, 1) := by decide +kernel
theorem dX4_livingOf_23 : decode cX4_livingOf 23 = .ok (.iload_n 3, 1) := by decide +kernel
theorem dX4_livingOf_24 : decode cX4_livingOf 24 = .ok (.iadd, 1) := by decide +kernel
theorem dX4_livingOf_25 : decode cX4_livingOf 25 = .ok (.baload, 1) := by decide +kernel
theorem dX4_livingOf_26 : decode cX4_livingOf 26 = .ok (.ifCond .eq 7, 3) := by decide +kernel
theorem dX4_livingOf_29 : decode cX4_livingOf 29 = .ok (.iconst 1, 1) := by decide +kernel
theorem dX4_livingOf_30 : decode cX4_livingOf 30 = .ok (.goto 4, 3) := by decide +kernel
theorem dX4_livingOf_33 : decode cX4_livingOf 33 = .ok (.iconst 0, 1) := by decide +kernel
theorem dX4_livingOf_34 : decode cX4_livingOf 34 = .ok (.iadd, 1) := by decide +kernel
theorem dX4_livingOf_35 : decode cX4_livingOf 35 = .ok (.istore_n 2, 1) := by decide +kernel
theorem dX4_livingOf_36 : decode cX4_livingOf 36 = .ok (.iinc 3 1, 3) := by decide +kernel
theorem dX4_livingOf_39 : decode cX4_livingOf 39 = .ok (.goto (-35), 3) := by decide +kernel
theorem dX4_livingOf_42 : decode cX4_livingOf 42 = .ok (.iload_n 2, 1) := by decide +kernel
theorem dX4_livingOf_43 : decode cX4_livingOf 43 = .ok (.ireturn, 1) := by decide +kernel
set_option maxRecDepth 20000 in
theorem ggX4_all_X4_livingOf : GoodIn wsX4_all wsX4_livingOf := goodIn_r _ [8, 3, 9, 10, 11, 12, 13, 14, 15, 16, 17, 18, 19, 20, 21, 22, 23, 24, 25, 26, 27, 28, 29, 30, 31, 32, 33, 34, 35, 36, 37, 38, 39, 40, 41, 42, 43] (by decide +kernel) (by decide +kernel)
set_option maxRecDepth 20000 in
theorem gX4_all_X4_livingOf : GoodIn wsX4_all (wsV RX4 119 RX4 yX4_livingOf wsX4_livingOf) := goodIn_app (goodIn_of _ (by decide +kernel)) ggX4_all_X4_livingOf
theorem dX4_all_0 : decode cX4_all 0 = .ok (.iconst 0, 1) := by decide +kernel
theorem dX4_all_1 : decode cX4_all 1 = .ok (.istore_n 2, 1) := by decide +kernel
theorem dX4_all_2 : decode cX4_all 2 = .ok (.iconst 0, 1) := by decide +kernel
theorem dX4_all_3 : decode cX4_all 3 = .ok (.istore_n 3, 1) := by decide +kernel
theorem dX4_all_4 : decode cX4_all 4 = .ok (.iload_n 3, 1) := by decide +kernel
theorem dX4_all_5 : decode cX4_all 5 = .ok (.aload_n 0, 1) := by decide +kernel
theorem dX4_all_6 : decode cX4_all 6 = .ok (.getfield 102, 3) := by decide +kernel
theorem dX4_all_9 : decode cX4_all 9 = .ok (.if_icmp .ge 40, 3) := by decide +kernel
theorem dX4_all_12 : decode cX4_all 12 = .ok (.iload_n 2, 1) := by decide +kernel
theorem dX4_all_13 : decode cX4_all 13 = .ok (.iload_n 1, 1) := by decide +kernel
theorem dX4_all_14 : decode cX4_all 14 = .ok (.ifCond .eq 16, 3) := by decide +kernel
theorem dX4_all_17 : decode cX4_all 17 = .ok (.aload_n 0, 1) := by decide +kernel
theorem dX4_all_18 : decode cX4_all 18 = .ok (.aload_n 0, 1) := by decide +kernel
theorem dX4_all_19 : decode cX4_all 19 = .ok (.getfield 25, 3) := by decide +kernel
theorem dX4_all_22 : decode cX4_all 22 = .ok (.iload_n 3, 1) := by decide +kernel
theorem dX4_all_23 : decode cX4_all 23 = .ok (.iaload, 1) := by decide +kernel
theorem dX4_all_24 : decode cX4_all 24 = .ok (.invokevirtual 119, 3) := by decide +kernel
theorem dX4_all_27 : decode cX4_all 27 = .ok (.goto 14, 3) := by decide +kernel
theorem dX4_all_30 : decode cX4_all 30 = .ok (.aload_n 0, 1) := by decide +kernel
theorem dX4_all_31 : decode cX4_all 31 = .ok (.getfield 38, 3) := by decide +kernel
theorem dX4_all_34 : decode cX4_all 34 = .ok (.aload_n 0, 1) := by decide +kernel
theorem dX4_all_35 : decode cX4_all 35 = .ok (.getfield 25, 3) := by decide +kernel
theorem dX4_all_38 : decode cX4_all 38 = .ok (.iload_n 3, 1) := by decide +kernel
theorem dX4_all_39 : decode cX4_all 39 = .ok (.iaload, 1) := by decide +kernel
theorem dX4_all_40 : decode cX4_all 40 = .ok (.iaload, 1) := by decide +kernel
theorem dX4_all_41 : decode cX4_all 41 = .ok (.iadd, 1) := by decide +kernel
theorem dX4_all_42 : decode cX4_all 42 = .ok (.istore_n 2, 1) := by decide +kernel
theorem dX4_all_43 : decode cX4_all 43 = .ok (.iinc 3 1, 3) := by decide +kernel
theorem dX4_all_46 : decode cX4_all 46 = .ok (.goto (-42), 3) := by decide +kernel
theorem dX4_all_49 : decode cX4_all 49 = .ok (.iload_n 2, 1) := by decide +kernel
theorem dX4_all_50 : decode cX4_all 50 = .ok (.ireturn, 1) := by decide +kernel
set_option maxRecDepth 20000 in
theorem ggX4_count_X4_all : GoodIn wsX4_count wsX4_all := goodIn_r _ [10, 4, 11, 12, 13, 14, 15, 9, 16, 17, 18, 19, 20, 21, 22, 23, 24, 25, 26, 27, 28, 29, 30, 31, 32, 33, 34, 35, 36, 37, 38, 39, 40, 41, 42, 43, 44, 45, 46, 47, 48, 49, 50, 51] (by decide +kernel) (by decide +kernel)
set_option maxRecDepth 20000 in
theorem gX4_count_X4_all : GoodIn wsX4_count (wsV RX4 122 RX4 yX4_all wsX4_all) := goodIn_app (goodIn_of _ (by decide +kernel)) ggX4_count_X4_all
theorem dX4_count_0 : decode cX4_count 0 = .ok (.aload_n 0, 1) := by decide +kernel
theorem dX4_count_1 : decode cX4_count 1 = .ok (.iconst 0, 1) := by decide +kernel
theorem dX4_count_2 : decode cX4_count 2 = .ok (.putfield 84, 3) := by decide +kernel
theorem dX4_count_5 : decode cX4_count 5 = .ok (.iconst 0, 1) := by decide +kernel
theorem dX4_count_6 : decode cX4_count 6 = .ok (.istore_n 2, 1) := by decide +kernel
theorem dX4_count_7 : decode cX4_count 7 = .ok (.iconst 0, 1) := by decide +kernel
theorem dX4_count_8 : decode cX4_count 8 = .ok (.istore_n 3, 1) := by decide +kernel
theorem dX4_count_9 : decode cX4_count 9 = .ok (.iload_n 3, 1) := by decide +kernel
theorem dX4_count_10 : decode cX4_count 10 = .ok (.bipush 100, 2) := by decide +kernel
theorem dX4_count_12 : decode cX4_count 12 = .ok (.if_icmp .ge 26, 3) := by decide +kernel
theorem dX4_count_15 : decode cX4_count 15 = .ok (.iload_n 2, 1) := by decide +kernel
theorem dX4_count_16 : decode cX4_count 16 = .ok (.aload_n 0, 1) := by decide +kernel
theorem dX4_count_17 : decode cX4_count 17 = .ok (.getfield 7, 3) := by decide +kernel
theorem dX4_count_20 : decode cX4_count 20 = .ok (.iload_n 3, 1) := by decide +kernel
theorem dX4_count_21 : decode cX4_count 21 = .ok (.iaload, 1) := by decide +kernel
theorem dX4_count_22 : decode cX4_count 22 = .ok (.ifCond .lt 7, 3) := by decide +kernel
theorem dX4_count_25 : decode cX4_count 25 = .ok (.iconst 1, 1) := by decide +kernel
theorem dX4_count_26 : decode cX4_count 26 = .ok (.goto 4, 3) := by decide +kernel
theorem dX4_count_29 : decode cX4_count 29 = .ok (.iconst 0, 1) := by decide +kernel
theorem dX4_count_30 : decode cX4_count 30 = .ok (.iadd, 1) := by decide +kernel
theorem dX4_count_31 : decode cX4_count 31 = .ok (.istore_n 2, 1) := by decide +kernel
theorem dX4_count_32 : decode cX4_count 32 = .ok (.iinc 3 1, 3) := by decide +kernel
theorem dX4_count_35 : decode cX4_count 35 = .ok (.goto (-26), 3) := by decide +kernel
theorem dX4_count_38 : decode cX4_count 38 = .ok (.iload_n 1, 1) := by decide +kernel
theorem dX4_count_39 : decode cX4_count 39 = .ok (.ifCond .ne 10, 3) := by decide +kernel
theorem dX4_count_42 : decode cX4_count 42 = .ok (.aload_n 0, 1) := by decide +kernel
theorem dX4_count_43 : decode cX4_count 43 = .ok (.getfield 87, 3) := by decide +kernel
theorem dX4_count_46 : decode cX4_count 46 = .ok (.goto 64, 3) := by decide +kernel
theorem dX4_count_49 : decode cX4_count 49 = .ok (.iload_n 1, 1) := by decide +kernel
theorem dX4_count_50 : decode cX4_count 50 = .ok (.iconst 1, 1) := by decide +kernel
theorem dX4_count_51 : decode cX4_count 51 = .ok (.if_icmp .ne 10, 3) := by decide +kernel
theorem dX4_count_54 : decode cX4_count 54 = .ok (.aload_n 0, 1) := by decide +kernel
theorem dX4_count_55 : decode cX4_count 55 = .ok (.getfield 102, 3) := by decide +kernel
theorem dX4_count_58 : decode cX4_count 58 = .ok (.goto 52, 3) := by decide +kernel
theorem dX4_count_61 : decode cX4_count 61 = .ok (.iload_n 1, 1) := by decide +kernel
theorem dX4_count_62 : decode cX4_count 62 = .ok (.iconst 2, 1) := by decide +kernel
theorem dX4_count_63 : decode cX4_count 63 = .ok (.if_icmp .ne 11, 3) := by decide +kernel
theorem dX4_count_66 : decode cX4_count 66 = .ok (.aload_n 0, 1) := by decide +kernel
theorem dX4_count_67 : decode cX4_count 67 = .ok (.iconst 0, 1) := by decide +kernel
theorem dX4_count_68 : decode cX4_count 68 = .ok (.invokevirtual 122, 3) := by decide +kernel
theorem dX4_count_71 : decode cX4_count 71 = .ok (.goto 39, 3) := by decide +kernel
theorem dX4_count_74 : decode cX4_count 74 = .ok (.iload_n 1, 1) := by decide +kernel
theorem dX4_count_75 : decode cX4_count 75 = .ok (.iconst 3, 1) := by decide +kernel
theorem dX4_count_76 : decode cX4_count 76 = .ok (.if_icmp .ne 11, 3) := by decide +kernel
theorem dX4_count_79 : decode cX4_count 79 = .ok (.aload_n 0, 1) := by decide +kernel
theorem dX4_count_80 : decode cX4_count 80 = .ok (.iconst 1, 1) := by decide +kernel
theorem dX4_count_81 : decode cX4_count 81 = .ok (.invokevirtual 122, 3) := by decide +kernel
theorem dX4_count_84 : decode cX4_count 84 = .ok (.goto 26, 3) := by decide +kernel
theorem dX4_count_87 : decode cX4_count 87 = .ok (.iload_n 1, 1) := by decide +kernel
theorem dX4_count_88 : decode cX4_count 88 = .ok (.iconst 4, 1) := by decide +kernel
theorem dX4_count_89 : decode cX4_count 89 = .ok (.if_icmp .ne 10, 3) := by decide +kernel
theorem dX4_count_92 : decode cX4_count 92 = .ok (.aload_n 0, 1) := by decide +kernel
theorem dX4_count_93 : decode cX4_count 93 = .ok (.getfield 116, 3) := by decide +kernel
theorem dX4_count_96 : decode cX4_count 96 = .ok (.goto 14, 3) := by decide +kernel
theorem dX4_count_99 : decode cX4_count 99 = .ok (.iload_n 1, 1) := by decide +kernel
theorem dX4_count_100 : decode cX4_count 100 = .ok (.iconst 5, 1) := by decide +kernel
theorem dX4_count_101 : decode cX4_count 101 = .ok (.if_icmp .ne 7, 3) := by decide +kernel
theorem dX4_count_104 : decode cX4_count 104 = .ok (.iload_n 2, 1) := by decide +kernel
theorem dX4_count_105 : decode cX4_count 105 = .ok (.goto 5, 3) := by decide +kernel
theorem dX4_count_108 : decode cX4_count 108 = .ok (.bipush (-2), 2) := by decide +kernel
theorem dX4_count_110 : decode cX4_count 110 = .ok (.ireturn, 1) := by decide +kernel
set_option maxRecDepth 20000 in
theorem ggX4_isPlace_X4_in : GoodIn wsX4_isPlace wsX4_in := goodIn_r _ [5] (by decide +kernel) (by decide +kernel)
set_option maxRecDepth 20000 in
theorem gX4_isPlace_X4_in : GoodIn wsX4_isPlace (va_wsS RX4 90 yX4_in wsX4_in) := goodIn_app (goodIn_of _ (by decide +kernel)) ggX4_isPlace_X4_in
theorem dX4_isPlace_0 : decode cX4_isPlace 0 = .ok (.iload_n 1, 1) := by decide +kernel
theorem dX4_isPlace_1 : decode cX4_isPlace 1 = .ok (.iconst 0, 1) := by decide +kernel
theorem dX4_isPlace_2 : decode cX4_isPlace 2 = .ok (.aload_n 0, 1) := by decide +kernel
theorem dX4_isPlace_3 : decode cX4_isPlace 3 = .ok (.getfield 102, 3) := by decide +kernel
theorem dX4_isPlace_6 : decode cX4_isPlace 6 = .ok (.iconst 1, 1) := by decide +kernel
theorem dX4_isPlace_7 : decode cX4_isPlace 7 = .ok (.isub, 1) := by decide +kernel
theorem dX4_isPlace_8 : decode cX4_isPlace 8 = .ok (.invokestatic 90, 3) := by decide +kernel
theorem dX4_isPlace_11 : decode cX4_isPlace 11 = .ok (.ireturn, 1) := by decide +kernel
set_option maxRecDepth 20000 in
theorem ggX4_segment_X4_isPlace : GoodIn wsX4_segment wsX4_isPlace := goodIn_r _ [12, 13, 14, 15, 11, 16, 22, 23, 24, 25, 26, 27, 28, 29, 30, 31, 32, 33, 34, 35, 36, 37, 38, 39, 40, 41, 42, 43, 44, 45, 46, 47, 48, 49, 50, 51, 52, 53, 54, 55] (by decide +kernel) (by decide +kernel)
set_option maxRecDepth 20000 in
theorem gX4_segment_X4_isPlace : GoodIn wsX4_segment (wsV RX4 126 RX4 yX4_isPlace wsX4_isPlace) := goodIn_app (goodIn_of _ (by decide +kernel)) ggX4_segment_X4_isPlace
set_option maxRecDepth 20000 in
theorem ggX4_segment_X4_livingOf : GoodIn wsX4_segment wsX4_livingOf := goodIn_r _ [20, 5, 21, 22, 23, 24, 25, 26, 27, 28, 29, 30, 31, 32, 33, 34, 35, 36, 37, 38, 39, 40, 41, 42, 43, 44, 45, 46, 47, 48, 49, 50, 51, 52, 53, 54, 55] (by decide +kernel) (by decide +kernel)
set_option maxRecDepth 20000 in
theorem gX4_segment_X4_livingOf : GoodIn wsX4_segment (wsV RX4 119 RX4 yX4_livingOf wsX4_livingOf) := goodIn_app (goodIn_of _ (by decide +kernel)) ggX4_segment_X4_livingOf
set_option maxRecDepth 20000 in
theorem ggX4_segment_X4_in : GoodIn wsX4_segment wsX4_in := goodIn_r _ [16] (by decide +kernel) (by decide +kernel)
set_option maxRecDepth 20000 in
theorem gX4_segment_X4_in : GoodIn wsX4_segment (va_wsS RX4 90 yX4_in wsX4_in) := goodIn_app (goodIn_of _ (by decide +kernel)) ggX4_segment_X4_in
theorem dX4_segment_0 : decode cX4_segment 0 = .ok (.aload_n 0, 1) := by decide +kernel
theorem dX4_segment_1 : decode cX4_segment 1 = .ok (.iconst 0, 1) := by decide +kernel
theorem dX4_segment_2 : decode cX4_segment 2 = .ok (.putfield 84, 3) := by decide +kernel
theorem dX4_segment_5 : decode cX4_segment 5 = .ok (.aload_n 0, 1) := by decide +kernel
theorem dX4_segment_6 : decode cX4_segment 6 = .ok (.iload_n 1, 1) := by decide +kernel
theorem dX4_segment_7 : decode cX4_segment 7 = .ok (.invokevirtual 126, 3) := by decide +kernel
theorem dX4_segment_10 : decode cX4_segment 10 = .ok (.ifCond .ne 5, 3) := by decide +kernel
theorem dX4_segment_13 : decode cX4_segment 13 = .ok (.iconst (-1), 1) := by decide +kernel
theorem dX4_segment_14 : decode cX4_segment 14 = .ok (.ireturn, 1) := by decide +kernel
theorem dX4_segment_15 : decode cX4_segment 15 = .ok (.aload_n 0, 1) := by decide +kernel
theorem dX4_segment_16 : decode cX4_segment 16 = .ok (.getfield 25, 3) := by decide +kernel
theorem dX4_segment_19 : decode cX4_segment 19 = .ok (.iload_n 1, 1) := by decide +kernel
theorem dX4_segment_20 : decode cX4_segment 20 = .ok (.iaload, 1) := by decide +kernel
theorem dX4_segment_21 : decode cX4_segment 21 = .ok (.istore_n 3, 1) := by decide +kernel
theorem dX4_segment_22 : decode cX4_segment 22 = .ok (.iload_n 2, 1) := by decide +kernel
theorem dX4_segment_23 : decode cX4_segment 23 = .ok (.tableswitch 95 0 4 #[33, 40, 47, 54, 60], 33) := by decide +kernel
theorem dX4_segment_56 : decode cX4_segment 56 = .ok (.aload_n 0, 1) := by decide +kernel
theorem dX4_segment_57 : decode cX4_segment 57 = .ok (.getfield 32, 3) := by decide +kernel
theorem dX4_segment_60 : decode cX4_segment 60 = .ok (.iload_n 3, 1) := by decide +kernel
theorem dX4_segment_61 : decode cX4_segment 61 = .ok (.iaload, 1) := by decide +kernel
theorem dX4_segment_62 : decode cX4_segment 62 = .ok (.ireturn, 1) := by decide +kernel
theorem dX4_segment_63 : decode cX4_segment 63 = .ok (.aload_n 0, 1) := by decide +kernel
theorem dX4_segment_64 : decode cX4_segment 64 = .ok (.getfield 35, 3) := by decide +kernel
theorem dX4_segment_67 : decode cX4_segment 67 = .ok (.iload_n 3, 1) := by decide +kernel
theorem dX4_segment_68 : decode cX4_segment 68 = .ok (.iaload, 1) := by decide +kernel
theorem dX4_segment_69 : decode cX4_segment 69 = .ok (.ireturn, 1) := by decide +kernel
theorem dX4_segment_70 : decode cX4_segment 70 = .ok (.aload_n 0, 1) := by decide +kernel
theorem dX4_segment_71 : decode cX4_segment 71 = .ok (.getfield 38, 3) := by decide +kernel
theorem dX4_segment_74 : decode cX4_segment 74 = .ok (.iload_n 3, 1) := by decide +kernel
theorem dX4_segment_75 : decode cX4_segment 75 = .ok (.iaload, 1) := by decide +kernel
theorem dX4_segment_76 : decode cX4_segment 76 = .ok (.ireturn, 1) := by decide +kernel
theorem dX4_segment_77 : decode cX4_segment 77 = .ok (.aload_n 0, 1) := by decide +kernel
theorem dX4_segment_78 : decode cX4_segment 78 = .ok (.iload_n 3, 1) := by decide +kernel
theorem dX4_segment_79 : decode cX4_segment 79 = .ok (.invokevirtual 119, 3) := by decide +kernel
theorem dX4_segment_82 : decode cX4_segment 82 = .ok (.ireturn, 1) := by decide +kernel
theorem dX4_segment_83 : decode cX4_segment 83 = .ok (.aload_n 0, 1) := by decide +kernel
theorem dX4_segment_84 : decode cX4_segment 84 = .ok (.getfield 130, 3) := by decide +kernel
theorem dX4_segment_87 : decode cX4_segment 87 = .ok (.ifCond .le 29, 3) := by decide +kernel
theorem dX4_segment_90 : decode cX4_segment 90 = .ok (.iload_n 1, 1) := by decide +kernel
theorem dX4_segment_91 : decode cX4_segment 91 = .ok (.aload_n 0, 1) := by decide +kernel
theorem dX4_segment_92 : decode cX4_segment 92 = .ok (.getfield 133, 3) := by decide +kernel
theorem dX4_segment_95 : decode cX4_segment 95 = .ok (.aload_n 0, 1) := by decide +kernel
theorem dX4_segment_96 : decode cX4_segment 96 = .ok (.getfield 133, 3) := by decide +kernel
theorem dX4_segment_99 : decode cX4_segment 99 = .ok (.aload_n 0, 1) := by decide +kernel
theorem dX4_segment_100 : decode cX4_segment 100 = .ok (.getfield 130, 3) := by decide +kernel
theorem dX4_segment_103 : decode cX4_segment 103 = .ok (.iadd, 1) := by decide +kernel
theorem dX4_segment_104 : decode cX4_segment 104 = .ok (.iconst 1, 1) := by decide +kernel
theorem dX4_segment_105 : decode cX4_segment 105 = .ok (.isub, 1) := by decide +kernel
theorem dX4_segment_106 : decode cX4_segment 106 = .ok (.invokestatic 90, 3) := by decide +kernel
theorem dX4_segment_109 : decode cX4_segment 109 = .ok (.ifCond .eq 7, 3) := by decide +kernel
theorem dX4_segment_112 : decode cX4_segment 112 = .ok (.iconst 1, 1) := by decide +kernel
theorem dX4_segment_113 : decode cX4_segment 113 = .ok (.goto 4, 3) := by decide +kernel
theorem dX4_segment_116 : decode cX4_segment 116 = .ok (.iconst 0, 1) := by decide +kernel
theorem dX4_segment_117 : decode cX4_segment 117 = .ok (.ireturn, 1) := by decide +kernel
theorem dX4_segment_118 : decode cX4_segment 118 = .ok (.bipush (-2), 2) := by decide +kernel
theorem dX4_segment_120 : decode cX4_segment 120 = .ok (.ireturn, 1) := by decide +kernel
set_option maxRecDepth 20000 in
theorem ggX4_row_X4_isPlace : GoodIn wsX4_row wsX4_isPlace := goodIn_r _ [11, 12, 13, 14, 10, 15, 16, 17, 18, 19, 20, 21, 22, 23, 24, 25, 26, 27, 28, 29, 30, 31, 32, 33, 34, 35, 36, 37, 38, 39, 40, 41, 42, 43, 44, 45, 46, 47, 48, 49] (by decide +kernel) (by decide +kernel)
set_option maxRecDepth 20000 in
theorem gX4_row_X4_isPlace : GoodIn wsX4_row (wsV RX4 126 RX4 yX4_isPlace wsX4_isPlace) := goodIn_app (goodIn_of _ (by decide +kernel)) ggX4_row_X4_isPlace
set_option maxRecDepth 20000 in
theorem ggX4_row_X4_in : GoodIn wsX4_row wsX4_in := goodIn_r _ [15] (by decide +kernel) (by decide +kernel)
set_option maxRecDepth 20000 in
theorem gX4_row_X4_in : GoodIn wsX4_row (va_wsS RX4 90 yX4_in wsX4_in) := goodIn_app (goodIn_of _ (by decide +kernel)) ggX4_row_X4_in
theorem dX4_row_0 : decode cX4_row 0 = .ok (.aload_n 0, 1) := by decide +kernel
theorem dX4_row_1 : decode cX4_row 1 = .ok (.iconst 0, 1) := by decide +kernel
theorem dX4_row_2 : decode cX4_row 2 = .ok (.putfield 84, 3) := by decide +kernel
theorem dX4_row_5 : decode cX4_row 5 = .ok (.aload_n 0, 1) := by decide +kernel
theorem dX4_row_6 : decode cX4_row 6 = .ok (.iload_n 1, 1) := by decide +kernel
theorem dX4_row_7 : decode cX4_row 7 = .ok (.invokevirtual 126, 3) := by decide +kernel
theorem dX4_row_10 : decode cX4_row 10 = .ok (.ifCond .eq 24, 3) := by decide +kernel
theorem dX4_row_13 : decode cX4_row 13 = .ok (.iload_n 2, 1) := by decide +kernel
theorem dX4_row_14 : decode cX4_row 14 = .ok (.iconst 0, 1) := by decide +kernel
theorem dX4_row_15 : decode cX4_row 15 = .ok (.aload_n 0, 1) := by decide +kernel
theorem dX4_row_16 : decode cX4_row 16 = .ok (.getfield 38, 3) := by decide +kernel
theorem dX4_row_19 : decode cX4_row 19 = .ok (.aload_n 0, 1) := by decide +kernel
theorem dX4_row_20 : decode cX4_row 20 = .ok (.getfield 25, 3) := by decide +kernel
theorem dX4_row_23 : decode cX4_row 23 = .ok (.iload_n 1, 1) := by decide +kernel
theorem dX4_row_24 : decode cX4_row 24 = .ok (.iaload, 1) := by decide +kernel
theorem dX4_row_25 : decode cX4_row 25 = .ok (.iaload, 1) := by decide +kernel
theorem dX4_row_26 : decode cX4_row 26 = .ok (.iconst 1, 1) := by decide +kernel
theorem dX4_row_27 : decode cX4_row 27 = .ok (.isub, 1) := by decide +kernel
theorem dX4_row_28 : decode cX4_row 28 = .ok (.invokestatic 90, 3) := by decide +kernel
theorem dX4_row_31 : decode cX4_row 31 = .ok (.ifCond .ne 5, 3) := by decide +kernel
theorem dX4_row_34 : decode cX4_row 34 = .ok (.iconst (-1), 1) := by decide +kernel
theorem dX4_row_35 : decode cX4_row 35 = .ok (.ireturn, 1) := by decide +kernel
theorem dX4_row_36 : decode cX4_row 36 = .ok (.bipush 100, 2) := by decide +kernel
theorem dX4_row_38 : decode cX4_row 38 = .ok (.aload_n 0, 1) := by decide +kernel
theorem dX4_row_39 : decode cX4_row 39 = .ok (.getfield 25, 3) := by decide +kernel
theorem dX4_row_42 : decode cX4_row 42 = .ok (.iload_n 1, 1) := by decide +kernel
theorem dX4_row_43 : decode cX4_row 43 = .ok (.iaload, 1) := by decide +kernel
theorem dX4_row_44 : decode cX4_row 44 = .ok (.imul, 1) := by decide +kernel
theorem dX4_row_45 : decode cX4_row 45 = .ok (.iload_n 2, 1) := by decide +kernel
theorem dX4_row_46 : decode cX4_row 46 = .ok (.iadd, 1) := by decide +kernel
theorem dX4_row_47 : decode cX4_row 47 = .ok (.istore 4, 2) := by decide +kernel
theorem dX4_row_49 : decode cX4_row 49 = .ok (.iload_n 3, 1) := by decide +kernel
theorem dX4_row_50 : decode cX4_row 50 = .ok (.ifCond .ne 13, 3) := by decide +kernel
theorem dX4_row_53 : decode cX4_row 53 = .ok (.aload_n 0, 1) := by decide +kernel
theorem dX4_row_54 : decode cX4_row 54 = .ok (.getfield 41, 3) := by decide +kernel
theorem dX4_row_57 : decode cX4_row 57 = .ok (.iload 4, 2) := by decide +kernel
theorem dX4_row_59 : decode cX4_row 59 = .ok (.iaload, 1) := by decide +kernel
theorem dX4_row_60 : decode cX4_row 60 = .ok (.goto 43, 3) := by decide +kernel
theorem dX4_row_63 : decode cX4_row 63 = .ok (.iload_n 3, 1) := by decide +kernel
theorem dX4_row_64 : decode cX4_row 64 = .ok (.iconst 1, 1) := by decide +kernel
theorem dX4_row_65 : decode cX4_row 65 = .ok (.if_icmp .ne 13, 3) := by decide +kernel
theorem dX4_row_68 : decode cX4_row 68 = .ok (.aload_n 0, 1) := by decide +kernel
theorem dX4_row_69 : decode cX4_row 69 = .ok (.getfield 44, 3) := by decide +kernel
theorem dX4_row_72 : decode cX4_row 72 = .ok (.iload 4, 2) := by decide +kernel
theorem dX4_row_74 : decode cX4_row 74 = .ok (.iaload, 1) := by decide +kernel
theorem dX4_row_75 : decode cX4_row 75 = .ok (.goto 28, 3) := by decide +kernel
theorem dX4_row_78 : decode cX4_row 78 = .ok (.iload_n 3, 1) := by decide +kernel
theorem dX4_row_79 : decode cX4_row 79 = .ok (.iconst 2, 1) := by decide +kernel
theorem dX4_row_80 : decode cX4_row 80 = .ok (.if_icmp .ne 21, 3) := by decide +kernel
theorem dX4_row_83 : decode cX4_row 83 = .ok (.aload_n 0, 1) := by decide +kernel
theorem dX4_row_84 : decode cX4_row 84 = .ok (.getfield 47, 3) := by decide +kernel
theorem dX4_row_87 : decode cX4_row 87 = .ok (.iload 4, 2) := by decide +kernel
theorem dX4_row_89 : decode cX4_row 89 = .ok (.baload, 1) := by decide +kernel
theorem dX4_row_90 : decode cX4_row 90 = .ok (.ifCond .eq 7, 3) := by decide +kernel
theorem dX4_row_93 : decode cX4_row 93 = .ok (.iconst 1, 1) := by decide +kernel
theorem dX4_row_94 : decode cX4_row 94 = .ok (.goto 9, 3) := by decide +kernel
theorem dX4_row_97 : decode cX4_row 97 = .ok (.iconst 0, 1) := by decide +kernel
theorem dX4_row_98 : decode cX4_row 98 = .ok (.goto 5, 3) := by decide +kernel
theorem dX4_row_101 : decode cX4_row 101 = .ok (.bipush (-2), 2) := by decide +kernel
theorem dX4_row_103 : decode cX4_row 103 = .ok (.ireturn, 1) := by decide +kernel
set_option maxRecDepth 20000 in
theorem ggX4_full_X4_in : GoodIn wsX4_full wsX4_in := goodIn_r _ [6] (by decide +kernel) (by decide +kernel)
set_option maxRecDepth 20000 in
theorem gX4_full_X4_in : GoodIn wsX4_full (va_wsS RX4 90 yX4_in wsX4_in) := goodIn_app (goodIn_of _ (by decide +kernel)) ggX4_full_X4_in
theorem dX4_full_0 : decode cX4_full 0 = .ok (.aload_n 0, 1) := by decide +kernel
theorem dX4_full_1 : decode cX4_full 1 = .ok (.iconst 0, 1) := by decide +kernel
theorem dX4_full_2 : decode cX4_full 2 = .ok (.putfield 84, 3) := by decide +kernel
theorem dX4_full_5 : decode cX4_full 5 = .ok (.iload_n 1, 1) := by decide +kernel
theorem dX4_full_6 : decode cX4_full 6 = .ok (.iconst 2, 1) := by decide +kernel
theorem dX4_full_7 : decode cX4_full 7 = .ok (.iconst 5, 1) := by decide +kernel
theorem dX4_full_8 : decode cX4_full 8 = .ok (.invokestatic 90, 3) := by decide +kernel
theorem dX4_full_11 : decode cX4_full 11 = .ok (.ifCond .ne 6, 3) := by decide +kernel
theorem dX4_full_14 : decode cX4_full 14 = .ok (.bipush (-2), 2) := by decide +kernel
theorem dX4_full_16 : decode cX4_full 16 = .ok (.ireturn, 1) := by decide +kernel
theorem dX4_full_17 : decode cX4_full 17 = .ok (.aload_n 0, 1) := by decide +kernel
theorem dX4_full_18 : decode cX4_full 18 = .ok (.getfield 50, 3) := by decide +kernel
theorem dX4_full_21 : decode cX4_full 21 = .ok (.istore_n 2, 1) := by decide +kernel
theorem dX4_full_22 : decode cX4_full 22 = .ok (.aload_n 0, 1) := by decide +kernel
theorem dX4_full_23 : decode cX4_full 23 = .ok (.iload_n 1, 1) := by decide +kernel
theorem dX4_full_24 : decode cX4_full 24 = .ok (.putfield 50, 3) := by decide +kernel
theorem dX4_full_27 : decode cX4_full 27 = .ok (.iload_n 2, 1) := by decide +kernel
theorem dX4_full_28 : decode cX4_full 28 = .ok (.ireturn, 1) := by decide +kernel
theorem dX4_due_0 : decode cX4_due 0 = .ok (.aload_n 0, 1) := by decide +kernel
theorem dX4_due_1 : decode cX4_due 1 = .ok (.iconst 0, 1) := by decide +kernel
theorem dX4_due_2 : decode cX4_due 2 = .ok (.putfield 84, 3) := by decide +kernel
theorem dX4_due_5 : decode cX4_due 5 = .ok (.bipush (-3), 2) := by decide +kernel
theorem dX4_due_7 : decode cX4_due 7 = .ok (.istore_n 1, 1) := by decide +kernel
theorem dX4_due_8 : decode cX4_due 8 = .ok (.iconst 0, 1) := by decide +kernel
theorem dX4_due_9 : decode cX4_due 9 = .ok (.istore_n 2, 1) := by decide +kernel
theorem dX4_due_10 : decode cX4_due 10 = .ok (.iload_n 2, 1) := by decide +kernel
theorem dX4_due_11 : decode cX4_due 11 = .ok (.aload_n 0, 1) := by decide +kernel
theorem dX4_due_12 : decode cX4_due 12 = .ok (.getfield 50, 3) := by decide +kernel
theorem dX4_due_15 : decode cX4_due 15 = .ok (.iadd, 1) := by decide +kernel
theorem dX4_due_16 : decode cX4_due 16 = .ok (.aload_n 0, 1) := by decide +kernel
theorem dX4_due_17 : decode cX4_due 17 = .ok (.getfield 102, 3) := by decide +kernel
theorem dX4_due_20 : decode cX4_due 20 = .ok (.if_icmp .gt 106, 3) := by decide +kernel
theorem dX4_due_23 : decode cX4_due 23 = .ok (.iconst 1, 1) := by decide +kernel
theorem dX4_due_24 : decode cX4_due 24 = .ok (.istore_n 3, 1) := by decide +kernel
theorem dX4_due_25 : decode cX4_due 25 = .ok (.iconst 1, 1) := by decide +kernel
theorem dX4_due_26 : decode cX4_due 26 = .ok (.istore 4, 2) := by decide +kernel
theorem dX4_due_28 : decode cX4_due 28 = .ok (.iload 4, 2) := by decide +kernel
theorem dX4_due_30 : decode cX4_due 30 = .ok (.aload_n 0, 1) := by decide +kernel
theorem dX4_due_31 : decode cX4_due 31 = .ok (.getfield 50, 3) := by decide +kernel
theorem dX4_due_34 : decode cX4_due 34 = .ok (.if_icmp .ge 47, 3) := by decide +kernel
theorem dX4_due_37 : decode cX4_due 37 = .ok (.iload_n 3, 1) := by decide +kernel
theorem dX4_due_38 : decode cX4_due 38 = .ok (.ifCond .eq 35, 3) := by decide +kernel
theorem dX4_due_41 : decode cX4_due 41 = .ok (.aload_n 0, 1) := by decide +kernel
theorem dX4_due_42 : decode cX4_due 42 = .ok (.getfield 35, 3) := by decide +kernel
theorem dX4_due_45 : decode cX4_due 45 = .ok (.aload_n 0, 1) := by decide +kernel
theorem dX4_due_46 : decode cX4_due 46 = .ok (.getfield 25, 3) := by decide +kernel
theorem dX4_due_49 : decode cX4_due 49 = .ok (.iload_n 2, 1) := by decide +kernel
theorem dX4_due_50 : decode cX4_due 50 = .ok (.iload 4, 2) := by decide +kernel
theorem dX4_due_52 : decode cX4_due 52 = .ok (.iadd, 1) := by decide +kernel
theorem dX4_due_53 : decode cX4_due 53 = .ok (.iaload, 1) := by decide +kernel
theorem dX4_due_54 : decode cX4_due 54 = .ok (.iaload, 1) := by decide +kernel
theorem dX4_due_55 : decode cX4_due 55 = .ok (.aload_n 0, 1) := by decide +kernel
theorem dX4_due_56 : decode cX4_due 56 = .ok (.getfield 35, 3) := by decide +kernel
theorem dX4_due_59 : decode cX4_due 59 = .ok (.aload_n 0, 1) := by decide +kernel
theorem dX4_due_60 : decode cX4_due 60 = .ok (.getfield 25, 3) := by decide +kernel
theorem dX4_due_63 : decode cX4_due 63 = .ok (.iload_n 2, 1) := by decide +kernel
theorem dX4_due_64 : decode cX4_due 64 = .ok (.iaload, 1) := by decide +kernel
theorem dX4_due_65 : decode cX4_due 65 = .ok (.iaload, 1) := by decide +kernel
theorem dX4_due_66 : decode cX4_due 66 = .ok (.if_icmp .ne 7, 3) := by decide +kernel
theorem dX4_due_69 : decode cX4_due 69 = .ok (.iconst 1, 1) := by decide +kernel
theorem dX4_due_70 : decode cX4_due 70 = .ok (.goto 4, 3) := by decide +kernel
theorem dX4_due_73 : decode cX4_due 73 = .ok (.iconst 0, 1) := by decide +kernel
theorem dX4_due_74 : decode cX4_due 74 = .ok (.istore_n 3, 1) := by decide +kernel
theorem dX4_due_75 : decode cX4_due 75 = .ok (.iinc 4 1, 3) := by decide +kernel
theorem dX4_due_78 : decode cX4_due 78 = .ok (.goto (-50), 3) := by decide +kernel
theorem dX4_due_81 : decode cX4_due 81 = .ok (.iload_n 3, 1) := by decide +kernel
theorem dX4_due_82 : decode cX4_due 82 = .ok (.ifCond .eq 36, 3) := by decide +kernel
theorem dX4_due_85 : decode cX4_due 85 = .ok (.iload_n 1, 1) := by decide +kernel
theorem dX4_due_86 : decode cX4_due 86 = .ok (.ifCond .lt 28, 3) := by decide +kernel
theorem dX4_due_89 : decode cX4_due 89 = .ok (.aload_n 0, 1) := by decide +kernel
theorem dX4_due_90 : decode cX4_due 90 = .ok (.getfield 35, 3) := by decide +kernel
theorem dX4_due_93 : decode cX4_due 93 = .ok (.aload_n 0, 1) := by decide +kernel
theorem dX4_due_94 : decode cX4_due 94 = .ok (.getfield 25, 3) := by decide +kernel
theorem dX4_due_97 : decode cX4_due 97 = .ok (.iload_n 2, 1) := by decide +kernel
theorem dX4_due_98 : decode cX4_due 98 = .ok (.iaload, 1) := by decide +kernel
theorem dX4_due_99 : decode cX4_due 99 = .ok (.iaload, 1) := by decide +kernel
theorem dX4_due_100 : decode cX4_due 100 = .ok (.aload_n 0, 1) := by decide +kernel
theorem dX4_due_101 : decode cX4_due 101 = .ok (.getfield 35, 3) := by decide +kernel
theorem dX4_due_104 : decode cX4_due 104 = .ok (.aload_n 0, 1) := by decide +kernel
theorem dX4_due_105 : decode cX4_due 105 = .ok (.getfield 25, 3) := by decide +kernel
theorem dX4_due_108 : decode cX4_due 108 = .ok (.iload_n 1, 1) := by decide +kernel
theorem dX4_due_109 : decode cX4_due 109 = .ok (.iaload, 1) := by decide +kernel
theorem dX4_due_110 : decode cX4_due 110 = .ok (.iaload, 1) := by decide +kernel
theorem dX4_due_111 : decode cX4_due 111 = .ok (.if_icmp .ge 7, 3) := by decide +kernel
theorem dX4_due_114 : decode cX4_due 114 = .ok (.iload_n 2, 1) := by decide +kernel
theorem dX4_due_115 : decode cX4_due 115 = .ok (.goto 4, 3) := by decide +kernel
theorem dX4_due_118 : decode cX4_due 118 = .ok (.iload_n 1, 1) := by decide +kernel
theorem dX4_due_119 : decode cX4_due 119 = .ok (.istore_n 1, 1) := by decide +kernel
theorem dX4_due_120 : decode cX4_due 120 = .ok (.iinc 2 1, 3) := by decide +kernel
theorem dX4_due_123 : decode cX4_due 123 = .ok (.goto (-113), 3) := by decide +kernel
theorem dX4_due_126 : decode cX4_due 126 = .ok (.iload_n 1, 1) := by decide +kernel
theorem dX4_due_127 : decode cX4_due 127 = .ok (.ireturn, 1) := by decide +kernel
set_option maxRecDepth 20000 in
theorem ggX4_cheapest_X4_in : GoodIn wsX4_cheapest wsX4_in := goodIn_r _ [7] (by decide +kernel) (by decide +kernel)
set_option maxRecDepth 20000 in
theorem gX4_cheapest_X4_in : GoodIn wsX4_cheapest (va_wsS RX4 90 yX4_in wsX4_in) := goodIn_app (goodIn_of _ (by decide +kernel)) ggX4_cheapest_X4_in
set_option maxRecDepth 20000 in
theorem ggX4_cheapest_X4_livingOf : GoodIn wsX4_cheapest wsX4_livingOf := goodIn_r _ [11, 12, 13, 14, 15, 16, 17, 18, 19, 20, 21, 22, 23, 24, 25, 26, 27, 28, 29, 30, 31, 32, 33, 34, 35, 36, 37, 38, 39, 40, 41, 42, 43, 44, 45, 46, 47] (by decide +kernel) (by decide +kernel)
set_option maxRecDepth 20000 in
theorem gX4_cheapest_X4_livingOf : GoodIn wsX4_cheapest (wsV RX4 119 RX4 yX4_livingOf wsX4_livingOf) := goodIn_app (goodIn_of _ (by decide +kernel)) ggX4_cheapest_X4_livingOf
theorem dX4_cheapest_0 : decode cX4_cheapest 0 = .ok (.aload_n 0, 1) := by decide +kernel
theorem dX4_cheapest_1 : decode cX4_cheapest 1 = .ok (.iconst 0, 1) := by decide +kernel
theorem dX4_cheapest_2 : decode cX4_cheapest 2 = .ok (.putfield 84, 3) := by decide +kernel
theorem dX4_cheapest_5 : decode cX4_cheapest 5 = .ok (.iload_n 1, 1) := by decide +kernel
theorem dX4_cheapest_6 : decode cX4_cheapest 6 = .ok (.iconst 2, 1) := by decide +kernel
