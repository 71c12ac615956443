theorem dX3_drop_35 : decode cX3_drop 35 = .ok (.aload_n 0, 1) := by decide +kernel
theorem dX3_drop_36 : decode cX3_drop 36 = .ok (.iload_n 1, 1) := by decide +kernel
theorem dX3_drop_37 : decode cX3_drop 37 = .ok (.invokevirtual 72, 3) := by decide +kernel
theorem dX3_drop_40 : decode cX3_drop 40 = .ok (.goto 11, 3) := by decide +kernel
theorem dX3_drop_43 : decode cX3_drop 43 = .ok (.aload_n 0, 1) := by decide +kernel
theorem dX3_drop_44 : decode cX3_drop 44 = .ok (.getfield 16, 3) := by decide +kernel
theorem dX3_drop_47 : decode cX3_drop 47 = .ok (.iload_n 2, 1) := by decide +kernel
theorem dX3_drop_48 : decode cX3_drop 48 = .ok (.invokevirtual 83, 3) := by decide +kernel
theorem dX3_drop_51 : decode cX3_drop 51 = .ok (.aload_n 0, 1) := by decide +kernel
theorem dX3_drop_52 : decode cX3_drop 52 = .ok (.getfield 9, 3) := by decide +kernel
theorem dX3_drop_55 : decode cX3_drop 55 = .ok (.iload_n 1, 1) := by decide +kernel
theorem dX3_drop_56 : decode cX3_drop 56 = .ok (.iconst (-1), 1) := by decide +kernel
theorem dX3_drop_57 : decode cX3_drop 57 = .ok (.iastore, 1) := by decide +kernel
theorem dX3_drop_58 : decode cX3_drop 58 = .ok (.iconst 1, 1) := by decide +kernel
theorem dX3_drop_59 : decode cX3_drop 59 = .ok (.ireturn, 1) := by decide +kernel
set_option maxRecDepth 20000 in
theorem ggX3_get_X3_isKey : GoodIn wsX3_get wsX3_isKey := goodIn_r _ [5] (by decide +kernel) (by decide +kernel)
set_option maxRecDepth 20000 in
theorem gX3_get_X3_isKey : GoodIn wsX3_get (va_wsS RX3 61 yX3_isKey wsX3_isKey) := goodIn_app (goodIn_of _ (by decide +kernel)) ggX3_get_X3_isKey
theorem dX3_get_0 : decode cX3_get 0 = .ok (.iload_n 1, 1) := by decide +kernel
theorem dX3_get_1 : decode cX3_get 1 = .ok (.invokestatic 61, 3) := by decide +kernel
theorem dX3_get_4 : decode cX3_get 4 = .ok (.ifCond .ne 5, 3) := by decide +kernel
theorem dX3_get_7 : decode cX3_get 7 = .ok (.iconst (-1), 1) := by decide +kernel
theorem dX3_get_8 : decode cX3_get 8 = .ok (.ireturn, 1) := by decide +kernel
theorem dX3_get_9 : decode cX3_get 9 = .ok (.aload_n 0, 1) := by decide +kernel
theorem dX3_get_10 : decode cX3_get 10 = .ok (.getfield 9, 3) := by decide +kernel
theorem dX3_get_13 : decode cX3_get 13 = .ok (.iload_n 1, 1) := by decide +kernel
theorem dX3_get_14 : decode cX3_get 14 = .ok (.iaload, 1) := by decide +kernel
theorem dX3_get_15 : decode cX3_get 15 = .ok (.iconst (-1), 1) := by decide +kernel
theorem dX3_get_16 : decode cX3_get 16 = .ok (.if_icmp .ne 8, 3) := by decide +kernel
theorem dX3_get_19 : decode cX3_get 19 = .ok (.bipush (-3), 2) := by decide +kernel
theorem dX3_get_21 : decode cX3_get 21 = .ok (.goto 9, 3) := by decide +kernel
theorem dX3_get_24 : decode cX3_get 24 = .ok (.aload_n 0, 1) := by decide +kernel
theorem dX3_get_25 : decode cX3_get 25 = .ok (.getfield 9, 3) := by decide +kernel
theorem dX3_get_28 : decode cX3_get 28 = .ok (.iload_n 1, 1) := by decide +kernel
theorem dX3_get_29 : decode cX3_get 29 = .ok (.iaload, 1) := by decide +kernel
theorem dX3_get_30 : decode cX3_get 30 = .ok (.ireturn, 1) := by decide +kernel
set_option maxRecDepth 20000 in
theorem ggX3_next_X3_isKey : GoodIn wsX3_next wsX3_isKey := goodIn_r _ [5] (by decide +kernel) (by decide +kernel)
set_option maxRecDepth 20000 in
theorem gX3_next_X3_isKey : GoodIn wsX3_next (va_wsS RX3 61 yX3_isKey wsX3_isKey) := goodIn_app (goodIn_of _ (by decide +kernel)) ggX3_next_X3_isKey
theorem dX3_next_0 : decode cX3_next 0 = .ok (.iload_n 1, 1) := by decide +kernel
theorem dX3_next_1 : decode cX3_next 1 = .ok (.invokestatic 61, 3) := by decide +kernel
theorem dX3_next_4 : decode cX3_next 4 = .ok (.ifCond .ne 5, 3) := by decide +kernel
theorem dX3_next_7 : decode cX3_next 7 = .ok (.iconst (-1), 1) := by decide +kernel
theorem dX3_next_8 : decode cX3_next 8 = .ok (.ireturn, 1) := by decide +kernel
theorem dX3_next_9 : decode cX3_next 9 = .ok (.iload_n 1, 1) := by decide +kernel
theorem dX3_next_10 : decode cX3_next 10 = .ok (.istore_n 2, 1) := by decide +kernel
theorem dX3_next_11 : decode cX3_next 11 = .ok (.iload_n 2, 1) := by decide +kernel
theorem dX3_next_12 : decode cX3_next 12 = .ok (.bipush 100, 2) := by decide +kernel
theorem dX3_next_14 : decode cX3_next 14 = .ok (.if_icmp .ge 21, 3) := by decide +kernel
theorem dX3_next_17 : decode cX3_next 17 = .ok (.aload_n 0, 1) := by decide +kernel
theorem dX3_next_18 : decode cX3_next 18 = .ok (.getfield 9, 3) := by decide +kernel
theorem dX3_next_21 : decode cX3_next 21 = .ok (.iload_n 2, 1) := by decide +kernel
theorem dX3_next_22 : decode cX3_next 22 = .ok (.iaload, 1) := by decide +kernel
theorem dX3_next_23 : decode cX3_next 23 = .ok (.iconst (-1), 1) := by decide +kernel
theorem dX3_next_24 : decode cX3_next 24 = .ok (.if_icmp .eq 5, 3) := by decide +kernel
theorem dX3_next_27 : decode cX3_next 27 = .ok (.iload_n 2, 1) := by decide +kernel
theorem dX3_next_28 : decode cX3_next 28 = .ok (.ireturn, 1) := by decide +kernel
theorem dX3_next_29 : decode cX3_next 29 = .ok (.iinc 2 1, 3) := by decide +kernel
theorem dX3_next_32 : decode cX3_next 32 = .ok (.goto (-21), 3) := by decide +kernel
theorem dX3_next_35 : decode cX3_next 35 = .ok (.bipush (-3), 2) := by decide +kernel
theorem dX3_next_37 : decode cX3_next 37 = .ok (.ireturn, 1) := by decide +kernel
set_option maxRecDepth 20000 in
theorem ggX3_flush_X0_asSegment : GoodIn wsX3_flush wsX0_asSegment := goodIn_r _ [13, 14, 15, 16, 17, 18, 19, 20, 21, 22, 23, 24, 25, 26, 27, 28, 29, 30, 31, 32, 33, 34, 35, 36, 37, 38, 12, 39, 40, 41, 42, 43, 58, 59, 60, 61, 62, 63, 64, 65, 55, 56, 57] (by decide +kernel) (by decide +kernel)
set_option maxRecDepth 20000 in
theorem gX3_flush_X0_asSegment : GoodIn wsX3_flush (wsV RX3 86 RX0 yX0_asSegment wsX0_asSegment) := goodIn_app (goodIn_of _ (by decide +kernel)) ggX3_flush_X0_asSegment
theorem dX3_flush_0 : decode cX3_flush 0 = .ok (.aload_n 0, 1) := by decide +kernel
theorem dX3_flush_1 : decode cX3_flush 1 = .ok (.getfield 16, 3) := by decide +kernel
theorem dX3_flush_4 : decode cX3_flush 4 = .ok (.getfield 69, 3) := by decide +kernel
theorem dX3_flush_7 : decode cX3_flush 7 = .ok (.ifCond .ne 6, 3) := by decide +kernel
theorem dX3_flush_10 : decode cX3_flush 10 = .ok (.bipush (-3), 2) := by decide +kernel
theorem dX3_flush_12 : decode cX3_flush 12 = .ok (.ireturn, 1) := by decide +kernel
theorem dX3_flush_13 : decode cX3_flush 13 = .ok (.aload_n 0, 1) := by decide +kernel
theorem dX3_flush_14 : decode cX3_flush 14 = .ok (.getfield 26, 3) := by decide +kernel
theorem dX3_flush_17 : decode cX3_flush 17 = .ok (.bipush 20, 2) := by decide +kernel
theorem dX3_flush_19 : decode cX3_flush 19 = .ok (.if_icmp .ne 6, 3) := by decide +kernel
theorem dX3_flush_22 : decode cX3_flush 22 = .ok (.bipush (-4), 2) := by decide +kernel
theorem dX3_flush_24 : decode cX3_flush 24 = .ok (.ireturn, 1) := by decide +kernel
theorem dX3_flush_25 : decode cX3_flush 25 = .ok (.aload_n 0, 1) := by decide +kernel
theorem dX3_flush_26 : decode cX3_flush 26 = .ok (.getfield 16, 3) := by decide +kernel
theorem dX3_flush_29 : decode cX3_flush 29 = .ok (.aload_n 0, 1) := by decide +kernel
theorem dX3_flush_30 : decode cX3_flush 30 = .ok (.getfield 30, 3) := by decide +kernel
theorem dX3_flush_33 : decode cX3_flush 33 = .ok (.invokevirtual 86, 3) := by decide +kernel
theorem dX3_flush_36 : decode cX3_flush 36 = .ok (.astore_n 1, 1) := by decide +kernel
theorem dX3_flush_37 : decode cX3_flush 37 = .ok (.aload_n 0, 1) := by decide +kernel
theorem dX3_flush_38 : decode cX3_flush 38 = .ok (.getfield 22, 3) := by decide +kernel
theorem dX3_flush_41 : decode cX3_flush 41 = .ok (.aload_n 0, 1) := by decide +kernel
theorem dX3_flush_42 : decode cX3_flush 42 = .ok (.getfield 26, 3) := by decide +kernel
theorem dX3_flush_45 : decode cX3_flush 45 = .ok (.aload_n 1, 1) := by decide +kernel
theorem dX3_flush_46 : decode cX3_flush 46 = .ok (.aastore, 1) := by decide +kernel
theorem dX3_flush_47 : decode cX3_flush 47 = .ok (.aload_n 0, 1) := by decide +kernel
theorem dX3_flush_48 : decode cX3_flush 48 = .ok (.dup, 1) := by decide +kernel
theorem dX3_flush_49 : decode cX3_flush 49 = .ok (.getfield 26, 3) := by decide +kernel
theorem dX3_flush_52 : decode cX3_flush 52 = .ok (.iconst 1, 1) := by decide +kernel
theorem dX3_flush_53 : decode cX3_flush 53 = .ok (.iadd, 1) := by decide +kernel
theorem dX3_flush_54 : decode cX3_flush 54 = .ok (.putfield 26, 3) := by decide +kernel
theorem dX3_flush_57 : decode cX3_flush 57 = .ok (.aload_n 0, 1) := by decide +kernel
theorem dX3_flush_58 : decode cX3_flush 58 = .ok (.dup, 1) := by decide +kernel
theorem dX3_flush_59 : decode cX3_flush 59 = .ok (.getfield 30, 3) := by decide +kernel
theorem dX3_flush_62 : decode cX3_flush 62 = .ok (.iconst 1, 1) := by decide +kernel
theorem dX3_flush_63 : decode cX3_flush 63 = .ok (.iadd, 1) := by decide +kernel
theorem dX3_flush_64 : decode cX3_flush 64 = .ok (.putfield 30, 3) := by decide +kernel
theorem dX3_flush_67 : decode cX3_flush 67 = .ok (.aload_n 0, 1) := by decide +kernel
theorem dX3_flush_68 : decode cX3_flush 68 = .ok (.dup, 1) := by decide +kernel
theorem dX3_flush_69 : decode cX3_flush 69 = .ok (.getfield 33, 3) := by decide +kernel
theorem dX3_flush_72 : decode cX3_flush 72 = .ok (.aload_n 1, 1) := by decide +kernel
theorem dX3_flush_73 : decode cX3_flush 73 = .ok (.getfield 90, 3) := by decide +kernel
theorem dX3_flush_76 : decode cX3_flush 76 = .ok (.iadd, 1) := by decide +kernel
theorem dX3_flush_77 : decode cX3_flush 77 = .ok (.putfield 33, 3) := by decide +kernel
theorem dX3_flush_80 : decode cX3_flush 80 = .ok (.aload_n 0, 1) := by decide +kernel
theorem dX3_flush_81 : decode cX3_flush 81 = .ok (.getfield 16, 3) := by decide +kernel
theorem dX3_flush_84 : decode cX3_flush 84 = .ok (.iconst 0, 1) := by decide +kernel
theorem dX3_flush_85 : decode cX3_flush 85 = .ok (.putfield 69, 3) := by decide +kernel
theorem dX3_flush_88 : decode cX3_flush 88 = .ok (.aload_n 1, 1) := by decide +kernel
theorem dX3_flush_89 : decode cX3_flush 89 = .ok (.getfield 91, 3) := by decide +kernel
theorem dX3_flush_92 : decode cX3_flush 92 = .ok (.ireturn, 1) := by decide +kernel
set_option maxRecDepth 20000 in
theorem ggX3_count_X3_rowsInSegments : GoodIn wsX3_count wsX3_rowsInSegments := goodIn_r _ [9, 3, 10, 11, 17, 18, 19, 20, 21, 22, 23, 24, 25, 26, 27, 31, 32, 33, 34, 35, 36, 37, 38] (by decide +kernel) (by decide +kernel)
set_option maxRecDepth 20000 in
theorem gX3_count_X3_rowsInSegments : GoodIn wsX3_count (wsV RX3 94 RX3 yX3_rowsInSegments wsX3_rowsInSegments) := goodIn_app (goodIn_of _ (by decide +kernel)) ggX3_count_X3_rowsInSegments
set_option maxRecDepth 20000 in
theorem ggX3_count_X3_livingFrom : GoodIn wsX3_count wsX3_livingFrom := goodIn_r _ [15, 10, 16, 17, 18, 19, 20, 21, 22, 23, 24, 25, 26, 27, 31, 32, 33, 34, 35, 36, 37, 38] (by decide +kernel) (by decide +kernel)
set_option maxRecDepth 20000 in
theorem gX3_count_X3_livingFrom : GoodIn wsX3_count (wsV RX3 98 RX3 yX3_livingFrom wsX3_livingFrom) := goodIn_app (goodIn_of _ (by decide +kernel)) ggX3_count_X3_livingFrom
theorem dX3_count_0 : decode cX3_count 0 = .ok (.iload_n 1, 1) := by decide +kernel
theorem dX3_count_1 : decode cX3_count 1 = .ok (.tableswitch 90 0 5 #[39, 47, 52, 57, 67, 72], 39) := by decide +kernel
theorem dX3_count_40 : decode cX3_count 40 = .ok (.aload_n 0, 1) := by decide +kernel
theorem dX3_count_41 : decode cX3_count 41 = .ok (.getfield 16, 3) := by decide +kernel
theorem dX3_count_44 : decode cX3_count 44 = .ok (.getfield 69, 3) := by decide +kernel
theorem dX3_count_47 : decode cX3_count 47 = .ok (.ireturn, 1) := by decide +kernel
theorem dX3_count_48 : decode cX3_count 48 = .ok (.aload_n 0, 1) := by decide +kernel
theorem dX3_count_49 : decode cX3_count 49 = .ok (.getfield 26, 3) := by decide +kernel
theorem dX3_count_52 : decode cX3_count 52 = .ok (.ireturn, 1) := by decide +kernel
theorem dX3_count_53 : decode cX3_count 53 = .ok (.aload_n 0, 1) := by decide +kernel
theorem dX3_count_54 : decode cX3_count 54 = .ok (.invokevirtual 94, 3) := by decide +kernel
theorem dX3_count_57 : decode cX3_count 57 = .ok (.ireturn, 1) := by decide +kernel
theorem dX3_count_58 : decode cX3_count 58 = .ok (.aload_n 0, 1) := by decide +kernel
theorem dX3_count_59 : decode cX3_count 59 = .ok (.iconst 0, 1) := by decide +kernel
theorem dX3_count_60 : decode cX3_count 60 = .ok (.aload_n 0, 1) := by decide +kernel
theorem dX3_count_61 : decode cX3_count 61 = .ok (.getfield 26, 3) := by decide +kernel
theorem dX3_count_64 : decode cX3_count 64 = .ok (.invokevirtual 98, 3) := by decide +kernel
theorem dX3_count_67 : decode cX3_count 67 = .ok (.ireturn, 1) := by decide +kernel
theorem dX3_count_68 : decode cX3_count 68 = .ok (.aload_n 0, 1) := by decide +kernel
theorem dX3_count_69 : decode cX3_count 69 = .ok (.getfield 33, 3) := by decide +kernel
theorem dX3_count_72 : decode cX3_count 72 = .ok (.ireturn, 1) := by decide +kernel
theorem dX3_count_73 : decode cX3_count 73 = .ok (.aload_n 0, 1) := by decide +kernel
theorem dX3_count_74 : decode cX3_count 74 = .ok (.getfield 16, 3) := by decide +kernel
theorem dX3_count_77 : decode cX3_count 77 = .ok (.getfield 69, 3) := by decide +kernel
theorem dX3_count_80 : decode cX3_count 80 = .ok (.aload_n 0, 1) := by decide +kernel
theorem dX3_count_81 : decode cX3_count 81 = .ok (.iconst 0, 1) := by decide +kernel
theorem dX3_count_82 : decode cX3_count 82 = .ok (.aload_n 0, 1) := by decide +kernel
theorem dX3_count_83 : decode cX3_count 83 = .ok (.getfield 26, 3) := by decide +kernel
theorem dX3_count_86 : decode cX3_count 86 = .ok (.invokevirtual 98, 3) := by decide +kernel
theorem dX3_count_89 : decode cX3_count 89 = .ok (.iadd, 1) := by decide +kernel
theorem dX3_count_90 : decode cX3_count 90 = .ok (.ireturn, 1) := by decide +kernel
theorem dX3_count_91 : decode cX3_count 91 = .ok (.bipush (-2), 2) := by decide +kernel
theorem dX3_count_93 : decode cX3_count 93 = .ok (.ireturn, 1) := by decide +kernel
set_option maxRecDepth 20000 in
theorem ggX3_segment_X3_isPlace : GoodIn wsX3_segment wsX3_isPlace := goodIn_r _ [11, 12, 20, 21, 22, 23, 24, 25, 26, 27, 28, 29, 30] (by decide +kernel) (by decide +kernel)
set_option maxRecDepth 20000 in
theorem gX3_segment_X3_isPlace : GoodIn wsX3_segment (wsV RX3 102 RX3 yX3_isPlace wsX3_isPlace) := goodIn_app (goodIn_of _ (by decide +kernel)) ggX3_segment_X3_isPlace
set_option maxRecDepth 20000 in
theorem ggX3_segment_X1_isOf : GoodIn wsX3_segment wsX1_isOf := goodIn_r _ [17, 18, 19, 39, 40, 41, 42, 43, 44] (by decide +kernel) (by decide +kernel)
set_option maxRecDepth 20000 in
theorem gX3_segment_X1_isOf : GoodIn wsX3_segment (wsV RX3 111 RX1 yX1_isOf wsX1_isOf) := goodIn_app (goodIn_of _ (by decide +kernel)) ggX3_segment_X1_isOf
theorem dX3_segment_0 : decode cX3_segment 0 = .ok (.aload_n 0, 1) := by decide +kernel
theorem dX3_segment_1 : decode cX3_segment 1 = .ok (.iload_n 1, 1) := by decide +kernel
theorem dX3_segment_2 : decode cX3_segment 2 = .ok (.invokevirtual 102, 3) := by decide +kernel
theorem dX3_segment_5 : decode cX3_segment 5 = .ok (.ifCond .ne 5, 3) := by decide +kernel
theorem dX3_segment_8 : decode cX3_segment 8 = .ok (.iconst (-1), 1) := by decide +kernel
theorem dX3_segment_9 : decode cX3_segment 9 = .ok (.ireturn, 1) := by decide +kernel
theorem dX3_segment_10 : decode cX3_segment 10 = .ok (.aload_n 0, 1) := by decide +kernel
theorem dX3_segment_11 : decode cX3_segment 11 = .ok (.getfield 22, 3) := by decide +kernel
theorem dX3_segment_14 : decode cX3_segment 14 = .ok (.iload_n 1, 1) := by decide +kernel
theorem dX3_segment_15 : decode cX3_segment 15 = .ok (.aaload, 1) := by decide +kernel
theorem dX3_segment_16 : decode cX3_segment 16 = .ok (.astore_n 3, 1) := by decide +kernel
theorem dX3_segment_17 : decode cX3_segment 17 = .ok (.iload_n 2, 1) := by decide +kernel
theorem dX3_segment_18 : decode cX3_segment 18 = .ok (.tableswitch 78 0 4 #[34, 39, 44, 49, 54], 34) := by decide +kernel
theorem dX3_segment_52 : decode cX3_segment 52 = .ok (.aload_n 3, 1) := by decide +kernel
theorem dX3_segment_53 : decode cX3_segment 53 = .ok (.getfield 91, 3) := by decide +kernel
theorem dX3_segment_56 : decode cX3_segment 56 = .ok (.ireturn, 1) := by decide +kernel
theorem dX3_segment_57 : decode cX3_segment 57 = .ok (.aload_n 3, 1) := by decide +kernel
theorem dX3_segment_58 : decode cX3_segment 58 = .ok (.getfield 105, 3) := by decide +kernel
theorem dX3_segment_61 : decode cX3_segment 61 = .ok (.ireturn, 1) := by decide +kernel
theorem dX3_segment_62 : decode cX3_segment 62 = .ok (.aload_n 3, 1) := by decide +kernel
theorem dX3_segment_63 : decode cX3_segment 63 = .ok (.getfield 90, 3) := by decide +kernel
theorem dX3_segment_66 : decode cX3_segment 66 = .ok (.ireturn, 1) := by decide +kernel
theorem dX3_segment_67 : decode cX3_segment 67 = .ok (.aload_n 3, 1) := by decide +kernel
theorem dX3_segment_68 : decode cX3_segment 68 = .ok (.getfield 108, 3) := by decide +kernel
theorem dX3_segment_71 : decode cX3_segment 71 = .ok (.ireturn, 1) := by decide +kernel
theorem dX3_segment_72 : decode cX3_segment 72 = .ok (.aload_n 0, 1) := by decide +kernel
theorem dX3_segment_73 : decode cX3_segment 73 = .ok (.getfield 39, 3) := by decide +kernel
theorem dX3_segment_76 : decode cX3_segment 76 = .ok (.ifnull 18, 3) := by decide +kernel
theorem dX3_segment_79 : decode cX3_segment 79 = .ok (.aload_n 0, 1) := by decide +kernel
theorem dX3_segment_80 : decode cX3_segment 80 = .ok (.getfield 39, 3) := by decide +kernel
theorem dX3_segment_83 : decode cX3_segment 83 = .ok (.iload_n 1, 1) := by decide +kernel
theorem dX3_segment_84 : decode cX3_segment 84 = .ok (.invokevirtual 111, 3) := by decide +kernel
theorem dX3_segment_87 : decode cX3_segment 87 = .ok (.ifCond .eq 7, 3) := by decide +kernel
theorem dX3_segment_90 : decode cX3_segment 90 = .ok (.iconst 1, 1) := by decide +kernel
theorem dX3_segment_91 : decode cX3_segment 91 = .ok (.goto 4, 3) := by decide +kernel
theorem dX3_segment_94 : decode cX3_segment 94 = .ok (.iconst 0, 1) := by decide +kernel
theorem dX3_segment_95 : decode cX3_segment 95 = .ok (.ireturn, 1) := by decide +kernel
theorem dX3_segment_96 : decode cX3_segment 96 = .ok (.bipush (-2), 2) := by decide +kernel
theorem dX3_segment_98 : decode cX3_segment 98 = .ok (.ireturn, 1) := by decide +kernel
set_option maxRecDepth 20000 in
theorem ggX3_row_X3_isPlace : GoodIn wsX3_row wsX3_isPlace := goodIn_r _ [9, 10, 17, 18, 19, 20, 21, 22, 23, 24, 25, 26, 27] (by decide +kernel) (by decide +kernel)
set_option maxRecDepth 20000 in
theorem gX3_row_X3_isPlace : GoodIn wsX3_row (wsV RX3 102 RX3 yX3_isPlace wsX3_isPlace) := goodIn_app (goodIn_of _ (by decide +kernel)) ggX3_row_X3_isPlace
set_option maxRecDepth 20000 in
theorem ggX3_row_X2_hasRow : GoodIn wsX3_row wsX2_hasRow := goodIn_r _ [15, 16, 28, 29, 30, 31, 32, 33, 34, 35] (by decide +kernel) (by decide +kernel)
set_option maxRecDepth 20000 in
theorem gX3_row_X2_hasRow : GoodIn wsX3_row (wsV RX3 116 RX2 yX2_hasRow wsX2_hasRow) := goodIn_app (goodIn_of _ (by decide +kernel)) ggX3_row_X2_hasRow
theorem dX3_row_0 : decode cX3_row 0 = .ok (.aload_n 0, 1) := by decide +kernel
theorem dX3_row_1 : decode cX3_row 1 = .ok (.iload_n 1, 1) := by decide +kernel
theorem dX3_row_2 : decode cX3_row 2 = .ok (.invokevirtual 102, 3) := by decide +kernel
theorem dX3_row_5 : decode cX3_row 5 = .ok (.ifCond .eq 16, 3) := by decide +kernel
theorem dX3_row_8 : decode cX3_row 8 = .ok (.aload_n 0, 1) := by decide +kernel
theorem dX3_row_9 : decode cX3_row 9 = .ok (.getfield 22, 3) := by decide +kernel
theorem dX3_row_12 : decode cX3_row 12 = .ok (.iload_n 1, 1) := by decide +kernel
theorem dX3_row_13 : decode cX3_row 13 = .ok (.aaload, 1) := by decide +kernel
theorem dX3_row_14 : decode cX3_row 14 = .ok (.iload_n 2, 1) := by decide +kernel
theorem dX3_row_15 : decode cX3_row 15 = .ok (.invokevirtual 116, 3) := by decide +kernel
theorem dX3_row_18 : decode cX3_row 18 = .ok (.ifCond .ne 5, 3) := by decide +kernel
theorem dX3_row_21 : decode cX3_row 21 = .ok (.iconst (-1), 1) := by decide +kernel
theorem dX3_row_22 : decode cX3_row 22 = .ok (.ireturn, 1) := by decide +kernel
theorem dX3_row_23 : decode cX3_row 23 = .ok (.aload_n 0, 1) := by decide +kernel
theorem dX3_row_24 : decode cX3_row 24 = .ok (.getfield 22, 3) := by decide +kernel
theorem dX3_row_27 : decode cX3_row 27 = .ok (.iload_n 1, 1) := by decide +kernel
theorem dX3_row_28 : decode cX3_row 28 = .ok (.aaload, 1) := by decide +kernel
theorem dX3_row_29 : decode cX3_row 29 = .ok (.astore 4, 2) := by decide +kernel
theorem dX3_row_31 : decode cX3_row 31 = .ok (.iload_n 3, 1) := by decide +kernel
theorem dX3_row_32 : decode cX3_row 32 = .ok (.tableswitch 60 0 2 #[28, 36, 44], 28) := by decide +kernel
theorem dX3_row_60 : decode cX3_row 60 = .ok (.aload 4, 2) := by decide +kernel
theorem dX3_row_62 : decode cX3_row 62 = .ok (.getfield 119, 3) := by decide +kernel
theorem dX3_row_65 : decode cX3_row 65 = .ok (.iload_n 2, 1) := by decide +kernel
theorem dX3_row_66 : decode cX3_row 66 = .ok (.iaload, 1) := by decide +kernel
theorem dX3_row_67 : decode cX3_row 67 = .ok (.ireturn, 1) := by decide +kernel
theorem dX3_row_68 : decode cX3_row 68 = .ok (.aload 4, 2) := by decide +kernel
theorem dX3_row_70 : decode cX3_row 70 = .ok (.getfield 122, 3) := by decide +kernel
theorem dX3_row_73 : decode cX3_row 73 = .ok (.iload_n 2, 1) := by decide +kernel
theorem dX3_row_74 : decode cX3_row 74 = .ok (.iaload, 1) := by decide +kernel
theorem dX3_row_75 : decode cX3_row 75 = .ok (.ireturn, 1) := by decide +kernel
theorem dX3_row_76 : decode cX3_row 76 = .ok (.aload 4, 2) := by decide +kernel
theorem dX3_row_78 : decode cX3_row 78 = .ok (.getfield 123, 3) := by decide +kernel
theorem dX3_row_81 : decode cX3_row 81 = .ok (.iload_n 2, 1) := by decide +kernel
theorem dX3_row_82 : decode cX3_row 82 = .ok (.baload, 1) := by decide +kernel
theorem dX3_row_83 : decode cX3_row 83 = .ok (.ifCond .eq 7, 3) := by decide +kernel
theorem dX3_row_86 : decode cX3_row 86 = .ok (.iconst 1, 1) := by decide +kernel
theorem dX3_row_87 : decode cX3_row 87 = .ok (.goto 4, 3) := by decide +kernel
theorem dX3_row_90 : decode cX3_row 90 = .ok (.iconst 0, 1) := by decide +kernel
theorem dX3_row_91 : decode cX3_row 91 = .ok (.ireturn, 1) := by decide +kernel
theorem dX3_row_92 : decode cX3_row 92 = .ok (.bipush (-2), 2) := by decide +kernel
theorem dX3_row_94 : decode cX3_row 94 = .ok (.ireturn, 1) := by decide +kernel
theorem dX3_full_0 : decode cX3_full 0 = .ok (.iload_n 1, 1) := by decide +kernel
theorem dX3_full_1 : decode cX3_full 1 = .ok (.iconst 2, 1) := by decide +kernel
theorem dX3_full_2 : decode cX3_full 2 = .ok (.if_icmp .lt 8, 3) := by decide +kernel
theorem dX3_full_5 : decode cX3_full 5 = .ok (.iload_n 1, 1) := by decide +kernel
theorem dX3_full_6 : decode cX3_full 6 = .ok (.iconst 5, 1) := by decide +kernel
theorem dX3_full_7 : decode cX3_full 7 = .ok (.if_icmp .le 6, 3) := by decide +kernel
theorem dX3_full_10 : decode cX3_full 10 = .ok (.bipush (-2), 2) := by decide +kernel
theorem dX3_full_12 : decode cX3_full 12 = .ok (.ireturn, 1) := by decide +kernel
theorem dX3_full_13 : decode cX3_full 13 = .ok (.aload_n 0, 1) := by decide +kernel
theorem dX3_full_14 : decode cX3_full 14 = .ok (.getfield 36, 3) := by decide +kernel
theorem dX3_full_17 : decode cX3_full 17 = .ok (.istore_n 2, 1) := by decide +kernel
theorem dX3_full_18 : decode cX3_full 18 = .ok (.aload_n 0, 1) := by decide +kernel
theorem dX3_full_19 : decode cX3_full 19 = .ok (.iload_n 1, 1) := by decide +kernel
theorem dX3_full_20 : decode cX3_full 20 = .ok (.putfield 36, 3) := by decide +kernel
theorem dX3_full_23 : decode cX3_full 23 = .ok (.iload_n 2, 1) := by decide +kernel
theorem dX3_full_24 : decode cX3_full 24 = .ok (.ireturn, 1) := by decide +kernel
set_option maxRecDepth 20000 in
theorem ggX3_due_X3_isOfOneTier : GoodIn wsX3_due wsX3_isOfOneTier := goodIn_r _ [9, 3, 4, 10, 11, 12, 13, 14, 15, 16, 17, 18, 19, 20, 21, 22, 23, 24, 25, 26, 27, 28] (by decide +kernel) (by decide +kernel)
set_option maxRecDepth 20000 in
theorem gX3_due_X3_isOfOneTier : GoodIn wsX3_due (wsV RX3 126 RX3 yX3_isOfOneTier wsX3_isOfOneTier) := goodIn_app (goodIn_of _ (by decide +kernel)) ggX3_due_X3_isOfOneTier
theorem dX3_due_0 : decode cX3_due 0 = .ok (.iconst (-1), 1) := by decide +kernel
theorem dX3_due_1 : decode cX3_due 1 = .ok (.istore_n 1, 1) := by decide +kernel
theorem dX3_due_2 : decode cX3_due 2 = .ok (.iconst 0, 1) := by decide +kernel
theorem dX3_due_3 : decode cX3_due 3 = .ok (.istore_n 2, 1) := by decide +kernel
theorem dX3_due_4 : decode cX3_due 4 = .ok (.iload_n 2, 1) := by decide +kernel
theorem dX3_due_5 : decode cX3_due 5 = .ok (.aload_n 0, 1) := by decide +kernel
theorem dX3_due_6 : decode cX3_due 6 = .ok (.getfield 36, 3) := by decide +kernel
theorem dX3_due_9 : decode cX3_due 9 = .ok (.iadd, 1) := by decide +kernel
theorem dX3_due_10 : decode cX3_due 10 = .ok (.aload_n 0, 1) := by decide +kernel
theorem dX3_due_11 : decode cX3_due 11 = .ok (.getfield 26, 3) := by decide +kernel
theorem dX3_due_14 : decode cX3_due 14 = .ok (.if_icmp .gt 49, 3) := by decide +kernel
theorem dX3_due_17 : decode cX3_due 17 = .ok (.aload_n 0, 1) := by decide +kernel
theorem dX3_due_18 : decode cX3_due 18 = .ok (.iload_n 2, 1) := by decide +kernel
theorem dX3_due_19 : decode cX3_due 19 = .ok (.aload_n 0, 1) := by decide +kernel
theorem dX3_due_20 : decode cX3_due 20 = .ok (.getfield 36, 3) := by decide +kernel
theorem dX3_due_23 : decode cX3_due 23 = .ok (.invokevirtual 126, 3) := by decide +kernel
theorem dX3_due_26 : decode cX3_due 26 = .ok (.ifCond .eq 31, 3) := by decide +kernel
theorem dX3_due_29 : decode cX3_due 29 = .ok (.iload_n 1, 1) := by decide +kernel
theorem dX3_due_30 : decode cX3_due 30 = .ok (.iconst (-1), 1) := by decide +kernel
theorem dX3_due_31 : decode cX3_due 31 = .ok (.if_icmp .eq 24, 3) := by decide +kernel
theorem dX3_due_34 : decode cX3_due 34 = .ok (.aload_n 0, 1) := by decide +kernel
theorem dX3_due_35 : decode cX3_due 35 = .ok (.getfield 22, 3) := by decide +kernel
theorem dX3_due_38 : decode cX3_due 38 = .ok (.iload_n 2, 1) := by decide +kernel
theorem dX3_due_39 : decode cX3_due 39 = .ok (.aaload, 1) := by decide +kernel
theorem dX3_due_40 : decode cX3_due 40 = .ok (.getfield 105, 3) := by decide +kernel
theorem dX3_due_43 : decode cX3_due 43 = .ok (.aload_n 0, 1) := by decide +kernel
theorem dX3_due_44 : decode cX3_due 44 = .ok (.getfield 22, 3) := by decide +kernel
theorem dX3_due_47 : decode cX3_due 47 = .ok (.iload_n 1, 1) := by decide +kernel
theorem dX3_due_48 : decode cX3_due 48 = .ok (.aaload, 1) := by decide +kernel
theorem dX3_due_49 : decode cX3_due 49 = .ok (.getfield 105, 3) := by decide +kernel
theorem dX3_due_52 : decode cX3_due 52 = .ok (.if_icmp .ge 5, 3) := by decide +kernel
theorem dX3_due_55 : decode cX3_due 55 = .ok (.iload_n 2, 1) := by decide +kernel
theorem dX3_due_56 : decode cX3_due 56 = .ok (.istore_n 1, 1) := by decide +kernel
theorem dX3_due_57 : decode cX3_due 57 = .ok (.iinc 2 1, 3) := by decide +kernel
theorem dX3_due_60 : decode cX3_due 60 = .ok (.goto (-56), 3) := by decide +kernel
theorem dX3_due_63 : decode cX3_due 63 = .ok (.iload_n 1, 1) := by decide +kernel
theorem dX3_due_64 : decode cX3_due 64 = .ok (.iconst (-1), 1) := by decide +kernel
theorem dX3_due_65 : decode cX3_due 65 = .ok (.if_icmp .ne 8, 3) := by decide +kernel
theorem dX3_due_68 : decode cX3_due 68 = .ok (.bipush (-3), 2) := by decide +kernel
theorem dX3_due_70 : decode cX3_due 70 = .ok (.goto 4, 3) := by decide +kernel
theorem dX3_due_73 : decode cX3_due 73 = .ok (.iload_n 1, 1) := by decide +kernel
theorem dX3_due_74 : decode cX3_due 74 = .ok (.ireturn, 1) := by decide +kernel
set_option maxRecDepth 20000 in
theorem ggX3_cheapest_X3_canBeMerged : GoodIn wsX3_cheapest wsX3_canBeMerged := goodIn_r _ [5] (by decide +kernel) (by decide +kernel)
set_option maxRecDepth 20000 in
theorem gX3_cheapest_X3_canBeMerged : GoodIn wsX3_cheapest (va_wsS RX3 130 yX3_canBeMerged wsX3_canBeMerged) := goodIn_app (goodIn_of _ (by decide +kernel)) ggX3_cheapest_X3_canBeMerged
set_option maxRecDepth 20000 in
theorem ggX3_cheapest_X3_livingFrom : GoodIn wsX3_cheapest wsX3_livingFrom := goodIn_r _ [9, 10, 11, 12, 13, 14, 15, 16, 17, 18, 19, 20, 21, 22, 23, 24, 25, 26, 27, 28, 29, 30] (by decide +kernel) (by decide +kernel)
set_option maxRecDepth 20000 in
theorem gX3_cheapest_X3_livingFrom : GoodIn wsX3_cheapest (wsV RX3 98 RX3 yX3_livingFrom wsX3_livingFrom) := goodIn_app (goodIn_of _ (by decide +kernel)) ggX3_cheapest_X3_livingFrom
theorem dX3_cheapest_0 : decode cX3_cheapest 0 = .ok (.iload_n 1, 1) := by decide +kernel
theorem dX3_cheapest_1 : decode cX3_cheapest 1 = .ok (.invokestatic 130, 3) := by decide +kernel
theorem dX3_cheapest_4 : decode cX3_cheapest 4 = .ok (.ifCond .ne 6, 3) := by decide +kernel
theorem dX3_cheapest_7 : decode cX3_cheapest 7 = .ok (.bipush (-2), 2) := by decide +kernel
theorem dX3_cheapest_9 : decode cX3_cheapest 9 = .ok (.ireturn, 1) := by decide +kernel
theorem dX3_cheapest_10 : decode cX3_cheapest 10 = .ok (.aload_n 0, 1) := by decide +kernel
theorem dX3_cheapest_11 : decode cX3_cheapest 11 = .ok (.getfield 26, 3) := by decide +kernel
theorem dX3_cheapest_14 : decode cX3_cheapest 14 = .ok (.iload_n 1, 1) := by decide +kernel
theorem dX3_cheapest_15 : decode cX3_cheapest 15 = .ok (.if_icmp .ge 6, 3) := by decide +kernel
theorem dX3_cheapest_18 : decode cX3_cheapest 18 = .ok (.bipush (-3), 2) := by decide +kernel
theorem dX3_cheapest_20 : decode cX3_cheapest 20 = .ok (.ireturn, 1) := by decide +kernel
theorem dX3_cheapest_21 : decode cX3_cheapest 21 = .ok (.iconst 0, 1) := by decide +kernel
theorem dX3_cheapest_22 : decode cX3_cheapest 22 = .ok (.istore_n 2, 1) := by decide +kernel
theorem dX3_cheapest_23 : decode cX3_cheapest 23 = .ok (.aload_n 0, 1) := by decide +kernel
theorem dX3_cheapest_24 : decode cX3_cheapest 24 = .ok (.iconst 0, 1) := by decide +kernel
theorem dX3_cheapest_25 : decode cX3_cheapest 25 = .ok (.iload_n 1, 1) := by decide +kernel
theorem dX3_cheapest_26 : decode cX3_cheapest 26 = .ok (.invokevirtual 98, 3) := by decide +kernel
theorem dX3_cheapest_29 : decode cX3_cheapest 29 = .ok (.istore_n 3, 1) := by decide +kernel
theorem dX3_cheapest_30 : decode cX3_cheapest 30 = .ok (.iconst 1, 1) := by decide +kernel
theorem dX3_cheapest_31 : decode cX3_cheapest 31 = .ok (.istore 4, 2) := by decide +kernel
theorem dX3_cheapest_33 : decode cX3_cheapest 33 = .ok (.iload 4, 2) := by decide +kernel
theorem dX3_cheapest_35 : decode cX3_cheapest 35 = .ok (.iload_n 1, 1) := by decide +kernel
theorem dX3_cheapest_36 : decode cX3_cheapest 36 = .ok (.iadd, 1) := by decide +kernel
theorem dX3_cheapest_37 : decode cX3_cheapest 37 = .ok (.aload_n 0, 1) := by decide +kernel
theorem dX3_cheapest_38 : decode cX3_cheapest 38 = .ok (.getfield 26, 3) := by decide +kernel
theorem dX3_cheapest_41 : decode cX3_cheapest 41 = .ok (.if_icmp .gt 30, 3) := by decide +kernel
theorem dX3_cheapest_44 : decode cX3_cheapest 44 = .ok (.aload_n 0, 1) := by decide +kernel
theorem dX3_cheapest_45 : decode cX3_cheapest 45 = .ok (.iload 4, 2) := by decide +kernel
theorem dX3_cheapest_47 : decode cX3_cheapest 47 = .ok (.iload_n 1, 1) := by decide +kernel
theorem dX3_cheapest_48 : decode cX3_cheapest 48 = .ok (.invokevirtual 98, 3) := by decide +kernel
theorem dX3_cheapest_51 : decode cX3_cheapest 51 = .ok (.istore 5, 2) := by decide +kernel
theorem dX3_cheapest_53 : decode cX3_cheapest 53 = .ok (.iload 5, 2) := by decide +kernel
theorem dX3_cheapest_55 : decode cX3_cheapest 55 = .ok (.iload_n 3, 1) := by decide +kernel
theorem dX3_cheapest_56 : decode cX3_cheapest 56 = .ok (.if_icmp .ge 9, 3) := by decide +kernel
theorem dX3_cheapest_59 : decode cX3_cheapest 59 = .ok (.iload 4, 2) := by decide +kernel
theorem dX3_cheapest_61 : decode cX3_cheapest 61 = .ok (.istore_n 2, 1) := by decide +kernel
theorem dX3_cheapest_62 : decode cX3_cheapest 62 = .ok (.iload 5, 2) := by decide +kernel
theorem dX3_cheapest_64 : decode cX3_cheapest 64 = .ok (.istore_n 3, 1) := by decide +kernel
theorem dX3_cheapest_65 : decode cX3_cheapest 65 = .ok (.iinc 4 1, 3) := by decide +kernel
theorem dX3_cheapest_68 : decode cX3_cheapest 68 = .ok (.goto (-35), 3) := by decide +kernel
theorem dX3_cheapest_71 : decode cX3_cheapest 71 = .ok (.iload_n 2, 1) := by decide +kernel
theorem dX3_cheapest_72 : decode cX3_cheapest 72 = .ok (.ireturn, 1) := by decide +kernel
set_option maxRecDepth 20000 in
theorem ggX3_worst_X2_isDeaderThan : GoodIn wsX3_worst wsX2_isDeaderThan := goodIn_r _ [7, 8, 9, 21, 22, 23, 24, 25, 26, 27, 28] (by decide +kernel) (by decide +kernel)
set_option maxRecDepth 20000 in
theorem gX3_worst_X2_isDeaderThan : GoodIn wsX3_worst (wsV RX3 133 RX2 yX2_isDeaderThan wsX2_isDeaderThan) := goodIn_app (goodIn_of _ (by decide +kernel)) ggX3_worst_X2_isDeaderThan
theorem dX3_worst_0 : decode cX3_worst 0 = .ok (.aload_n 0, 1) := by decide +kernel
theorem dX3_worst_1 : decode cX3_worst 1 = .ok (.getfield 26, 3) := by decide +kernel
theorem dX3_worst_4 : decode cX3_worst 4 = .ok (.ifCond .ne 6, 3) := by decide +kernel
theorem dX3_worst_7 : decode cX3_worst 7 = .ok (.bipush (-3), 2) := by decide +kernel
theorem dX3_worst_9 : decode cX3_worst 9 = .ok (.ireturn, 1) := by decide +kernel
theorem dX3_worst_10 : decode cX3_worst 10 = .ok (.iconst 0, 1) := by decide +kernel
