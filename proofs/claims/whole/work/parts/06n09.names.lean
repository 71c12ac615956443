theorem dX4_moved_32 : decode cX4_moved 32 = .ok (.iaload, 1) := by decide +kernel
theorem dX4_moved_33 : decode cX4_moved 33 = .ok (.iconst 1, 1) := by decide +kernel
theorem dX4_moved_34 : decode cX4_moved 34 = .ok (.isub, 1) := by decide +kernel
theorem dX4_moved_35 : decode cX4_moved 35 = .ok (.invokestatic 90, 3) := by decide +kernel
theorem dX4_moved_38 : decode cX4_moved 38 = .ok (.ifCond .eq 34, 3) := by decide +kernel
theorem dX4_moved_41 : decode cX4_moved 41 = .ok (.aload_n 0, 1) := by decide +kernel
theorem dX4_moved_42 : decode cX4_moved 42 = .ok (.getfield 75, 3) := by decide +kernel
theorem dX4_moved_45 : decode cX4_moved 45 = .ok (.bipush 100, 2) := by decide +kernel
theorem dX4_moved_47 : decode cX4_moved 47 = .ok (.iload_n 3, 1) := by decide +kernel
theorem dX4_moved_48 : decode cX4_moved 48 = .ok (.imul, 1) := by decide +kernel
theorem dX4_moved_49 : decode cX4_moved 49 = .ok (.iload_n 2, 1) := by decide +kernel
theorem dX4_moved_50 : decode cX4_moved 50 = .ok (.iadd, 1) := by decide +kernel
theorem dX4_moved_51 : decode cX4_moved 51 = .ok (.iaload, 1) := by decide +kernel
theorem dX4_moved_52 : decode cX4_moved 52 = .ok (.ifCond .ge 8, 3) := by decide +kernel
theorem dX4_moved_55 : decode cX4_moved 55 = .ok (.bipush (-3), 2) := by decide +kernel
theorem dX4_moved_57 : decode cX4_moved 57 = .ok (.goto 14, 3) := by decide +kernel
theorem dX4_moved_60 : decode cX4_moved 60 = .ok (.aload_n 0, 1) := by decide +kernel
theorem dX4_moved_61 : decode cX4_moved 61 = .ok (.getfield 75, 3) := by decide +kernel
theorem dX4_moved_64 : decode cX4_moved 64 = .ok (.bipush 100, 2) := by decide +kernel
theorem dX4_moved_66 : decode cX4_moved 66 = .ok (.iload_n 3, 1) := by decide +kernel
theorem dX4_moved_67 : decode cX4_moved 67 = .ok (.imul, 1) := by decide +kernel
theorem dX4_moved_68 : decode cX4_moved 68 = .ok (.iload_n 2, 1) := by decide +kernel
theorem dX4_moved_69 : decode cX4_moved 69 = .ok (.iadd, 1) := by decide +kernel
theorem dX4_moved_70 : decode cX4_moved 70 = .ok (.iaload, 1) := by decide +kernel
theorem dX4_moved_71 : decode cX4_moved 71 = .ok (.ireturn, 1) := by decide +kernel
theorem dX4_moved_72 : decode cX4_moved 72 = .ok (.iinc 3 1, 3) := by decide +kernel
theorem dX4_moved_75 : decode cX4_moved 75 = .ok (.goto (-68), 3) := by decide +kernel
theorem dX4_moved_78 : decode cX4_moved 78 = .ok (.iconst (-1), 1) := by decide +kernel
theorem dX4_moved_79 : decode cX4_moved 79 = .ok (.ireturn, 1) := by decide +kernel
theorem dX4_view_0 : decode cX4_view 0 = .ok (.aload_n 0, 1) := by decide +kernel
theorem dX4_view_1 : decode cX4_view 1 = .ok (.iconst 0, 1) := by decide +kernel
theorem dX4_view_2 : decode cX4_view 2 = .ok (.putfield 84, 3) := by decide +kernel
theorem dX4_view_5 : decode cX4_view 5 = .ok (.iconst 0, 1) := by decide +kernel
theorem dX4_view_6 : decode cX4_view 6 = .ok (.istore_n 1, 1) := by decide +kernel
theorem dX4_view_7 : decode cX4_view 7 = .ok (.iload_n 1, 1) := by decide +kernel
theorem dX4_view_8 : decode cX4_view 8 = .ok (.iconst 4, 1) := by decide +kernel
theorem dX4_view_9 : decode cX4_view 9 = .ok (.if_icmp .ge 18, 3) := by decide +kernel
theorem dX4_view_12 : decode cX4_view 12 = .ok (.aload_n 0, 1) := by decide +kernel
theorem dX4_view_13 : decode cX4_view 13 = .ok (.getfield 78, 3) := by decide +kernel
theorem dX4_view_16 : decode cX4_view 16 = .ok (.iload_n 1, 1) := by decide +kernel
theorem dX4_view_17 : decode cX4_view 17 = .ok (.baload, 1) := by decide +kernel
theorem dX4_view_18 : decode cX4_view 18 = .ok (.ifCond .eq 9, 3) := by decide +kernel
theorem dX4_view_21 : decode cX4_view 21 = .ok (.iinc 1 1, 3) := by decide +kernel
theorem dX4_view_24 : decode cX4_view 24 = .ok (.goto (-17), 3) := by decide +kernel
theorem dX4_view_27 : decode cX4_view 27 = .ok (.iload_n 1, 1) := by decide +kernel
theorem dX4_view_28 : decode cX4_view 28 = .ok (.iconst 4, 1) := by decide +kernel
theorem dX4_view_29 : decode cX4_view 29 = .ok (.if_icmp .ne 6, 3) := by decide +kernel
theorem dX4_view_32 : decode cX4_view 32 = .ok (.bipush (-4), 2) := by decide +kernel
theorem dX4_view_34 : decode cX4_view 34 = .ok (.ireturn, 1) := by decide +kernel
theorem dX4_view_35 : decode cX4_view 35 = .ok (.aload_n 0, 1) := by decide +kernel
theorem dX4_view_36 : decode cX4_view 36 = .ok (.getfield 78, 3) := by decide +kernel
theorem dX4_view_39 : decode cX4_view 39 = .ok (.iload_n 1, 1) := by decide +kernel
theorem dX4_view_40 : decode cX4_view 40 = .ok (.iconst 1, 1) := by decide +kernel
theorem dX4_view_41 : decode cX4_view 41 = .ok (.bastore, 1) := by decide +kernel
theorem dX4_view_42 : decode cX4_view 42 = .ok (.iconst 0, 1) := by decide +kernel
theorem dX4_view_43 : decode cX4_view 43 = .ok (.istore_n 2, 1) := by decide +kernel
theorem dX4_view_44 : decode cX4_view 44 = .ok (.iload_n 2, 1) := by decide +kernel
theorem dX4_view_45 : decode cX4_view 45 = .ok (.bipush 100, 2) := by decide +kernel
theorem dX4_view_47 : decode cX4_view 47 = .ok (.if_icmp .ge 26, 3) := by decide +kernel
theorem dX4_view_50 : decode cX4_view 50 = .ok (.aload_n 0, 1) := by decide +kernel
theorem dX4_view_51 : decode cX4_view 51 = .ok (.getfield 81, 3) := by decide +kernel
theorem dX4_view_54 : decode cX4_view 54 = .ok (.bipush 100, 2) := by decide +kernel
theorem dX4_view_56 : decode cX4_view 56 = .ok (.iload_n 1, 1) := by decide +kernel
theorem dX4_view_57 : decode cX4_view 57 = .ok (.imul, 1) := by decide +kernel
theorem dX4_view_58 : decode cX4_view 58 = .ok (.iload_n 2, 1) := by decide +kernel
theorem dX4_view_59 : decode cX4_view 59 = .ok (.iadd, 1) := by decide +kernel
theorem dX4_view_60 : decode cX4_view 60 = .ok (.aload_n 0, 1) := by decide +kernel
theorem dX4_view_61 : decode cX4_view 61 = .ok (.getfield 7, 3) := by decide +kernel
theorem dX4_view_64 : decode cX4_view 64 = .ok (.iload_n 2, 1) := by decide +kernel
theorem dX4_view_65 : decode cX4_view 65 = .ok (.iaload, 1) := by decide +kernel
theorem dX4_view_66 : decode cX4_view 66 = .ok (.iastore, 1) := by decide +kernel
theorem dX4_view_67 : decode cX4_view 67 = .ok (.iinc 2 1, 3) := by decide +kernel
theorem dX4_view_70 : decode cX4_view 70 = .ok (.goto (-26), 3) := by decide +kernel
theorem dX4_view_73 : decode cX4_view 73 = .ok (.iload_n 1, 1) := by decide +kernel
theorem dX4_view_74 : decode cX4_view 74 = .ok (.ireturn, 1) := by decide +kernel
set_option maxRecDepth 20000 in
theorem ggX4_isOpen_X4_in : GoodIn wsX4_isOpen wsX4_in := goodIn_r _ [5] (by decide +kernel) (by decide +kernel)
set_option maxRecDepth 20000 in
theorem gX4_isOpen_X4_in : GoodIn wsX4_isOpen (va_wsS RX4 90 yX4_in wsX4_in) := goodIn_app (goodIn_of _ (by decide +kernel)) ggX4_isOpen_X4_in
theorem dX4_isOpen_0 : decode cX4_isOpen 0 = .ok (.iload_n 1, 1) := by decide +kernel
theorem dX4_isOpen_1 : decode cX4_isOpen 1 = .ok (.iconst 0, 1) := by decide +kernel
theorem dX4_isOpen_2 : decode cX4_isOpen 2 = .ok (.iconst 3, 1) := by decide +kernel
theorem dX4_isOpen_3 : decode cX4_isOpen 3 = .ok (.invokestatic 90, 3) := by decide +kernel
theorem dX4_isOpen_6 : decode cX4_isOpen 6 = .ok (.ifCond .eq 16, 3) := by decide +kernel
theorem dX4_isOpen_9 : decode cX4_isOpen 9 = .ok (.aload_n 0, 1) := by decide +kernel
theorem dX4_isOpen_10 : decode cX4_isOpen 10 = .ok (.getfield 78, 3) := by decide +kernel
theorem dX4_isOpen_13 : decode cX4_isOpen 13 = .ok (.iload_n 1, 1) := by decide +kernel
theorem dX4_isOpen_14 : decode cX4_isOpen 14 = .ok (.baload, 1) := by decide +kernel
theorem dX4_isOpen_15 : decode cX4_isOpen 15 = .ok (.ifCond .eq 7, 3) := by decide +kernel
theorem dX4_isOpen_18 : decode cX4_isOpen 18 = .ok (.iconst 1, 1) := by decide +kernel
theorem dX4_isOpen_19 : decode cX4_isOpen 19 = .ok (.goto 4, 3) := by decide +kernel
theorem dX4_isOpen_22 : decode cX4_isOpen 22 = .ok (.iconst 0, 1) := by decide +kernel
theorem dX4_isOpen_23 : decode cX4_isOpen 23 = .ok (.ireturn, 1) := by decide +kernel
set_option maxRecDepth 20000 in
theorem ggX4_seen_X4_isOpen : GoodIn wsX4_seen wsX4_isOpen := goodIn_r _ [7, 8, 9, 10, 6, 11, 12, 13, 14, 15, 16, 17, 18, 19, 20, 21, 22, 23, 24, 25, 26, 27, 28, 29, 30, 31, 32, 33, 34, 35, 36, 37, 38, 39, 40, 41, 42, 43, 44, 45] (by decide +kernel) (by decide +kernel)
set_option maxRecDepth 20000 in
theorem gX4_seen_X4_isOpen : GoodIn wsX4_seen (wsV RX4 160 RX4 yX4_isOpen wsX4_isOpen) := goodIn_app (goodIn_of _ (by decide +kernel)) ggX4_seen_X4_isOpen
set_option maxRecDepth 20000 in
theorem ggX4_seen_X4_in : GoodIn wsX4_seen wsX4_in := goodIn_r _ [11] (by decide +kernel) (by decide +kernel)
set_option maxRecDepth 20000 in
theorem gX4_seen_X4_in : GoodIn wsX4_seen (va_wsS RX4 90 yX4_in wsX4_in) := goodIn_app (goodIn_of _ (by decide +kernel)) ggX4_seen_X4_in
theorem dX4_seen_0 : decode cX4_seen 0 = .ok (.aload_n 0, 1) := by decide +kernel
theorem dX4_seen_1 : decode cX4_seen 1 = .ok (.iconst 0, 1) := by decide +kernel
theorem dX4_seen_2 : decode cX4_seen 2 = .ok (.putfield 84, 3) := by decide +kernel
theorem dX4_seen_5 : decode cX4_seen 5 = .ok (.aload_n 0, 1) := by decide +kernel
theorem dX4_seen_6 : decode cX4_seen 6 = .ok (.iload_n 1, 1) := by decide +kernel
theorem dX4_seen_7 : decode cX4_seen 7 = .ok (.invokevirtual 160, 3) := by decide +kernel
theorem dX4_seen_10 : decode cX4_seen 10 = .ok (.ifCond .eq 13, 3) := by decide +kernel
theorem dX4_seen_13 : decode cX4_seen 13 = .ok (.iload_n 2, 1) := by decide +kernel
theorem dX4_seen_14 : decode cX4_seen 14 = .ok (.iconst 0, 1) := by decide +kernel
theorem dX4_seen_15 : decode cX4_seen 15 = .ok (.bipush 99, 2) := by decide +kernel
theorem dX4_seen_17 : decode cX4_seen 17 = .ok (.invokestatic 90, 3) := by decide +kernel
theorem dX4_seen_20 : decode cX4_seen 20 = .ok (.ifCond .ne 5, 3) := by decide +kernel
theorem dX4_seen_23 : decode cX4_seen 23 = .ok (.iconst (-1), 1) := by decide +kernel
theorem dX4_seen_24 : decode cX4_seen 24 = .ok (.ireturn, 1) := by decide +kernel
theorem dX4_seen_25 : decode cX4_seen 25 = .ok (.aload_n 0, 1) := by decide +kernel
theorem dX4_seen_26 : decode cX4_seen 26 = .ok (.getfield 81, 3) := by decide +kernel
theorem dX4_seen_29 : decode cX4_seen 29 = .ok (.bipush 100, 2) := by decide +kernel
theorem dX4_seen_31 : decode cX4_seen 31 = .ok (.iload_n 1, 1) := by decide +kernel
theorem dX4_seen_32 : decode cX4_seen 32 = .ok (.imul, 1) := by decide +kernel
theorem dX4_seen_33 : decode cX4_seen 33 = .ok (.iload_n 2, 1) := by decide +kernel
theorem dX4_seen_34 : decode cX4_seen 34 = .ok (.iadd, 1) := by decide +kernel
theorem dX4_seen_35 : decode cX4_seen 35 = .ok (.iaload, 1) := by decide +kernel
theorem dX4_seen_36 : decode cX4_seen 36 = .ok (.ifCond .ge 8, 3) := by decide +kernel
theorem dX4_seen_39 : decode cX4_seen 39 = .ok (.bipush (-3), 2) := by decide +kernel
theorem dX4_seen_41 : decode cX4_seen 41 = .ok (.goto 14, 3) := by decide +kernel
theorem dX4_seen_44 : decode cX4_seen 44 = .ok (.aload_n 0, 1) := by decide +kernel
theorem dX4_seen_45 : decode cX4_seen 45 = .ok (.getfield 81, 3) := by decide +kernel
theorem dX4_seen_48 : decode cX4_seen 48 = .ok (.bipush 100, 2) := by decide +kernel
theorem dX4_seen_50 : decode cX4_seen 50 = .ok (.iload_n 1, 1) := by decide +kernel
theorem dX4_seen_51 : decode cX4_seen 51 = .ok (.imul, 1) := by decide +kernel
theorem dX4_seen_52 : decode cX4_seen 52 = .ok (.iload_n 2, 1) := by decide +kernel
theorem dX4_seen_53 : decode cX4_seen 53 = .ok (.iadd, 1) := by decide +kernel
theorem dX4_seen_54 : decode cX4_seen 54 = .ok (.iaload, 1) := by decide +kernel
theorem dX4_seen_55 : decode cX4_seen 55 = .ok (.ireturn, 1) := by decide +kernel
set_option maxRecDepth 20000 in
theorem ggX4_shut_X4_isOpen : GoodIn wsX4_shut wsX4_isOpen := goodIn_r _ [9, 2, 10, 11, 8, 12, 13, 14, 15, 16, 17, 18, 19, 20, 21, 22, 23, 24, 25, 26, 27, 28, 29, 30, 31, 32, 33, 34, 35, 36, 37, 38, 39, 40, 41, 42, 43, 44, 45, 46] (by decide +kernel) (by decide +kernel)
set_option maxRecDepth 20000 in
theorem gX4_shut_X4_isOpen : GoodIn wsX4_shut (wsV RX4 160 RX4 yX4_isOpen wsX4_isOpen) := goodIn_app (goodIn_of _ (by decide +kernel)) ggX4_shut_X4_isOpen
theorem dX4_shut_0 : decode cX4_shut 0 = .ok (.aload_n 0, 1) := by decide +kernel
theorem dX4_shut_1 : decode cX4_shut 1 = .ok (.iconst 0, 1) := by decide +kernel
theorem dX4_shut_2 : decode cX4_shut 2 = .ok (.putfield 84, 3) := by decide +kernel
theorem dX4_shut_5 : decode cX4_shut 5 = .ok (.aload_n 0, 1) := by decide +kernel
theorem dX4_shut_6 : decode cX4_shut 6 = .ok (.iload_n 1, 1) := by decide +kernel
theorem dX4_shut_7 : decode cX4_shut 7 = .ok (.invokevirtual 160, 3) := by decide +kernel
theorem dX4_shut_10 : decode cX4_shut 10 = .ok (.ifCond .ne 5, 3) := by decide +kernel
theorem dX4_shut_13 : decode cX4_shut 13 = .ok (.iconst (-1), 1) := by decide +kernel
theorem dX4_shut_14 : decode cX4_shut 14 = .ok (.ireturn, 1) := by decide +kernel
theorem dX4_shut_15 : decode cX4_shut 15 = .ok (.aload_n 0, 1) := by decide +kernel
theorem dX4_shut_16 : decode cX4_shut 16 = .ok (.getfield 78, 3) := by decide +kernel
theorem dX4_shut_19 : decode cX4_shut 19 = .ok (.iload_n 1, 1) := by decide +kernel
theorem dX4_shut_20 : decode cX4_shut 20 = .ok (.iconst 0, 1) := by decide +kernel
theorem dX4_shut_21 : decode cX4_shut 21 = .ok (.bastore, 1) := by decide +kernel
theorem dX4_shut_22 : decode cX4_shut 22 = .ok (.iconst 0, 1) := by decide +kernel
theorem dX4_shut_23 : decode cX4_shut 23 = .ok (.istore_n 2, 1) := by decide +kernel
theorem dX4_shut_24 : decode cX4_shut 24 = .ok (.iconst 0, 1) := by decide +kernel
theorem dX4_shut_25 : decode cX4_shut 25 = .ok (.istore_n 3, 1) := by decide +kernel
theorem dX4_shut_26 : decode cX4_shut 26 = .ok (.iload_n 3, 1) := by decide +kernel
theorem dX4_shut_27 : decode cX4_shut 27 = .ok (.bipush 100, 2) := by decide +kernel
theorem dX4_shut_29 : decode cX4_shut 29 = .ok (.if_icmp .ge 37, 3) := by decide +kernel
theorem dX4_shut_32 : decode cX4_shut 32 = .ok (.iload_n 2, 1) := by decide +kernel
theorem dX4_shut_33 : decode cX4_shut 33 = .ok (.aload_n 0, 1) := by decide +kernel
theorem dX4_shut_34 : decode cX4_shut 34 = .ok (.getfield 81, 3) := by decide +kernel
theorem dX4_shut_37 : decode cX4_shut 37 = .ok (.bipush 100, 2) := by decide +kernel
theorem dX4_shut_39 : decode cX4_shut 39 = .ok (.iload_n 1, 1) := by decide +kernel
theorem dX4_shut_40 : decode cX4_shut 40 = .ok (.imul, 1) := by decide +kernel
theorem dX4_shut_41 : decode cX4_shut 41 = .ok (.iload_n 3, 1) := by decide +kernel
theorem dX4_shut_42 : decode cX4_shut 42 = .ok (.iadd, 1) := by decide +kernel
theorem dX4_shut_43 : decode cX4_shut 43 = .ok (.iaload, 1) := by decide +kernel
theorem dX4_shut_44 : decode cX4_shut 44 = .ok (.aload_n 0, 1) := by decide +kernel
theorem dX4_shut_45 : decode cX4_shut 45 = .ok (.getfield 7, 3) := by decide +kernel
theorem dX4_shut_48 : decode cX4_shut 48 = .ok (.iload_n 3, 1) := by decide +kernel
theorem dX4_shut_49 : decode cX4_shut 49 = .ok (.iaload, 1) := by decide +kernel
theorem dX4_shut_50 : decode cX4_shut 50 = .ok (.if_icmp .eq 7, 3) := by decide +kernel
theorem dX4_shut_53 : decode cX4_shut 53 = .ok (.iconst 1, 1) := by decide +kernel
theorem dX4_shut_54 : decode cX4_shut 54 = .ok (.goto 4, 3) := by decide +kernel
theorem dX4_shut_57 : decode cX4_shut 57 = .ok (.iconst 0, 1) := by decide +kernel
theorem dX4_shut_58 : decode cX4_shut 58 = .ok (.iadd, 1) := by decide +kernel
theorem dX4_shut_59 : decode cX4_shut 59 = .ok (.istore_n 2, 1) := by decide +kernel
theorem dX4_shut_60 : decode cX4_shut 60 = .ok (.iinc 3 1, 3) := by decide +kernel
theorem dX4_shut_63 : decode cX4_shut 63 = .ok (.goto (-37), 3) := by decide +kernel
theorem dX4_shut_66 : decode cX4_shut 66 = .ok (.iload_n 2, 1) := by decide +kernel
theorem dX4_shut_67 : decode cX4_shut 67 = .ok (.ireturn, 1) := by decide +kernel
set_option maxRecDepth 20000 in
theorem ggX4_share_X4_all : GoodIn wsX4_share wsX4_all := goodIn_r _ [6, 7, 8, 9, 10, 11, 12, 5, 13, 14, 15, 16, 17, 18, 19, 20, 21, 22, 23, 24, 25, 26, 27, 28, 29, 30, 31, 32, 33, 34, 35, 36, 37, 38, 39, 40, 41, 42, 43, 44, 45, 46, 47, 48] (by decide +kernel) (by decide +kernel)
set_option maxRecDepth 20000 in
theorem gX4_share_X4_all : GoodIn wsX4_share (wsV RX4 122 RX4 yX4_all wsX4_all) := goodIn_app (goodIn_of _ (by decide +kernel)) ggX4_share_X4_all
theorem dX4_share_0 : decode cX4_share 0 = .ok (.aload_n 0, 1) := by decide +kernel
theorem dX4_share_1 : decode cX4_share 1 = .ok (.iconst 0, 1) := by decide +kernel
theorem dX4_share_2 : decode cX4_share 2 = .ok (.putfield 84, 3) := by decide +kernel
theorem dX4_share_5 : decode cX4_share 5 = .ok (.aload_n 0, 1) := by decide +kernel
theorem dX4_share_6 : decode cX4_share 6 = .ok (.iconst 0, 1) := by decide +kernel
theorem dX4_share_7 : decode cX4_share 7 = .ok (.invokevirtual 122, 3) := by decide +kernel
theorem dX4_share_10 : decode cX4_share 10 = .ok (.istore_n 1, 1) := by decide +kernel
theorem dX4_share_11 : decode cX4_share 11 = .ok (.iload_n 1, 1) := by decide +kernel
theorem dX4_share_12 : decode cX4_share 12 = .ok (.ifCond .ne 10, 3) := by decide +kernel
theorem dX4_share_15 : decode cX4_share 15 = .ok (.aload_n 0, 1) := by decide +kernel
theorem dX4_share_16 : decode cX4_share 16 = .ok (.iconst 1, 1) := by decide +kernel
theorem dX4_share_17 : decode cX4_share 17 = .ok (.putfield 84, 3) := by decide +kernel
theorem dX4_share_20 : decode cX4_share 20 = .ok (.iconst 0, 1) := by decide +kernel
theorem dX4_share_21 : decode cX4_share 21 = .ok (.ireturn, 1) := by decide +kernel
theorem dX4_share_22 : decode cX4_share 22 = .ok (.sipush 1000, 3) := by decide +kernel
theorem dX4_share_25 : decode cX4_share 25 = .ok (.aload_n 0, 1) := by decide +kernel
theorem dX4_share_26 : decode cX4_share 26 = .ok (.iconst 1, 1) := by decide +kernel
theorem dX4_share_27 : decode cX4_share 27 = .ok (.invokevirtual 122, 3) := by decide +kernel
theorem dX4_share_30 : decode cX4_share 30 = .ok (.imul, 1) := by decide +kernel
theorem dX4_share_31 : decode cX4_share 31 = .ok (.iload_n 1, 1) := by decide +kernel
theorem dX4_share_32 : decode cX4_share 32 = .ok (.idiv, 1) := by decide +kernel
theorem dX4_share_33 : decode cX4_share 33 = .ok (.ireturn, 1) := by decide +kernel
theorem dJ9_max_7cf53_0 : decode cJ9_max_7cf53 0 = .ok (.iload_n 0, 1) := by decide +kernel
theorem dJ9_max_7cf53_1 : decode cJ9_max_7cf53 1 = .ok (.iload_n 1, 1) := by decide +kernel
theorem dJ9_max_7cf53_2 : decode cJ9_max_7cf53 2 = .ok (.if_icmp .lt 7, 3) := by decide +kernel
theorem dJ9_max_7cf53_5 : decode cJ9_max_7cf53 5 = .ok (.iload_n 0, 1) := by decide +kernel
theorem dJ9_max_7cf53_6 : decode cJ9_max_7cf53 6 = .ok (.goto 4, 3) := by decide +kernel
theorem dJ9_max_7cf53_9 : decode cJ9_max_7cf53 9 = .ok (.iload_n 1, 1) := by decide +kernel
theorem dJ9_max_7cf53_10 : decode cJ9_max_7cf53 10 = .ok (.ireturn, 1) := by decide +kernel
theorem dJ7_fill_53178_0 : decode cJ7_fill_53178 0 = .ok (.iconst 0, 1) := by decide +kernel
theorem dJ7_fill_53178_1 : decode cJ7_fill_53178 1 = .ok (.istore_n 2, 1) := by decide +kernel
theorem dJ7_fill_53178_2 : decode cJ7_fill_53178 2 = .ok (.aload_n 0, 1) := by decide +kernel
theorem dJ7_fill_53178_3 : decode cJ7_fill_53178 3 = .ok (.arraylength, 1) := by decide +kernel
theorem dJ7_fill_53178_4 : decode cJ7_fill_53178 4 = .ok (.istore_n 3, 1) := by decide +kernel
theorem dJ7_fill_53178_5 : decode cJ7_fill_53178 5 = .ok (.iload_n 2, 1) := by decide +kernel
theorem dJ7_fill_53178_6 : decode cJ7_fill_53178 6 = .ok (.iload_n 3, 1) := by decide +kernel
theorem dJ7_fill_53178_7 : decode cJ7_fill_53178 7 = .ok (.if_icmp .ge 13, 3) := by decide +kernel
theorem dJ7_fill_53178_10 : decode cJ7_fill_53178 10 = .ok (.aload_n 0, 1) := by decide +kernel
theorem dJ7_fill_53178_11 : decode cJ7_fill_53178 11 = .ok (.iload_n 2, 1) := by decide +kernel
theorem dJ7_fill_53178_12 : decode cJ7_fill_53178 12 = .ok (.iload_n 1, 1) := by decide +kernel
theorem dJ7_fill_53178_13 : decode cJ7_fill_53178 13 = .ok (.iastore, 1) := by decide +kernel
theorem dJ7_fill_53178_14 : decode cJ7_fill_53178 14 = .ok (.iinc 2 1, 3) := by decide +kernel
theorem dJ7_fill_53178_17 : decode cJ7_fill_53178 17 = .ok (.goto (-12), 3) := by decide +kernel
theorem dJ7_fill_53178_20 : decode cJ7_fill_53178 20 = .ok (.return_, 1) := by decide +kernel
set_option maxRecDepth 20000 in
theorem ggL_share_X3_share : GoodIn wsL_share wsX3_share := goodIn_ca (goodIn_r _ [6, 7, 8, 9, 10, 11, 12, 5, 13, 14, 15, 16, 17, 18, 19, 20, 21, 22, 23, 24, 25, 26, 27, 28, 29, 30, 31, 32, 33, 34, 35, 36, 37, 38, 39] (by decide +kernel) (by decide +kernel)) (goodIn_sub (fun _ h => List.mem_cons_of_mem _ (List.mem_append_right _ h)) (by decide +kernel))
set_option maxRecDepth 20000 in
theorem gL_share_X3_share : GoodIn wsL_share (wsV RL 7 RX3 yX3_share wsX3_share) := goodIn_app (goodIn_of _ (by decide +kernel)) ggL_share_X3_share
theorem dL_share_0 : decode cL_share 0 = .ok (.aload_n 1, 1) := by decide +kernel
theorem dL_share_1 : decode cL_share 1 = .ok (.iconst 0, 1) := by decide +kernel
theorem dL_share_2 : decode cL_share 2 = .ok (.aload_n 0, 1) := by decide +kernel
theorem dL_share_3 : decode cL_share 3 = .ok (.invokevirtual 7, 3) := by decide +kernel
theorem dL_share_6 : decode cL_share 6 = .ok (.i2l, 1) := by decide +kernel
theorem dL_share_7 : decode cL_share 7 = .ok (.lastore, 1) := by decide +kernel
theorem dL_share_8 : decode cL_share 8 = .ok (.goto 6, 3) := by decide +kernel
theorem dL_share_11 : decode cL_share 11 = .ok (.astore_n 2, 1) := by decide +kernel
theorem dL_share_12 : decode cL_share 12 = .ok (.iconst 1, 1) := by decide +kernel
theorem dL_share_13 : decode cL_share 13 = .ok (.ireturn, 1) := by decide +kernel
theorem dL_share_14 : decode cL_share 14 = .ok (.iconst 0, 1) := by decide +kernel
theorem dL_share_15 : decode cL_share 15 = .ok (.ireturn, 1) := by decide +kernel
set_option maxRecDepth 20000 in
theorem ggL_law_X3_init : GoodIn wsL_law wsX3_init := goodIn_r _ [9, 10, 11, 12, 13, 14, 15, 16, 17, 18, 19, 20, 21, 22, 23, 24, 25, 26, 27, 28, 29, 30, 31, 32, 33, 34, 35, 36, 37, 38, 39, 40, 472, 473, 474, 475, 476, 477, 478, 479, 480, 481, 482, 517, 518, 519] (by decide +kernel) (by decide +kernel)
set_option maxRecDepth 20000 in
theorem gL_law_X3_init : GoodIn wsL_law (wsX3_init) := ggL_law_X3_init
set_option maxRecDepth 20000 in
theorem ggL_law_X4_init : GoodIn wsL_law wsX4_init := goodIn_r _ [43, 44, 11, 12, 13, 45, 46, 47, 48, 49, 50, 29, 51, 52, 53, 54, 55, 56, 57, 58, 59, 60, 61, 62, 63, 64, 65, 66, 67, 68, 483, 484, 485, 486, 487, 488, 489, 490, 491, 492, 493, 494, 495, 496, 497, 498, 499, 500, 501, 502, 503, 504, 505, 506, 507, 508, 509, 510, 511, 512, 513, 514, 515, 516] (by decide +kernel) (by decide +kernel)
set_option maxRecDepth 20000 in
theorem gL_law_X4_init : GoodIn wsL_law (wsX4_init) := ggL_law_X4_init
set_option maxRecDepth 20000 in
theorem ggL_law_X3_put : GoodIn wsL_law wsX3_put := goodIn_r _ [72, 18, 73, 74, 14, 75, 76, 2, 77, 78, 79, 80, 17, 81, 36, 34, 82, 83, 84, 85, 21, 20, 86, 87, 88, 89, 90, 91, 92, 93, 94, 95, 96, 97, 98, 35, 472, 473, 474, 475, 476, 477, 478, 479, 480, 481, 482, 517, 518, 519, 520, 521, 522, 523, 524, 525, 526, 527] (by decide +kernel) (by decide +kernel)
set_option maxRecDepth 20000 in
theorem gL_law_X3_put : GoodIn wsL_law (wsV RL 19 RX3 yX3_put wsX3_put) := goodIn_app (goodIn_of _ (by decide +kernel)) ggL_law_X3_put
set_option maxRecDepth 20000 in
theorem ggL_law_X4_put : GoodIn wsL_law wsX4_put := goodIn_r _ [102, 103, 104, 49, 45, 46, 105, 106, 5, 107, 108, 109, 110, 111, 112, 113, 114, 115, 47, 57, 48, 483, 484, 485, 486, 487, 488, 489, 490, 491, 492, 493, 494, 495, 496, 497, 498, 499, 500, 501, 502, 503, 504, 505, 506, 507, 508, 509, 510, 511, 512, 513, 514, 515, 516] (by decide +kernel) (by decide +kernel)
set_option maxRecDepth 20000 in
theorem gL_law_X4_put : GoodIn wsL_law (wsV RL 23 RX4 yX4_put wsX4_put) := goodIn_app (goodIn_of _ (by decide +kernel)) ggL_law_X4_put
set_option maxRecDepth 20000 in
theorem ggL_law_X3_drop : GoodIn wsL_law wsX3_drop := goodIn_r _ [119, 14, 18, 75, 76, 2, 77, 78, 79, 80, 17, 81, 36, 34, 82, 83, 84, 85, 21, 20, 86, 87, 88, 89, 90, 91, 92, 93, 94, 120, 121, 122, 123, 35, 472, 473, 474, 475, 476, 477, 478, 479, 480, 481, 482, 517, 518, 519, 520, 521, 522, 523, 524, 525, 526, 527] (by decide +kernel) (by decide +kernel)
set_option maxRecDepth 20000 in
theorem gL_law_X3_drop : GoodIn wsL_law (wsV RL 24 RX3 yX3_drop wsX3_drop) := goodIn_app (goodIn_of _ (by decide +kernel)) ggL_law_X3_drop
set_option maxRecDepth 20000 in
theorem ggL_law_X4_drop : GoodIn wsL_law wsX4_drop := goodIn_r _ [127, 103, 45, 104, 49, 46, 105, 106, 5, 107, 108, 109, 110, 111, 112, 113, 114, 115, 47, 57, 48, 483, 484, 485, 486, 487, 488, 489, 490, 491, 492, 493, 494, 495, 496, 497, 498, 499, 500, 501, 502, 503, 504, 505, 506, 507, 508, 509, 510, 511, 512, 513, 514, 515, 516] (by decide +kernel) (by decide +kernel)
set_option maxRecDepth 20000 in
theorem gL_law_X4_drop : GoodIn wsL_law (wsV RL 28 RX4 yX4_drop wsX4_drop) := goodIn_app (goodIn_of _ (by decide +kernel)) ggL_law_X4_drop
set_option maxRecDepth 20000 in
theorem ggL_law_X3_get : GoodIn wsL_law wsX3_get := goodIn_r _ [131, 14, 75, 76, 2, 77, 472, 473, 474, 475, 476, 477, 478, 479, 480, 481, 482] (by decide +kernel) (by decide +kernel)
set_option maxRecDepth 20000 in
theorem gL_law_X3_get : GoodIn wsL_law (wsV RL 29 RX3 yX3_get wsX3_get) := goodIn_app (goodIn_of _ (by decide +kernel)) ggL_law_X3_get
set_option maxRecDepth 20000 in
theorem ggL_law_X4_get : GoodIn wsL_law wsX4_get := goodIn_r _ [135, 103, 45, 105, 106, 5, 107, 483, 484, 485, 486, 487, 488, 489, 490, 491, 492, 493, 494, 495, 496, 497, 498, 499, 500, 501, 502, 503, 504, 505, 506, 507, 508, 509, 510, 511, 512, 513, 514, 515, 516] (by decide +kernel) (by decide +kernel)
set_option maxRecDepth 20000 in
theorem gL_law_X4_get : GoodIn wsL_law (wsV RL 32 RX4 yX4_get wsX4_get) := goodIn_app (goodIn_of _ (by decide +kernel)) ggL_law_X4_get
set_option maxRecDepth 20000 in
theorem ggL_law_X3_next : GoodIn wsL_law wsX3_next := goodIn_r _ [139, 14, 75, 76, 2, 77, 472, 473, 474, 475, 476, 477, 478, 479, 480, 481, 482] (by decide +kernel) (by decide +kernel)
set_option maxRecDepth 20000 in
theorem gL_law_X3_next : GoodIn wsL_law (wsV RL 33 RX3 yX3_next wsX3_next) := goodIn_app (goodIn_of _ (by decide +kernel)) ggL_law_X3_next
set_option maxRecDepth 20000 in
theorem ggL_law_X4_next : GoodIn wsL_law wsX4_next := goodIn_r _ [143, 103, 45, 105, 106, 5, 107, 483, 484, 485, 486, 487, 488, 489, 490, 491, 492, 493, 494, 495, 496, 497, 498, 499, 500, 501, 502, 503, 504, 505, 506, 507, 508, 509, 510, 511, 512, 513, 514, 515, 516] (by decide +kernel) (by decide +kernel)
set_option maxRecDepth 20000 in
theorem gL_law_X4_next : GoodIn wsL_law (wsV RL 36 RX4 yX4_next wsX4_next) := goodIn_app (goodIn_of _ (by decide +kernel)) ggL_law_X4_next
set_option maxRecDepth 20000 in
theorem ggL_law_X3_flush : GoodIn wsL_law wsX3_flush := goodIn_r _ [147, 18, 73, 21, 22, 20, 23, 148, 149, 150, 151, 152, 17, 153, 154, 155, 89, 36, 34, 35, 156, 157, 158, 159, 11, 12, 94, 160, 161, 91, 13, 92, 162, 29, 93, 163, 164, 165, 166, 167, 168, 169, 170, 171, 472, 473, 474, 475, 476, 477, 478, 479, 480, 481, 482, 517, 518, 519, 520, 521, 522, 523, 524, 525, 526, 527] (by decide +kernel) (by decide +kernel)
set_option maxRecDepth 20000 in
theorem gL_law_X3_flush : GoodIn wsL_law (wsV RL 37 RX3 yX3_flush wsX3_flush) := goodIn_app (goodIn_of _ (by decide +kernel)) ggL_law_X3_flush
set_option maxRecDepth 20000 in
theorem ggL_law_X4_flush : GoodIn wsL_law wsX4_flush := goodIn_r _ [175, 103, 104, 176, 53, 52, 177, 45, 178, 50, 179, 180, 181, 5, 182, 51, 54, 108, 109, 110, 111, 49, 183, 184, 185, 186, 55, 56, 57, 47, 48, 483, 484, 485, 486, 487, 488, 489, 490, 491, 492, 493, 494, 495, 496, 497, 498, 499, 500, 501, 502, 503, 504, 505, 506, 507, 508, 509, 510, 511, 512, 513, 514, 515, 516] (by decide +kernel) (by decide +kernel)
set_option maxRecDepth 20000 in
theorem gL_law_X4_flush : GoodIn wsL_law (wsV RL 40 RX4 yX4_flush wsX4_flush) := goodIn_app (goodIn_of _ (by decide +kernel)) ggL_law_X4_flush
set_option maxRecDepth 20000 in
theorem ggL_law_X3_count : GoodIn wsL_law wsX3_count := goodIn_r _ [190, 18, 73, 21, 23, 191, 192, 193, 2, 194, 20, 148, 195, 196, 197, 198, 199, 472, 473, 474, 475, 476, 477, 478, 479, 480, 481, 482, 517, 518, 519, 520, 521, 522, 523, 524, 525, 526, 527] (by decide +kernel) (by decide +kernel)
set_option maxRecDepth 20000 in
theorem gL_law_X3_count : GoodIn wsL_law (wsV RL 41 RX3 yX3_count wsX3_count) := goodIn_app (goodIn_of _ (by decide +kernel)) ggL_law_X3_count
set_option maxRecDepth 20000 in
theorem ggL_law_X4_count : GoodIn wsL_law wsX4_count := goodIn_r _ [203, 103, 45, 104, 176, 178, 204, 205, 206, 5, 207, 50, 54, 208, 209, 210, 211, 57, 483, 484, 485, 486, 487, 488, 489, 490, 491, 492, 493, 494, 495, 496, 497, 498, 499, 500, 501, 502, 503, 504, 505, 506, 507, 508, 509, 510, 511, 512, 513, 514, 515, 516] (by decide +kernel) (by decide +kernel)
set_option maxRecDepth 20000 in
theorem gL_law_X4_count : GoodIn wsL_law (wsV RL 44 RX4 yX4_count wsX4_count) := goodIn_app (goodIn_of _ (by decide +kernel)) ggL_law_X4_count
set_option maxRecDepth 20000 in
theorem ggL_law_X3_segment : GoodIn wsL_law wsX3_segment := goodIn_r _ [215, 20, 149, 216, 148, 199, 25, 217, 218, 219, 2, 220, 21, 221, 222, 223, 224, 225, 226, 227, 472, 473, 474, 475, 476, 477, 478, 479, 480, 481, 482, 520, 521, 522, 523, 524, 525, 526, 527, 528, 529, 530, 531, 532, 533] (by decide +kernel) (by decide +kernel)
set_option maxRecDepth 20000 in
theorem gL_law_X3_segment : GoodIn wsL_law (wsV RL 45 RX3 yX3_segment wsX3_segment) := goodIn_app (goodIn_of _ (by decide +kernel)) ggL_law_X3_segment
set_option maxRecDepth 20000 in
theorem ggL_law_X4_segment : GoodIn wsL_law wsX4_segment := goodIn_r _ [231, 103, 50, 52, 53, 54, 232, 233, 234, 235, 236, 5, 237, 176, 105, 106, 107, 208, 209, 210, 211, 57, 483, 484, 485, 486, 487, 488, 489, 490, 491, 492, 493, 494, 495, 496, 497, 498, 499, 500, 501, 502, 503, 504, 505, 506, 507, 508, 509, 510, 511, 512, 513, 514, 515, 516] (by decide +kernel) (by decide +kernel)
set_option maxRecDepth 20000 in
theorem gL_law_X4_segment : GoodIn wsL_law (wsV RL 48 RX4 yX4_segment wsX4_segment) := goodIn_app (goodIn_of _ (by decide +kernel)) ggL_law_X4_segment
set_option maxRecDepth 20000 in
theorem ggL_law_X3_row : GoodIn wsL_law wsX3_row := goodIn_r _ [241, 20, 242, 243, 244, 217, 218, 219, 2, 220, 21, 245, 246, 247, 89, 248, 91, 472, 473, 474, 475, 476, 477, 478, 479, 480, 481, 482, 520, 521, 522, 523, 524, 525, 526, 527] (by decide +kernel) (by decide +kernel)
set_option maxRecDepth 20000 in
theorem gL_law_X3_row : GoodIn wsL_law (wsV RL 49 RX3 yX3_row wsX3_row) := goodIn_app (goodIn_of _ (by decide +kernel)) ggL_law_X3_row
set_option maxRecDepth 20000 in
theorem ggL_law_X4_row : GoodIn wsL_law wsX4_row := goodIn_r _ [252, 103, 54, 50, 55, 56, 57, 234, 235, 236, 5, 237, 176, 105, 106, 107, 483, 484, 485, 486, 487, 488, 489, 490, 491, 492, 493, 494, 495, 496, 497, 498, 499, 500, 501, 502, 503, 504, 505, 506, 507, 508, 509, 510, 511, 512, 513, 514, 515, 516] (by decide +kernel) (by decide +kernel)
set_option maxRecDepth 20000 in
theorem gL_law_X4_row : GoodIn wsL_law (wsV RL 53 RX4 yX4_row wsX4_row) := goodIn_app (goodIn_of _ (by decide +kernel)) ggL_law_X4_row
set_option maxRecDepth 20000 in
theorem ggL_law_X3_full : GoodIn wsL_law wsX3_full := goodIn_r _ [256, 24, 472, 473, 474, 475, 476, 477, 478, 479, 480, 481, 482] (by decide +kernel) (by decide +kernel)
set_option maxRecDepth 20000 in
theorem gL_law_X3_full : GoodIn wsL_law (wsV RL 54 RX3 yX3_full wsX3_full) := goodIn_app (goodIn_of _ (by decide +kernel)) ggL_law_X3_full
set_option maxRecDepth 20000 in
theorem ggL_law_X4_full : GoodIn wsL_law wsX4_full := goodIn_r _ [260, 103, 58, 105, 106, 5, 107, 483, 484, 485, 486, 487, 488, 489, 490, 491, 492, 493, 494, 495, 496, 497, 498, 499, 500, 501, 502, 503, 504, 505, 506, 507, 508, 509, 510, 511, 512, 513, 514, 515, 516] (by decide +kernel) (by decide +kernel)
set_option maxRecDepth 20000 in
theorem gL_law_X4_full : GoodIn wsL_law (wsV RL 57 RX4 yX4_full wsX4_full) := goodIn_app (goodIn_of _ (by decide +kernel)) ggL_law_X4_full
set_option maxRecDepth 20000 in
theorem ggL_law_X3_due : GoodIn wsL_law wsX3_due := goodIn_r _ [264, 24, 21, 20, 216, 265, 266, 267, 2, 268, 472, 473, 474, 475, 476, 477, 478, 479, 480, 481, 482, 520, 521, 522, 523, 524, 525, 526, 527] (by decide +kernel) (by decide +kernel)
set_option maxRecDepth 20000 in
theorem gL_law_X3_due : GoodIn wsL_law (wsV RL 58 RX3 yX3_due wsX3_due) := goodIn_app (goodIn_of _ (by decide +kernel)) ggL_law_X3_due
set_option maxRecDepth 20000 in
theorem ggL_law_X4_due : GoodIn wsL_law wsX4_due := goodIn_r _ [272, 103, 58, 176, 53, 50, 483, 484, 485, 486, 487, 488, 489, 490, 491, 492, 493, 494, 495, 496, 497, 498, 499, 500, 501, 502, 503, 504, 505, 506, 507, 508, 509, 510, 511, 512, 513, 514, 515, 516] (by decide +kernel) (by decide +kernel)
set_option maxRecDepth 20000 in
theorem gL_law_X4_due : GoodIn wsL_law (wsV RL 61 RX4 yX4_due wsX4_due) := goodIn_app (goodIn_of _ (by decide +kernel)) ggL_law_X4_due
set_option maxRecDepth 20000 in
theorem ggL_law_X3_cheapest : GoodIn wsL_law wsX3_cheapest := goodIn_r _ [276, 21, 277, 278, 2, 279, 195, 196, 197, 198, 20, 199, 472, 473, 474, 475, 476, 477, 478, 479, 480, 481, 482, 520, 521, 522, 523, 524, 525, 526, 527] (by decide +kernel) (by decide +kernel)
set_option maxRecDepth 20000 in
theorem gL_law_X3_cheapest : GoodIn wsL_law (wsV RL 62 RX3 yX3_cheapest wsX3_cheapest) := goodIn_app (goodIn_of _ (by decide +kernel)) ggL_law_X3_cheapest
set_option maxRecDepth 20000 in
theorem ggL_law_X4_cheapest : GoodIn wsL_law wsX4_cheapest := goodIn_r _ [283, 103, 176, 50, 105, 106, 5, 107, 208, 209, 210, 211, 54, 57, 483, 484, 485, 486, 487, 488, 489, 490, 491, 492, 493, 494, 495, 496, 497, 498, 499, 500, 501, 502, 503, 504, 505, 506, 507, 508, 509, 510, 511, 512, 513, 514, 515, 516] (by decide +kernel) (by decide +kernel)
set_option maxRecDepth 20000 in
theorem gL_law_X4_cheapest : GoodIn wsL_law (wsV RL 65 RX4 yX4_cheapest wsX4_cheapest) := goodIn_app (goodIn_of _ (by decide +kernel)) ggL_law_X4_cheapest
set_option maxRecDepth 20000 in
theorem ggL_law_X3_worst : GoodIn wsL_law wsX3_worst := goodIn_r _ [287, 21, 20, 288, 289, 290, 89, 291, 91, 94, 472, 473, 474, 475, 476, 477, 478, 479, 480, 481, 482, 520, 521, 522, 523, 524, 525, 526, 527] (by decide +kernel) (by decide +kernel)
set_option maxRecDepth 20000 in
theorem gL_law_X3_worst : GoodIn wsL_law (wsV RL 66 RX3 yX3_worst wsX3_worst) := goodIn_app (goodIn_of _ (by decide +kernel)) ggL_law_X3_worst
set_option maxRecDepth 20000 in
theorem ggL_law_X4_worst : GoodIn wsL_law wsX4_worst := goodIn_r _ [295, 103, 176, 50, 54, 208, 209, 210, 5, 211, 57, 483, 484, 485, 486, 487, 488, 489, 490, 491, 492, 493, 494, 495, 496, 497, 498, 499, 500, 501, 502, 503, 504, 505, 506, 507, 508, 509, 510, 511, 512, 513, 514, 515, 516] (by decide +kernel) (by decide +kernel)
set_option maxRecDepth 20000 in
theorem gL_law_X4_worst : GoodIn wsL_law (wsV RL 69 RX4 yX4_worst wsX4_worst) := goodIn_app (goodIn_of _ (by decide +kernel)) ggL_law_X4_worst
set_option maxRecDepth 20000 in
theorem ggL_law_X3_begin : GoodIn wsL_law wsX3_begin := goodIn_r _ [299, 25, 300, 301, 224, 20, 302, 217, 218, 219, 2, 220, 21, 277, 278, 279, 303, 304, 305, 306, 11, 12, 307, 308, 309, 226, 310, 227, 13, 311, 312, 472, 473, 474, 475, 476, 477, 478, 479, 480, 481, 482, 528, 529, 530, 531, 532, 533, 520, 521, 522, 523, 524, 525, 526, 527] (by decide +kernel) (by decide +kernel)
set_option maxRecDepth 20000 in
theorem gL_law_X3_begin : GoodIn wsL_law (wsV RL 70 RX3 yX3_begin wsX3_begin) := goodIn_app (goodIn_of _ (by decide +kernel)) ggL_law_X3_begin
set_option maxRecDepth 20000 in
theorem ggL_law_X4_begin : GoodIn wsL_law wsX4_begin := goodIn_r _ [316, 103, 176, 232, 233, 317, 318, 59, 234, 235, 236, 5, 237, 105, 106, 107, 319, 320, 321, 322, 54, 323, 324, 325, 326, 50, 483, 484, 485, 486, 487, 488, 489, 490, 491, 492, 493, 494, 495, 496, 497, 498, 499, 500, 501, 502, 503, 504, 505, 506, 507, 508, 509, 510, 511, 512, 513, 514, 515, 516] (by decide +kernel) (by decide +kernel)
set_option maxRecDepth 20000 in
theorem gL_law_X4_begin : GoodIn wsL_law (wsV RL 73 RX4 yX4_begin wsX4_begin) := goodIn_app (goodIn_of _ (by decide +kernel)) ggL_law_X4_begin
set_option maxRecDepth 20000 in
theorem ggL_law_X3_step : GoodIn wsL_law wsX3_step := goodIn_r _ [330, 25, 302, 331, 332, 333, 224, 334, 227, 311, 335, 336, 308, 307, 309, 337, 338, 339, 340, 312, 341, 342, 343, 344, 2, 345, 346, 20, 347, 22, 348, 23, 26, 349, 350, 351, 352, 310, 155, 89, 353, 354, 355, 356, 357, 358, 359, 360, 361, 362, 363, 157, 158, 159, 11, 12, 94, 160, 161, 91, 13, 92, 162, 29, 93, 163, 364, 169, 170, 171, 365, 366, 367, 368, 21, 472, 473, 474, 475, 476, 477, 478, 479, 480, 481, 482, 528, 529, 530, 531, 532, 533, 520, 521, 522, 523, 524, 525, 526, 527] (by decide +kernel) (by decide +kernel)
set_option maxRecDepth 20000 in
theorem gL_law_X3_step : GoodIn wsL_law (wsV RL 74 RX3 yX3_step wsX3_step) := goodIn_app (goodIn_of _ (by decide +kernel)) ggL_law_X3_step
set_option maxRecDepth 20000 in
theorem ggL_law_X4_step : GoodIn wsL_law wsX4_step := goodIn_r _ [372, 103, 232, 105, 106, 5, 107, 319, 320, 321, 322, 54, 59, 323, 324, 325, 326, 50, 233, 373, 374, 375, 376, 63, 57, 318, 60, 55, 61, 56, 62, 46, 317, 377, 378, 379, 380, 381, 382, 383, 384, 385, 178, 64, 52, 65, 66, 53, 51, 176, 177, 179, 180, 181, 182, 183, 184, 185, 186, 47, 48, 483, 484, 485, 486, 487, 488, 489, 490, 491, 492, 493, 494, 495, 496, 497, 498, 499, 500, 501, 502, 503, 504, 505, 506, 507, 508, 509, 510, 511, 512, 513, 514, 515, 516] (by decide +kernel) (by decide +kernel)
set_option maxRecDepth 20000 in
theorem gL_law_X4_step : GoodIn wsL_law (wsV RL 77 RX4 yX4_step wsX4_step) := goodIn_app (goodIn_of _ (by decide +kernel)) ggL_law_X4_step
set_option maxRecDepth 20000 in
theorem ggL_law_X3_stop : GoodIn wsL_law wsX3_stop := goodIn_r _ [389, 25, 390, 23, 346, 472, 473, 474, 475, 476, 477, 478, 479, 480, 481, 482, 528, 529, 530, 531, 532, 533] (by decide +kernel) (by decide +kernel)
set_option maxRecDepth 20000 in
theorem gL_law_X3_stop : GoodIn wsL_law (wsV RL 78 RX3 yX3_stop wsX3_stop) := goodIn_app (goodIn_of _ (by decide +kernel)) ggL_law_X3_stop
set_option maxRecDepth 20000 in
theorem ggL_law_X4_stop : GoodIn wsL_law wsX4_stop := goodIn_r _ [394, 103, 232, 178, 318, 317, 483, 484, 485, 486, 487, 488, 489, 490, 491, 492, 493, 494, 495, 496, 497, 498, 499, 500, 501, 502, 503, 504, 505, 506, 507, 508, 509, 510, 511, 512, 513, 514, 515, 516] (by decide +kernel) (by decide +kernel)
set_option maxRecDepth 20000 in
theorem gL_law_X4_stop : GoodIn wsL_law (wsV RL 81 RX4 yX4_stop wsX4_stop) := goodIn_app (goodIn_of _ (by decide +kernel)) ggL_law_X4_stop
set_option maxRecDepth 20000 in
theorem ggL_law_X3_merging : GoodIn wsL_law wsX3_merging := goodIn_r _ [398, 25, 390, 346, 302, 347, 472, 473, 474, 475, 476, 477, 478, 479, 480, 481, 482, 528, 529, 530, 531, 532, 533] (by decide +kernel) (by decide +kernel)
set_option maxRecDepth 20000 in
theorem gL_law_X3_merging : GoodIn wsL_law (wsV RL 82 RX3 yX3_merging wsX3_merging) := goodIn_app (goodIn_of _ (by decide +kernel)) ggL_law_X3_merging
set_option maxRecDepth 20000 in
theorem ggL_law_X4_merging : GoodIn wsL_law wsX4_merging := goodIn_r _ [402, 103, 232, 317, 318, 233, 105, 106, 5, 107, 319, 320, 321, 322, 54, 59, 323, 324, 325, 326, 50, 483, 484, 485, 486, 487, 488, 489, 490, 491, 492, 493, 494, 495, 496, 497, 498, 499, 500, 501, 502, 503, 504, 505, 506, 507, 508, 509, 510, 511, 512, 513, 514, 515, 516] (by decide +kernel) (by decide +kernel)
set_option maxRecDepth 20000 in
theorem gL_law_X4_merging : GoodIn wsL_law (wsV RL 85 RX4 yX4_merging wsX4_merging) := goodIn_app (goodIn_of _ (by decide +kernel)) ggL_law_X4_merging
set_option maxRecDepth 20000 in
theorem ggL_law_X3_moved : GoodIn wsL_law wsX3_moved := goodIn_r _ [406, 26, 407, 408, 409, 410, 224, 411, 227, 412, 245, 246, 247, 89, 248, 91, 472, 473, 474, 475, 476, 477, 478, 479, 480, 481, 482, 520, 521, 522, 523, 524, 525, 526, 527, 528, 529, 530, 531, 532, 533] (by decide +kernel) (by decide +kernel)
set_option maxRecDepth 20000 in
theorem gL_law_X3_moved : GoodIn wsL_law (wsV RL 86 RX3 yX3_moved wsX3_moved) := goodIn_app (goodIn_of _ (by decide +kernel)) ggL_law_X3_moved
set_option maxRecDepth 20000 in
theorem ggL_law_X4_moved : GoodIn wsL_law wsX4_moved := goodIn_r _ [416, 103, 385, 64, 65, 66, 105, 106, 5, 107, 483, 484, 485, 486, 487, 488, 489, 490, 491, 492, 493, 494, 495, 496, 497, 498, 499, 500, 501, 502, 503, 504, 505, 506, 507, 508, 509, 510, 511, 512, 513, 514, 515, 516] (by decide +kernel) (by decide +kernel)
set_option maxRecDepth 20000 in
theorem gL_law_X4_moved : GoodIn wsL_law (wsV RL 89 RX4 yX4_moved wsX4_moved) := goodIn_app (goodIn_of _ (by decide +kernel)) ggL_law_X4_moved
set_option maxRecDepth 20000 in
theorem ggL_law_X3_view : GoodIn wsL_law wsX3_view := goodIn_r _ [420, 30, 14, 28, 421, 422, 423, 424, 472, 473, 474, 475, 476, 477, 478, 479, 480, 481, 482] (by decide +kernel) (by decide +kernel)
set_option maxRecDepth 20000 in
theorem gL_law_X3_view : GoodIn wsL_law (wsV RL 90 RX3 yX3_view wsX3_view) := goodIn_app (goodIn_of _ (by decide +kernel)) ggL_law_X3_view
set_option maxRecDepth 20000 in
theorem ggL_law_X4_view : GoodIn wsL_law wsX4_view := goodIn_r _ [428, 103, 67, 68, 45, 483, 484, 485, 486, 487, 488, 489, 490, 491, 492, 493, 494, 495, 496, 497, 498, 499, 500, 501, 502, 503, 504, 505, 506, 507, 508, 509, 510, 511, 512, 513, 514, 515, 516] (by decide +kernel) (by decide +kernel)
set_option maxRecDepth 20000 in
theorem gL_law_X4_view : GoodIn wsL_law (wsV RL 93 RX4 yX4_view wsX4_view) := goodIn_app (goodIn_of _ (by decide +kernel)) ggL_law_X4_view
set_option maxRecDepth 20000 in
theorem ggL_law_X3_seen : GoodIn wsL_law wsX3_seen := goodIn_r _ [432, 28, 433, 434, 435, 2, 436, 30, 75, 76, 77, 472, 473, 474, 475, 476, 477, 478, 479, 480, 481, 482] (by decide +kernel) (by decide +kernel)
set_option maxRecDepth 20000 in
theorem gL_law_X3_seen : GoodIn wsL_law (wsV RL 94 RX3 yX3_seen wsX3_seen) := goodIn_app (goodIn_of _ (by decide +kernel)) ggL_law_X3_seen
set_option maxRecDepth 20000 in
theorem ggL_law_X4_seen : GoodIn wsL_law wsX4_seen := goodIn_r _ [440, 103, 68, 441, 442, 443, 5, 444, 67, 105, 106, 107, 483, 484, 485, 486, 487, 488, 489, 490, 491, 492, 493, 494, 495, 496, 497, 498, 499, 500, 501, 502, 503, 504, 505, 506, 507, 508, 509, 510, 511, 512, 513, 514, 515, 516] (by decide +kernel) (by decide +kernel)
set_option maxRecDepth 20000 in
theorem gL_law_X4_seen : GoodIn wsL_law (wsV RL 97 RX4 yX4_seen wsX4_seen) := goodIn_app (goodIn_of _ (by decide +kernel)) ggL_law_X4_seen
set_option maxRecDepth 20000 in
theorem ggL_law_X3_shut : GoodIn wsL_law wsX3_shut := goodIn_r _ [448, 28, 14, 30, 433, 434, 435, 2, 436, 472, 473, 474, 475, 476, 477, 478, 479, 480, 481, 482] (by decide +kernel) (by decide +kernel)
set_option maxRecDepth 20000 in
theorem gL_law_X3_shut : GoodIn wsL_law (wsV RL 98 RX3 yX3_shut wsX3_shut) := goodIn_app (goodIn_of _ (by decide +kernel)) ggL_law_X3_shut
set_option maxRecDepth 20000 in
theorem ggL_law_X4_shut : GoodIn wsL_law wsX4_shut := goodIn_r _ [452, 103, 67, 68, 45, 441, 442, 443, 5, 444, 105, 106, 107, 483, 484, 485, 486, 487, 488, 489, 490, 491, 492, 493, 494, 495, 496, 497, 498, 499, 500, 501, 502, 503, 504, 505, 506, 507, 508, 509, 510, 511, 512, 513, 514, 515, 516] (by decide +kernel) (by decide +kernel)
set_option maxRecDepth 20000 in
theorem gL_law_X4_shut : GoodIn wsL_law (wsV RL 101 RX4 yX4_shut wsX4_shut) := goodIn_app (goodIn_of _ (by decide +kernel)) ggL_law_X4_shut
set_option maxRecDepth 20000 in
theorem ggL_law_L_share : GoodIn wsL_law wsL_share := goodIn_ca (goodIn_r _ [456, 457, 458, 459, 460, 2, 461, 462, 463, 21, 191, 192, 193, 194, 20, 148, 195, 196, 197, 198, 199, 472, 473, 474, 475, 476, 477, 478, 479, 480, 481, 482, 520, 521, 522, 523, 524, 525, 526, 527] (by decide +kernel) (by decide +kernel)) (goodIn_sub (fun _ h => List.mem_append_right _ h) (by decide +kernel))
set_option maxRecDepth 20000 in
theorem gL_law_L_share : GoodIn wsL_law (va_wsS RL 102 yL_share wsL_share) := goodIn_app (goodIn_of _ (by decide +kernel)) ggL_law_L_share
set_option maxRecDepth 20000 in
theorem ggL_law_X4_share : GoodIn wsL_law wsX4_share := goodIn_r _ [467, 103, 204, 205, 206, 5, 207, 176, 50, 54, 208, 209, 210, 211, 57, 483, 484, 485, 486, 487, 488, 489, 490, 491, 492, 493, 494, 495, 496, 497, 498, 499, 500, 501, 502, 503, 504, 505, 506, 507, 508, 509, 510, 511, 512, 513, 514, 515, 516] (by decide +kernel) (by decide +kernel)
set_option maxRecDepth 20000 in
theorem gL_law_X4_share : GoodIn wsL_law (wsV RL 107 RX4 yX4_share wsX4_share) := goodIn_app (goodIn_of _ (by decide +kernel)) ggL_law_X4_share
set_option maxRecDepth 20000 in
theorem ggL_law_X4_thrown : GoodIn wsL_law wsX4_thrown := goodIn_r _ [471, 103, 483, 484, 485, 486, 487, 488, 489, 490, 491, 492, 493, 494, 495, 496, 497, 498, 499, 500, 501, 502, 503, 504, 505, 506, 507, 508, 509, 510, 511, 512, 513, 514, 515, 516] (by decide +kernel) (by decide +kernel)
set_option maxRecDepth 20000 in
theorem gL_law_X4_thrown : GoodIn wsL_law (wsV RL 108 RX4 yX4_thrown wsX4_thrown) := goodIn_app (goodIn_of _ (by decide +kernel)) ggL_law_X4_thrown
theorem dL_law_0 : decode cL_law 0 = .ok (.new 8, 3) := by decide +kernel
theorem dL_law_3 : decode cL_law 3 = .ok (.dup, 1) := by decide +kernel
theorem dL_law_4 : decode cL_law 4 = .ok (.invokespecial 15, 3) := by decide +kernel
theorem dL_law_7 : decode cL_law 7 = .ok (.astore_n 1, 1) := by decide +kernel
theorem dL_law_8 : decode cL_law 8 = .ok (.new 16, 3) := by decide +kernel
theorem dL_law_11 : decode cL_law 11 = .ok (.dup, 1) := by decide +kernel
theorem dL_law_12 : decode cL_law 12 = .ok (.invokespecial 18, 3) := by decide +kernel
theorem dL_law_15 : decode cL_law 15 = .ok (.astore_n 2, 1) := by decide +kernel
theorem dL_law_16 : decode cL_law 16 = .ok (.iconst 1, 1) := by decide +kernel
theorem dL_law_17 : decode cL_law 17 = .ok (.newarray .long, 2) := by decide +kernel
theorem dL_law_19 : decode cL_law 19 = .ok (.astore_n 3, 1) := by decide +kernel
theorem dL_law_20 : decode cL_law 20 = .ok (.iconst 0, 1) := by decide +kernel
theorem dL_law_21 : decode cL_law 21 = .ok (.istore 4, 2) := by decide +kernel
theorem dL_law_23 : decode cL_law 23 = .ok (.iload 4, 2) := by decide +kernel
theorem dL_law_25 : decode cL_law 25 = .ok (.aload_n 0, 1) := by decide +kernel
theorem dL_law_26 : decode cL_law 26 = .ok (.arraylength, 1) := by decide +kernel
theorem dL_law_27 : decode cL_law 27 = .ok (.iconst 4, 1) := by decide +kernel
theorem dL_law_28 : decode cL_law 28 = .ok (.isub, 1) := by decide +kernel
theorem dL_law_29 : decode cL_law 29 = .ok (.if_icmp .gt 681, 3) := by decide +kernel
theorem dL_law_32 : decode cL_law 32 = .ok (.aload_n 0, 1) := by decide +kernel
theorem dL_law_33 : decode cL_law 33 = .ok (.iload 4, 2) := by decide +kernel
theorem dL_law_35 : decode cL_law 35 = .ok (.iaload, 1) := by decide +kernel
theorem dL_law_36 : decode cL_law 36 = .ok (.bipush 31, 2) := by decide +kernel
theorem dL_law_38 : decode cL_law 38 = .ok (.iand, 1) := by decide +kernel
theorem dL_law_39 : decode cL_law 39 = .ok (.tableswitch 665 0 20 #[97, 134, 159, 184, 209, 222, 247, 284, 333, 358, 371, 396, 409, 446, 471, 484, 509, 546, 559, 596, 621], 97) := by decide +kernel
