theorem dX4_cheapest_7 : decode cX4_cheapest 7 = .ok (.bipush 6, 2) := by decide +kernel
theorem dX4_cheapest_9 : decode cX4_cheapest 9 = .ok (.invokestatic 90, 3) := by decide +kernel
theorem dX4_cheapest_12 : decode cX4_cheapest 12 = .ok (.ifCond .ne 6, 3) := by decide +kernel
theorem dX4_cheapest_15 : decode cX4_cheapest 15 = .ok (.bipush (-2), 2) := by decide +kernel
theorem dX4_cheapest_17 : decode cX4_cheapest 17 = .ok (.ireturn, 1) := by decide +kernel
theorem dX4_cheapest_18 : decode cX4_cheapest 18 = .ok (.bipush (-3), 2) := by decide +kernel
theorem dX4_cheapest_20 : decode cX4_cheapest 20 = .ok (.istore_n 2, 1) := by decide +kernel
theorem dX4_cheapest_21 : decode cX4_cheapest 21 = .ok (.iconst 0, 1) := by decide +kernel
theorem dX4_cheapest_22 : decode cX4_cheapest 22 = .ok (.istore_n 3, 1) := by decide +kernel
theorem dX4_cheapest_23 : decode cX4_cheapest 23 = .ok (.iconst 0, 1) := by decide +kernel
theorem dX4_cheapest_24 : decode cX4_cheapest 24 = .ok (.istore 4, 2) := by decide +kernel
theorem dX4_cheapest_26 : decode cX4_cheapest 26 = .ok (.iload 4, 2) := by decide +kernel
theorem dX4_cheapest_28 : decode cX4_cheapest 28 = .ok (.iload_n 1, 1) := by decide +kernel
theorem dX4_cheapest_29 : decode cX4_cheapest 29 = .ok (.iadd, 1) := by decide +kernel
theorem dX4_cheapest_30 : decode cX4_cheapest 30 = .ok (.aload_n 0, 1) := by decide +kernel
theorem dX4_cheapest_31 : decode cX4_cheapest 31 = .ok (.getfield 102, 3) := by decide +kernel
theorem dX4_cheapest_34 : decode cX4_cheapest 34 = .ok (.if_icmp .gt 62, 3) := by decide +kernel
theorem dX4_cheapest_37 : decode cX4_cheapest 37 = .ok (.iconst 0, 1) := by decide +kernel
theorem dX4_cheapest_38 : decode cX4_cheapest 38 = .ok (.istore 5, 2) := by decide +kernel
theorem dX4_cheapest_40 : decode cX4_cheapest 40 = .ok (.iconst 0, 1) := by decide +kernel
theorem dX4_cheapest_41 : decode cX4_cheapest 41 = .ok (.istore 6, 2) := by decide +kernel
theorem dX4_cheapest_43 : decode cX4_cheapest 43 = .ok (.iload 6, 2) := by decide +kernel
theorem dX4_cheapest_45 : decode cX4_cheapest 45 = .ok (.iload_n 1, 1) := by decide +kernel
theorem dX4_cheapest_46 : decode cX4_cheapest 46 = .ok (.if_icmp .ge 28, 3) := by decide +kernel
theorem dX4_cheapest_49 : decode cX4_cheapest 49 = .ok (.iload 5, 2) := by decide +kernel
theorem dX4_cheapest_51 : decode cX4_cheapest 51 = .ok (.aload_n 0, 1) := by decide +kernel
theorem dX4_cheapest_52 : decode cX4_cheapest 52 = .ok (.aload_n 0, 1) := by decide +kernel
theorem dX4_cheapest_53 : decode cX4_cheapest 53 = .ok (.getfield 25, 3) := by decide +kernel
theorem dX4_cheapest_56 : decode cX4_cheapest 56 = .ok (.iload 4, 2) := by decide +kernel
theorem dX4_cheapest_58 : decode cX4_cheapest 58 = .ok (.iload 6, 2) := by decide +kernel
theorem dX4_cheapest_60 : decode cX4_cheapest 60 = .ok (.iadd, 1) := by decide +kernel
theorem dX4_cheapest_61 : decode cX4_cheapest 61 = .ok (.iaload, 1) := by decide +kernel
theorem dX4_cheapest_62 : decode cX4_cheapest 62 = .ok (.invokevirtual 119, 3) := by decide +kernel
theorem dX4_cheapest_65 : decode cX4_cheapest 65 = .ok (.iadd, 1) := by decide +kernel
theorem dX4_cheapest_66 : decode cX4_cheapest 66 = .ok (.istore 5, 2) := by decide +kernel
theorem dX4_cheapest_68 : decode cX4_cheapest 68 = .ok (.iinc 6 1, 3) := by decide +kernel
theorem dX4_cheapest_71 : decode cX4_cheapest 71 = .ok (.goto (-28), 3) := by decide +kernel
theorem dX4_cheapest_74 : decode cX4_cheapest 74 = .ok (.iload_n 2, 1) := by decide +kernel
theorem dX4_cheapest_75 : decode cX4_cheapest 75 = .ok (.ifCond .lt 9, 3) := by decide +kernel
theorem dX4_cheapest_78 : decode cX4_cheapest 78 = .ok (.iload 5, 2) := by decide +kernel
theorem dX4_cheapest_80 : decode cX4_cheapest 80 = .ok (.iload_n 3, 1) := by decide +kernel
theorem dX4_cheapest_81 : decode cX4_cheapest 81 = .ok (.if_icmp .ge 9, 3) := by decide +kernel
theorem dX4_cheapest_84 : decode cX4_cheapest 84 = .ok (.iload 4, 2) := by decide +kernel
theorem dX4_cheapest_86 : decode cX4_cheapest 86 = .ok (.istore_n 2, 1) := by decide +kernel
theorem dX4_cheapest_87 : decode cX4_cheapest 87 = .ok (.iload 5, 2) := by decide +kernel
theorem dX4_cheapest_89 : decode cX4_cheapest 89 = .ok (.istore_n 3, 1) := by decide +kernel
theorem dX4_cheapest_90 : decode cX4_cheapest 90 = .ok (.iinc 4 1, 3) := by decide +kernel
theorem dX4_cheapest_93 : decode cX4_cheapest 93 = .ok (.goto (-67), 3) := by decide +kernel
theorem dX4_cheapest_96 : decode cX4_cheapest 96 = .ok (.iload_n 2, 1) := by decide +kernel
theorem dX4_cheapest_97 : decode cX4_cheapest 97 = .ok (.ireturn, 1) := by decide +kernel
set_option maxRecDepth 20000 in
theorem ggX4_worst_X4_livingOf : GoodIn wsX4_worst wsX4_livingOf := goodIn_r _ [9, 4, 10, 11, 12, 13, 14, 15, 16, 17, 18, 19, 20, 21, 22, 23, 24, 25, 26, 27, 28, 29, 30, 31, 32, 33, 34, 35, 36, 37, 38, 39, 40, 41, 42, 43, 44] (by decide +kernel) (by decide +kernel)
set_option maxRecDepth 20000 in
theorem gX4_worst_X4_livingOf : GoodIn wsX4_worst (wsV RX4 119 RX4 yX4_livingOf wsX4_livingOf) := goodIn_app (goodIn_of _ (by decide +kernel)) ggX4_worst_X4_livingOf
theorem dX4_worst_0 : decode cX4_worst 0 = .ok (.aload_n 0, 1) := by decide +kernel
theorem dX4_worst_1 : decode cX4_worst 1 = .ok (.iconst 0, 1) := by decide +kernel
theorem dX4_worst_2 : decode cX4_worst 2 = .ok (.putfield 84, 3) := by decide +kernel
theorem dX4_worst_5 : decode cX4_worst 5 = .ok (.bipush (-3), 2) := by decide +kernel
theorem dX4_worst_7 : decode cX4_worst 7 = .ok (.istore_n 1, 1) := by decide +kernel
theorem dX4_worst_8 : decode cX4_worst 8 = .ok (.iconst 0, 1) := by decide +kernel
theorem dX4_worst_9 : decode cX4_worst 9 = .ok (.istore_n 2, 1) := by decide +kernel
theorem dX4_worst_10 : decode cX4_worst 10 = .ok (.iload_n 2, 1) := by decide +kernel
theorem dX4_worst_11 : decode cX4_worst 11 = .ok (.aload_n 0, 1) := by decide +kernel
theorem dX4_worst_12 : decode cX4_worst 12 = .ok (.getfield 102, 3) := by decide +kernel
theorem dX4_worst_15 : decode cX4_worst 15 = .ok (.if_icmp .ge 94, 3) := by decide +kernel
theorem dX4_worst_18 : decode cX4_worst 18 = .ok (.aload_n 0, 1) := by decide +kernel
theorem dX4_worst_19 : decode cX4_worst 19 = .ok (.getfield 25, 3) := by decide +kernel
theorem dX4_worst_22 : decode cX4_worst 22 = .ok (.iload_n 2, 1) := by decide +kernel
theorem dX4_worst_23 : decode cX4_worst 23 = .ok (.iaload, 1) := by decide +kernel
theorem dX4_worst_24 : decode cX4_worst 24 = .ok (.istore_n 3, 1) := by decide +kernel
theorem dX4_worst_25 : decode cX4_worst 25 = .ok (.iload_n 1, 1) := by decide +kernel
theorem dX4_worst_26 : decode cX4_worst 26 = .ok (.ifCond .ge 7, 3) := by decide +kernel
theorem dX4_worst_29 : decode cX4_worst 29 = .ok (.iload_n 3, 1) := by decide +kernel
theorem dX4_worst_30 : decode cX4_worst 30 = .ok (.goto 9, 3) := by decide +kernel
theorem dX4_worst_33 : decode cX4_worst 33 = .ok (.aload_n 0, 1) := by decide +kernel
theorem dX4_worst_34 : decode cX4_worst 34 = .ok (.getfield 25, 3) := by decide +kernel
theorem dX4_worst_37 : decode cX4_worst 37 = .ok (.iload_n 1, 1) := by decide +kernel
theorem dX4_worst_38 : decode cX4_worst 38 = .ok (.iaload, 1) := by decide +kernel
theorem dX4_worst_39 : decode cX4_worst 39 = .ok (.istore 4, 2) := by decide +kernel
theorem dX4_worst_41 : decode cX4_worst 41 = .ok (.aload_n 0, 1) := by decide +kernel
theorem dX4_worst_42 : decode cX4_worst 42 = .ok (.getfield 38, 3) := by decide +kernel
theorem dX4_worst_45 : decode cX4_worst 45 = .ok (.iload_n 3, 1) := by decide +kernel
theorem dX4_worst_46 : decode cX4_worst 46 = .ok (.iaload, 1) := by decide +kernel
theorem dX4_worst_47 : decode cX4_worst 47 = .ok (.aload_n 0, 1) := by decide +kernel
theorem dX4_worst_48 : decode cX4_worst 48 = .ok (.iload_n 3, 1) := by decide +kernel
theorem dX4_worst_49 : decode cX4_worst 49 = .ok (.invokevirtual 119, 3) := by decide +kernel
theorem dX4_worst_52 : decode cX4_worst 52 = .ok (.isub, 1) := by decide +kernel
theorem dX4_worst_53 : decode cX4_worst 53 = .ok (.istore 5, 2) := by decide +kernel
theorem dX4_worst_55 : decode cX4_worst 55 = .ok (.aload_n 0, 1) := by decide +kernel
theorem dX4_worst_56 : decode cX4_worst 56 = .ok (.getfield 38, 3) := by decide +kernel
theorem dX4_worst_59 : decode cX4_worst 59 = .ok (.iload 4, 2) := by decide +kernel
theorem dX4_worst_61 : decode cX4_worst 61 = .ok (.iaload, 1) := by decide +kernel
theorem dX4_worst_62 : decode cX4_worst 62 = .ok (.aload_n 0, 1) := by decide +kernel
theorem dX4_worst_63 : decode cX4_worst 63 = .ok (.iload 4, 2) := by decide +kernel
theorem dX4_worst_65 : decode cX4_worst 65 = .ok (.invokevirtual 119, 3) := by decide +kernel
theorem dX4_worst_68 : decode cX4_worst 68 = .ok (.isub, 1) := by decide +kernel
theorem dX4_worst_69 : decode cX4_worst 69 = .ok (.istore 6, 2) := by decide +kernel
theorem dX4_worst_71 : decode cX4_worst 71 = .ok (.iload_n 1, 1) := by decide +kernel
theorem dX4_worst_72 : decode cX4_worst 72 = .ok (.ifCond .lt 25, 3) := by decide +kernel
theorem dX4_worst_75 : decode cX4_worst 75 = .ok (.iload 5, 2) := by decide +kernel
theorem dX4_worst_77 : decode cX4_worst 77 = .ok (.aload_n 0, 1) := by decide +kernel
theorem dX4_worst_78 : decode cX4_worst 78 = .ok (.getfield 38, 3) := by decide +kernel
theorem dX4_worst_81 : decode cX4_worst 81 = .ok (.iload 4, 2) := by decide +kernel
theorem dX4_worst_83 : decode cX4_worst 83 = .ok (.iaload, 1) := by decide +kernel
theorem dX4_worst_84 : decode cX4_worst 84 = .ok (.imul, 1) := by decide +kernel
theorem dX4_worst_85 : decode cX4_worst 85 = .ok (.iload 6, 2) := by decide +kernel
theorem dX4_worst_87 : decode cX4_worst 87 = .ok (.aload_n 0, 1) := by decide +kernel
theorem dX4_worst_88 : decode cX4_worst 88 = .ok (.getfield 38, 3) := by decide +kernel
theorem dX4_worst_91 : decode cX4_worst 91 = .ok (.iload_n 3, 1) := by decide +kernel
theorem dX4_worst_92 : decode cX4_worst 92 = .ok (.iaload, 1) := by decide +kernel
theorem dX4_worst_93 : decode cX4_worst 93 = .ok (.imul, 1) := by decide +kernel
theorem dX4_worst_94 : decode cX4_worst 94 = .ok (.if_icmp .le 7, 3) := by decide +kernel
theorem dX4_worst_97 : decode cX4_worst 97 = .ok (.iload_n 2, 1) := by decide +kernel
theorem dX4_worst_98 : decode cX4_worst 98 = .ok (.goto 4, 3) := by decide +kernel
theorem dX4_worst_101 : decode cX4_worst 101 = .ok (.iload_n 1, 1) := by decide +kernel
theorem dX4_worst_102 : decode cX4_worst 102 = .ok (.istore_n 1, 1) := by decide +kernel
theorem dX4_worst_103 : decode cX4_worst 103 = .ok (.iinc 2 1, 3) := by decide +kernel
theorem dX4_worst_106 : decode cX4_worst 106 = .ok (.goto (-96), 3) := by decide +kernel
theorem dX4_worst_109 : decode cX4_worst 109 = .ok (.iload_n 1, 1) := by decide +kernel
theorem dX4_worst_110 : decode cX4_worst 110 = .ok (.ireturn, 1) := by decide +kernel
set_option maxRecDepth 20000 in
theorem ggX4_begin_X4_isPlace : GoodIn wsX4_begin wsX4_isPlace := goodIn_r _ [12, 2, 13, 14, 11, 15, 26, 27, 28, 29, 30, 31, 32, 33, 34, 35, 36, 37, 38, 39, 40, 41, 42, 43, 44, 45, 46, 47, 48, 49, 50, 51, 52, 53, 54, 55, 56, 57, 58, 59] (by decide +kernel) (by decide +kernel)
set_option maxRecDepth 20000 in
theorem gX4_begin_X4_isPlace : GoodIn wsX4_begin (wsV RX4 126 RX4 yX4_isPlace wsX4_isPlace) := goodIn_app (goodIn_of _ (by decide +kernel)) ggX4_begin_X4_isPlace
set_option maxRecDepth 20000 in
theorem ggX4_begin_X4_in : GoodIn wsX4_begin wsX4_in := goodIn_r _ [15] (by decide +kernel) (by decide +kernel)
set_option maxRecDepth 20000 in
theorem gX4_begin_X4_in : GoodIn wsX4_begin (va_wsS RX4 90 yX4_in wsX4_in) := goodIn_app (goodIn_of _ (by decide +kernel)) ggX4_begin_X4_in
set_option maxRecDepth 20000 in
theorem ggX4_begin_X4_left : GoodIn wsX4_begin wsX4_left := goodIn_r _ [19, 3, 20, 7, 21, 22, 23, 11, 24, 25, 4, 26, 27, 28, 29, 30, 31, 32, 33, 34, 35, 36, 37, 38, 39, 40, 41, 42, 43, 44, 45, 46, 47, 48, 49, 50, 51, 52, 53, 54, 55, 56, 57, 58, 59] (by decide +kernel) (by decide +kernel)
set_option maxRecDepth 20000 in
theorem gX4_begin_X4_left : GoodIn wsX4_begin (wsV RX4 142 RX4 yX4_left wsX4_left) := goodIn_app (goodIn_of _ (by decide +kernel)) ggX4_begin_X4_left
theorem dX4_begin_0 : decode cX4_begin 0 = .ok (.aload_n 0, 1) := by decide +kernel
theorem dX4_begin_1 : decode cX4_begin 1 = .ok (.iconst 0, 1) := by decide +kernel
theorem dX4_begin_2 : decode cX4_begin 2 = .ok (.putfield 84, 3) := by decide +kernel
theorem dX4_begin_5 : decode cX4_begin 5 = .ok (.aload_n 0, 1) := by decide +kernel
theorem dX4_begin_6 : decode cX4_begin 6 = .ok (.iload_n 1, 1) := by decide +kernel
theorem dX4_begin_7 : decode cX4_begin 7 = .ok (.invokevirtual 126, 3) := by decide +kernel
theorem dX4_begin_10 : decode cX4_begin 10 = .ok (.ifCond .ne 5, 3) := by decide +kernel
theorem dX4_begin_13 : decode cX4_begin 13 = .ok (.iconst (-1), 1) := by decide +kernel
theorem dX4_begin_14 : decode cX4_begin 14 = .ok (.ireturn, 1) := by decide +kernel
theorem dX4_begin_15 : decode cX4_begin 15 = .ok (.iload_n 2, 1) := by decide +kernel
theorem dX4_begin_16 : decode cX4_begin 16 = .ok (.iconst 2, 1) := by decide +kernel
theorem dX4_begin_17 : decode cX4_begin 17 = .ok (.bipush 6, 2) := by decide +kernel
theorem dX4_begin_19 : decode cX4_begin 19 = .ok (.invokestatic 90, 3) := by decide +kernel
theorem dX4_begin_22 : decode cX4_begin 22 = .ok (.ifCond .ne 6, 3) := by decide +kernel
theorem dX4_begin_25 : decode cX4_begin 25 = .ok (.bipush (-2), 2) := by decide +kernel
theorem dX4_begin_27 : decode cX4_begin 27 = .ok (.ireturn, 1) := by decide +kernel
theorem dX4_begin_28 : decode cX4_begin 28 = .ok (.iload_n 1, 1) := by decide +kernel
theorem dX4_begin_29 : decode cX4_begin 29 = .ok (.iload_n 2, 1) := by decide +kernel
theorem dX4_begin_30 : decode cX4_begin 30 = .ok (.iadd, 1) := by decide +kernel
theorem dX4_begin_31 : decode cX4_begin 31 = .ok (.aload_n 0, 1) := by decide +kernel
theorem dX4_begin_32 : decode cX4_begin 32 = .ok (.getfield 102, 3) := by decide +kernel
theorem dX4_begin_35 : decode cX4_begin 35 = .ok (.if_icmp .le 5, 3) := by decide +kernel
theorem dX4_begin_38 : decode cX4_begin 38 = .ok (.iconst (-1), 1) := by decide +kernel
theorem dX4_begin_39 : decode cX4_begin 39 = .ok (.ireturn, 1) := by decide +kernel
theorem dX4_begin_40 : decode cX4_begin 40 = .ok (.aload_n 0, 1) := by decide +kernel
theorem dX4_begin_41 : decode cX4_begin 41 = .ok (.getfield 130, 3) := by decide +kernel
theorem dX4_begin_44 : decode cX4_begin 44 = .ok (.ifCond .le 6, 3) := by decide +kernel
theorem dX4_begin_47 : decode cX4_begin 47 = .ok (.bipush (-3), 2) := by decide +kernel
theorem dX4_begin_49 : decode cX4_begin 49 = .ok (.ireturn, 1) := by decide +kernel
theorem dX4_begin_50 : decode cX4_begin 50 = .ok (.aload_n 0, 1) := by decide +kernel
theorem dX4_begin_51 : decode cX4_begin 51 = .ok (.iload_n 2, 1) := by decide +kernel
theorem dX4_begin_52 : decode cX4_begin 52 = .ok (.putfield 130, 3) := by decide +kernel
theorem dX4_begin_55 : decode cX4_begin 55 = .ok (.aload_n 0, 1) := by decide +kernel
theorem dX4_begin_56 : decode cX4_begin 56 = .ok (.iload_n 1, 1) := by decide +kernel
theorem dX4_begin_57 : decode cX4_begin 57 = .ok (.putfield 133, 3) := by decide +kernel
theorem dX4_begin_60 : decode cX4_begin 60 = .ok (.aload_n 0, 1) := by decide +kernel
theorem dX4_begin_61 : decode cX4_begin 61 = .ok (.iconst 0, 1) := by decide +kernel
theorem dX4_begin_62 : decode cX4_begin 62 = .ok (.putfield 136, 3) := by decide +kernel
theorem dX4_begin_65 : decode cX4_begin 65 = .ok (.aload_n 0, 1) := by decide +kernel
theorem dX4_begin_66 : decode cX4_begin 66 = .ok (.iconst 0, 1) := by decide +kernel
theorem dX4_begin_67 : decode cX4_begin 67 = .ok (.putfield 139, 3) := by decide +kernel
theorem dX4_begin_70 : decode cX4_begin 70 = .ok (.iconst 0, 1) := by decide +kernel
theorem dX4_begin_71 : decode cX4_begin 71 = .ok (.istore_n 3, 1) := by decide +kernel
theorem dX4_begin_72 : decode cX4_begin 72 = .ok (.iload_n 3, 1) := by decide +kernel
theorem dX4_begin_73 : decode cX4_begin 73 = .ok (.iload_n 2, 1) := by decide +kernel
theorem dX4_begin_74 : decode cX4_begin 74 = .ok (.if_icmp .ge 16, 3) := by decide +kernel
theorem dX4_begin_77 : decode cX4_begin 77 = .ok (.aload_n 0, 1) := by decide +kernel
theorem dX4_begin_78 : decode cX4_begin 78 = .ok (.getfield 54, 3) := by decide +kernel
theorem dX4_begin_81 : decode cX4_begin 81 = .ok (.iload_n 3, 1) := by decide +kernel
theorem dX4_begin_82 : decode cX4_begin 82 = .ok (.iconst 0, 1) := by decide +kernel
theorem dX4_begin_83 : decode cX4_begin 83 = .ok (.iastore, 1) := by decide +kernel
theorem dX4_begin_84 : decode cX4_begin 84 = .ok (.iinc 3 1, 3) := by decide +kernel
theorem dX4_begin_87 : decode cX4_begin 87 = .ok (.goto (-15), 3) := by decide +kernel
theorem dX4_begin_90 : decode cX4_begin 90 = .ok (.aload_n 0, 1) := by decide +kernel
theorem dX4_begin_91 : decode cX4_begin 91 = .ok (.invokevirtual 142, 3) := by decide +kernel
theorem dX4_begin_94 : decode cX4_begin 94 = .ok (.ireturn, 1) := by decide +kernel
theorem dX4_slotOf_0 : decode cX4_slotOf 0 = .ok (.aload_n 0, 1) := by decide +kernel
theorem dX4_slotOf_1 : decode cX4_slotOf 1 = .ok (.getfield 25, 3) := by decide +kernel
theorem dX4_slotOf_4 : decode cX4_slotOf 4 = .ok (.aload_n 0, 1) := by decide +kernel
theorem dX4_slotOf_5 : decode cX4_slotOf 5 = .ok (.getfield 133, 3) := by decide +kernel
theorem dX4_slotOf_8 : decode cX4_slotOf 8 = .ok (.iload_n 1, 1) := by decide +kernel
theorem dX4_slotOf_9 : decode cX4_slotOf 9 = .ok (.iadd, 1) := by decide +kernel
theorem dX4_slotOf_10 : decode cX4_slotOf 10 = .ok (.iaload, 1) := by decide +kernel
theorem dX4_slotOf_11 : decode cX4_slotOf 11 = .ok (.ireturn, 1) := by decide +kernel
set_option maxRecDepth 20000 in
theorem ggX4_left_X4_slotOf : GoodIn wsX4_left wsX4_slotOf := goodIn_r _ [8, 9, 10, 11, 12, 13, 14, 15, 16, 17, 18, 19, 20, 21, 22, 23, 24, 25, 26, 27, 28, 29, 30, 31, 32, 33, 34, 35, 36, 37, 38, 39, 40, 41, 42, 43, 44] (by decide +kernel) (by decide +kernel)
set_option maxRecDepth 20000 in
theorem gX4_left_X4_slotOf : GoodIn wsX4_left (wsV RX4 145 RX4 yX4_slotOf wsX4_slotOf) := goodIn_app (goodIn_of _ (by decide +kernel)) ggX4_left_X4_slotOf
theorem dX4_left_0 : decode cX4_left 0 = .ok (.iconst 0, 1) := by decide +kernel
theorem dX4_left_1 : decode cX4_left 1 = .ok (.istore_n 1, 1) := by decide +kernel
theorem dX4_left_2 : decode cX4_left 2 = .ok (.iconst 0, 1) := by decide +kernel
theorem dX4_left_3 : decode cX4_left 3 = .ok (.istore_n 2, 1) := by decide +kernel
theorem dX4_left_4 : decode cX4_left 4 = .ok (.iload_n 2, 1) := by decide +kernel
theorem dX4_left_5 : decode cX4_left 5 = .ok (.aload_n 0, 1) := by decide +kernel
theorem dX4_left_6 : decode cX4_left 6 = .ok (.getfield 130, 3) := by decide +kernel
theorem dX4_left_9 : decode cX4_left 9 = .ok (.if_icmp .ge 29, 3) := by decide +kernel
theorem dX4_left_12 : decode cX4_left 12 = .ok (.iload_n 1, 1) := by decide +kernel
theorem dX4_left_13 : decode cX4_left 13 = .ok (.aload_n 0, 1) := by decide +kernel
theorem dX4_left_14 : decode cX4_left 14 = .ok (.getfield 38, 3) := by decide +kernel
theorem dX4_left_17 : decode cX4_left 17 = .ok (.aload_n 0, 1) := by decide +kernel
theorem dX4_left_18 : decode cX4_left 18 = .ok (.iload_n 2, 1) := by decide +kernel
theorem dX4_left_19 : decode cX4_left 19 = .ok (.invokevirtual 145, 3) := by decide +kernel
theorem dX4_left_22 : decode cX4_left 22 = .ok (.iaload, 1) := by decide +kernel
theorem dX4_left_23 : decode cX4_left 23 = .ok (.aload_n 0, 1) := by decide +kernel
theorem dX4_left_24 : decode cX4_left 24 = .ok (.getfield 54, 3) := by decide +kernel
theorem dX4_left_27 : decode cX4_left 27 = .ok (.iload_n 2, 1) := by decide +kernel
theorem dX4_left_28 : decode cX4_left 28 = .ok (.iaload, 1) := by decide +kernel
theorem dX4_left_29 : decode cX4_left 29 = .ok (.isub, 1) := by decide +kernel
theorem dX4_left_30 : decode cX4_left 30 = .ok (.iadd, 1) := by decide +kernel
theorem dX4_left_31 : decode cX4_left 31 = .ok (.istore_n 1, 1) := by decide +kernel
theorem dX4_left_32 : decode cX4_left 32 = .ok (.iinc 2 1, 3) := by decide +kernel
theorem dX4_left_35 : decode cX4_left 35 = .ok (.goto (-31), 3) := by decide +kernel
theorem dX4_left_38 : decode cX4_left 38 = .ok (.iload_n 1, 1) := by decide +kernel
theorem dX4_left_39 : decode cX4_left 39 = .ok (.ireturn, 1) := by decide +kernel
set_option maxRecDepth 20000 in
theorem ggX4_takeOne_X4_slotOf : GoodIn wsX4_takeOne wsX4_slotOf := goodIn_r _ [18, 19, 20, 25, 26, 27, 28, 29, 30, 31, 32, 33, 34, 35, 36, 37, 38, 39, 40, 41, 42, 43, 44, 45, 46, 47, 48, 49, 50, 51, 52, 53, 54, 55, 56, 57, 58] (by decide +kernel) (by decide +kernel)
set_option maxRecDepth 20000 in
theorem gX4_takeOne_X4_slotOf : GoodIn wsX4_takeOne (wsV RX4 145 RX4 yX4_slotOf wsX4_slotOf) := goodIn_app (goodIn_of _ (by decide +kernel)) ggX4_takeOne_X4_slotOf
set_option maxRecDepth 20000 in
theorem ggX4_takeOne_X4_keyAt : GoodIn wsX4_takeOne wsX4_keyAt := goodIn_r _ [24, 8, 2, 14, 15, 16, 17, 18, 19, 20, 25, 26, 27, 28, 29, 30, 31, 32, 33, 34, 35, 36, 37, 38, 39, 40, 41, 42, 43, 44, 45, 46, 47, 48, 49, 50, 51, 52, 53, 54, 55, 56, 57, 58] (by decide +kernel) (by decide +kernel)
set_option maxRecDepth 20000 in
theorem gX4_takeOne_X4_keyAt : GoodIn wsX4_takeOne (wsV RX4 148 RX4 yX4_keyAt wsX4_keyAt) := goodIn_app (goodIn_of _ (by decide +kernel)) ggX4_takeOne_X4_keyAt
theorem dX4_takeOne_0 : decode cX4_takeOne 0 = .ok (.iconst (-1), 1) := by decide +kernel
theorem dX4_takeOne_1 : decode cX4_takeOne 1 = .ok (.istore_n 1, 1) := by decide +kernel
theorem dX4_takeOne_2 : decode cX4_takeOne 2 = .ok (.iconst 0, 1) := by decide +kernel
theorem dX4_takeOne_3 : decode cX4_takeOne 3 = .ok (.istore_n 2, 1) := by decide +kernel
theorem dX4_takeOne_4 : decode cX4_takeOne 4 = .ok (.iload_n 2, 1) := by decide +kernel
theorem dX4_takeOne_5 : decode cX4_takeOne 5 = .ok (.aload_n 0, 1) := by decide +kernel
theorem dX4_takeOne_6 : decode cX4_takeOne 6 = .ok (.getfield 130, 3) := by decide +kernel
theorem dX4_takeOne_9 : decode cX4_takeOne 9 = .ok (.if_icmp .ge 47, 3) := by decide +kernel
theorem dX4_takeOne_12 : decode cX4_takeOne 12 = .ok (.aload_n 0, 1) := by decide +kernel
theorem dX4_takeOne_13 : decode cX4_takeOne 13 = .ok (.getfield 54, 3) := by decide +kernel
theorem dX4_takeOne_16 : decode cX4_takeOne 16 = .ok (.iload_n 2, 1) := by decide +kernel
theorem dX4_takeOne_17 : decode cX4_takeOne 17 = .ok (.iaload, 1) := by decide +kernel
theorem dX4_takeOne_18 : decode cX4_takeOne 18 = .ok (.aload_n 0, 1) := by decide +kernel
theorem dX4_takeOne_19 : decode cX4_takeOne 19 = .ok (.getfield 38, 3) := by decide +kernel
theorem dX4_takeOne_22 : decode cX4_takeOne 22 = .ok (.aload_n 0, 1) := by decide +kernel
theorem dX4_takeOne_23 : decode cX4_takeOne 23 = .ok (.iload_n 2, 1) := by decide +kernel
theorem dX4_takeOne_24 : decode cX4_takeOne 24 = .ok (.invokevirtual 145, 3) := by decide +kernel
theorem dX4_takeOne_27 : decode cX4_takeOne 27 = .ok (.iaload, 1) := by decide +kernel
theorem dX4_takeOne_28 : decode cX4_takeOne 28 = .ok (.if_icmp .ge 22, 3) := by decide +kernel
theorem dX4_takeOne_31 : decode cX4_takeOne 31 = .ok (.iload_n 1, 1) := by decide +kernel
theorem dX4_takeOne_32 : decode cX4_takeOne 32 = .ok (.ifCond .lt 16, 3) := by decide +kernel
theorem dX4_takeOne_35 : decode cX4_takeOne 35 = .ok (.aload_n 0, 1) := by decide +kernel
theorem dX4_takeOne_36 : decode cX4_takeOne 36 = .ok (.iload_n 2, 1) := by decide +kernel
theorem dX4_takeOne_37 : decode cX4_takeOne 37 = .ok (.invokevirtual 148, 3) := by decide +kernel
theorem dX4_takeOne_40 : decode cX4_takeOne 40 = .ok (.aload_n 0, 1) := by decide +kernel
theorem dX4_takeOne_41 : decode cX4_takeOne 41 = .ok (.iload_n 1, 1) := by decide +kernel
theorem dX4_takeOne_42 : decode cX4_takeOne 42 = .ok (.invokevirtual 148, 3) := by decide +kernel
theorem dX4_takeOne_45 : decode cX4_takeOne 45 = .ok (.if_icmp .ge 5, 3) := by decide +kernel
theorem dX4_takeOne_48 : decode cX4_takeOne 48 = .ok (.iload_n 2, 1) := by decide +kernel
theorem dX4_takeOne_49 : decode cX4_takeOne 49 = .ok (.istore_n 1, 1) := by decide +kernel
theorem dX4_takeOne_50 : decode cX4_takeOne 50 = .ok (.iinc 2 1, 3) := by decide +kernel
theorem dX4_takeOne_53 : decode cX4_takeOne 53 = .ok (.goto (-49), 3) := by decide +kernel
theorem dX4_takeOne_56 : decode cX4_takeOne 56 = .ok (.bipush 100, 2) := by decide +kernel
theorem dX4_takeOne_58 : decode cX4_takeOne 58 = .ok (.aload_n 0, 1) := by decide +kernel
theorem dX4_takeOne_59 : decode cX4_takeOne 59 = .ok (.iload_n 1, 1) := by decide +kernel
theorem dX4_takeOne_60 : decode cX4_takeOne 60 = .ok (.invokevirtual 145, 3) := by decide +kernel
theorem dX4_takeOne_63 : decode cX4_takeOne 63 = .ok (.imul, 1) := by decide +kernel
theorem dX4_takeOne_64 : decode cX4_takeOne 64 = .ok (.aload_n 0, 1) := by decide +kernel
theorem dX4_takeOne_65 : decode cX4_takeOne 65 = .ok (.getfield 54, 3) := by decide +kernel
theorem dX4_takeOne_68 : decode cX4_takeOne 68 = .ok (.iload_n 1, 1) := by decide +kernel
theorem dX4_takeOne_69 : decode cX4_takeOne 69 = .ok (.iaload, 1) := by decide +kernel
theorem dX4_takeOne_70 : decode cX4_takeOne 70 = .ok (.iadd, 1) := by decide +kernel
theorem dX4_takeOne_71 : decode cX4_takeOne 71 = .ok (.istore_n 2, 1) := by decide +kernel
theorem dX4_takeOne_72 : decode cX4_takeOne 72 = .ok (.aload_n 0, 1) := by decide +kernel
theorem dX4_takeOne_73 : decode cX4_takeOne 73 = .ok (.getfield 66, 3) := by decide +kernel
theorem dX4_takeOne_76 : decode cX4_takeOne 76 = .ok (.bipush 100, 2) := by decide +kernel
theorem dX4_takeOne_78 : decode cX4_takeOne 78 = .ok (.iload_n 1, 1) := by decide +kernel
theorem dX4_takeOne_79 : decode cX4_takeOne 79 = .ok (.imul, 1) := by decide +kernel
theorem dX4_takeOne_80 : decode cX4_takeOne 80 = .ok (.aload_n 0, 1) := by decide +kernel
theorem dX4_takeOne_81 : decode cX4_takeOne 81 = .ok (.getfield 54, 3) := by decide +kernel
theorem dX4_takeOne_84 : decode cX4_takeOne 84 = .ok (.iload_n 1, 1) := by decide +kernel
theorem dX4_takeOne_85 : decode cX4_takeOne 85 = .ok (.iaload, 1) := by decide +kernel
theorem dX4_takeOne_86 : decode cX4_takeOne 86 = .ok (.iadd, 1) := by decide +kernel
theorem dX4_takeOne_87 : decode cX4_takeOne 87 = .ok (.iconst (-1), 1) := by decide +kernel
theorem dX4_takeOne_88 : decode cX4_takeOne 88 = .ok (.iastore, 1) := by decide +kernel
theorem dX4_takeOne_89 : decode cX4_takeOne 89 = .ok (.aload_n 0, 1) := by decide +kernel
theorem dX4_takeOne_90 : decode cX4_takeOne 90 = .ok (.getfield 47, 3) := by decide +kernel
theorem dX4_takeOne_93 : decode cX4_takeOne 93 = .ok (.iload_n 2, 1) := by decide +kernel
theorem dX4_takeOne_94 : decode cX4_takeOne 94 = .ok (.baload, 1) := by decide +kernel
theorem dX4_takeOne_95 : decode cX4_takeOne 95 = .ok (.ifCond .eq 83, 3) := by decide +kernel
theorem dX4_takeOne_98 : decode cX4_takeOne 98 = .ok (.aload_n 0, 1) := by decide +kernel
theorem dX4_takeOne_99 : decode cX4_takeOne 99 = .ok (.getfield 66, 3) := by decide +kernel
theorem dX4_takeOne_102 : decode cX4_takeOne 102 = .ok (.bipush 100, 2) := by decide +kernel
theorem dX4_takeOne_104 : decode cX4_takeOne 104 = .ok (.iload_n 1, 1) := by decide +kernel
theorem dX4_takeOne_105 : decode cX4_takeOne 105 = .ok (.imul, 1) := by decide +kernel
theorem dX4_takeOne_106 : decode cX4_takeOne 106 = .ok (.aload_n 0, 1) := by decide +kernel
theorem dX4_takeOne_107 : decode cX4_takeOne 107 = .ok (.getfield 54, 3) := by decide +kernel
theorem dX4_takeOne_110 : decode cX4_takeOne 110 = .ok (.iload_n 1, 1) := by decide +kernel
theorem dX4_takeOne_111 : decode cX4_takeOne 111 = .ok (.iaload, 1) := by decide +kernel
theorem dX4_takeOne_112 : decode cX4_takeOne 112 = .ok (.iadd, 1) := by decide +kernel
theorem dX4_takeOne_113 : decode cX4_takeOne 113 = .ok (.aload_n 0, 1) := by decide +kernel
theorem dX4_takeOne_114 : decode cX4_takeOne 114 = .ok (.getfield 139, 3) := by decide +kernel
theorem dX4_takeOne_117 : decode cX4_takeOne 117 = .ok (.iastore, 1) := by decide +kernel
theorem dX4_takeOne_118 : decode cX4_takeOne 118 = .ok (.aload_n 0, 1) := by decide +kernel
theorem dX4_takeOne_119 : decode cX4_takeOne 119 = .ok (.getfield 57, 3) := by decide +kernel
theorem dX4_takeOne_122 : decode cX4_takeOne 122 = .ok (.aload_n 0, 1) := by decide +kernel
theorem dX4_takeOne_123 : decode cX4_takeOne 123 = .ok (.getfield 139, 3) := by decide +kernel
theorem dX4_takeOne_126 : decode cX4_takeOne 126 = .ok (.aload_n 0, 1) := by decide +kernel
theorem dX4_takeOne_127 : decode cX4_takeOne 127 = .ok (.getfield 41, 3) := by decide +kernel
theorem dX4_takeOne_130 : decode cX4_takeOne 130 = .ok (.iload_n 2, 1) := by decide +kernel
theorem dX4_takeOne_131 : decode cX4_takeOne 131 = .ok (.iaload, 1) := by decide +kernel
theorem dX4_takeOne_132 : decode cX4_takeOne 132 = .ok (.iastore, 1) := by decide +kernel
theorem dX4_takeOne_133 : decode cX4_takeOne 133 = .ok (.aload_n 0, 1) := by decide +kernel
theorem dX4_takeOne_134 : decode cX4_takeOne 134 = .ok (.getfield 60, 3) := by decide +kernel
theorem dX4_takeOne_137 : decode cX4_takeOne 137 = .ok (.aload_n 0, 1) := by decide +kernel
theorem dX4_takeOne_138 : decode cX4_takeOne 138 = .ok (.getfield 139, 3) := by decide +kernel
theorem dX4_takeOne_141 : decode cX4_takeOne 141 = .ok (.aload_n 0, 1) := by decide +kernel
theorem dX4_takeOne_142 : decode cX4_takeOne 142 = .ok (.getfield 44, 3) := by decide +kernel
theorem dX4_takeOne_145 : decode cX4_takeOne 145 = .ok (.iload_n 2, 1) := by decide +kernel
theorem dX4_takeOne_146 : decode cX4_takeOne 146 = .ok (.iaload, 1) := by decide +kernel
theorem dX4_takeOne_147 : decode cX4_takeOne 147 = .ok (.iastore, 1) := by decide +kernel
theorem dX4_takeOne_148 : decode cX4_takeOne 148 = .ok (.aload_n 0, 1) := by decide +kernel
theorem dX4_takeOne_149 : decode cX4_takeOne 149 = .ok (.getfield 63, 3) := by decide +kernel
theorem dX4_takeOne_152 : decode cX4_takeOne 152 = .ok (.aload_n 0, 1) := by decide +kernel
theorem dX4_takeOne_153 : decode cX4_takeOne 153 = .ok (.getfield 139, 3) := by decide +kernel
theorem dX4_takeOne_156 : decode cX4_takeOne 156 = .ok (.aload_n 0, 1) := by decide +kernel
theorem dX4_takeOne_157 : decode cX4_takeOne 157 = .ok (.getfield 13, 3) := by decide +kernel
theorem dX4_takeOne_160 : decode cX4_takeOne 160 = .ok (.aload_n 0, 1) := by decide +kernel
theorem dX4_takeOne_161 : decode cX4_takeOne 161 = .ok (.getfield 41, 3) := by decide +kernel
theorem dX4_takeOne_164 : decode cX4_takeOne 164 = .ok (.iload_n 2, 1) := by decide +kernel
theorem dX4_takeOne_165 : decode cX4_takeOne 165 = .ok (.iaload, 1) := by decide +kernel
theorem dX4_takeOne_166 : decode cX4_takeOne 166 = .ok (.iaload, 1) := by decide +kernel
theorem dX4_takeOne_167 : decode cX4_takeOne 167 = .ok (.iastore, 1) := by decide +kernel
theorem dX4_takeOne_168 : decode cX4_takeOne 168 = .ok (.aload_n 0, 1) := by decide +kernel
theorem dX4_takeOne_169 : decode cX4_takeOne 169 = .ok (.dup, 1) := by decide +kernel
theorem dX4_takeOne_170 : decode cX4_takeOne 170 = .ok (.getfield 139, 3) := by decide +kernel
theorem dX4_takeOne_173 : decode cX4_takeOne 173 = .ok (.iconst 1, 1) := by decide +kernel
theorem dX4_takeOne_174 : decode cX4_takeOne 174 = .ok (.iadd, 1) := by decide +kernel
theorem dX4_takeOne_175 : decode cX4_takeOne 175 = .ok (.putfield 139, 3) := by decide +kernel
theorem dX4_takeOne_178 : decode cX4_takeOne 178 = .ok (.aload_n 0, 1) := by decide +kernel
theorem dX4_takeOne_179 : decode cX4_takeOne 179 = .ok (.getfield 54, 3) := by decide +kernel
theorem dX4_takeOne_182 : decode cX4_takeOne 182 = .ok (.iload_n 1, 1) := by decide +kernel
theorem dX4_takeOne_183 : decode cX4_takeOne 183 = .ok (.dup2, 1) := by decide +kernel
theorem dX4_takeOne_184 : decode cX4_takeOne 184 = .ok (.iaload, 1) := by decide +kernel
theorem dX4_takeOne_185 : decode cX4_takeOne 185 = .ok (.iconst 1, 1) := by decide +kernel
theorem dX4_takeOne_186 : decode cX4_takeOne 186 = .ok (.iadd, 1) := by decide +kernel
theorem dX4_takeOne_187 : decode cX4_takeOne 187 = .ok (.iastore, 1) := by decide +kernel
theorem dX4_takeOne_188 : decode cX4_takeOne 188 = .ok (.aload_n 0, 1) := by decide +kernel
theorem dX4_takeOne_189 : decode cX4_takeOne 189 = .ok (.dup, 1) := by decide +kernel
theorem dX4_takeOne_190 : decode cX4_takeOne 190 = .ok (.getfield 136, 3) := by decide +kernel
theorem dX4_takeOne_193 : decode cX4_takeOne 193 = .ok (.iconst 1, 1) := by decide +kernel
theorem dX4_takeOne_194 : decode cX4_takeOne 194 = .ok (.iadd, 1) := by decide +kernel
theorem dX4_takeOne_195 : decode cX4_takeOne 195 = .ok (.putfield 136, 3) := by decide +kernel
theorem dX4_takeOne_198 : decode cX4_takeOne 198 = .ok (.return_, 1) := by decide +kernel
set_option maxRecDepth 20000 in
theorem ggX4_keyAt_X4_slotOf : GoodIn wsX4_keyAt wsX4_slotOf := goodIn_r _ [7, 8, 9, 10, 11, 12, 13, 14, 15, 16, 17, 18, 19, 20, 21, 22, 23, 24, 25, 26, 27, 28, 29, 30, 31, 32, 33, 34, 35, 36, 37, 38, 39, 40, 41, 42, 43] (by decide +kernel) (by decide +kernel)
set_option maxRecDepth 20000 in
theorem gX4_keyAt_X4_slotOf : GoodIn wsX4_keyAt (wsV RX4 145 RX4 yX4_slotOf wsX4_slotOf) := goodIn_app (goodIn_of _ (by decide +kernel)) ggX4_keyAt_X4_slotOf
theorem dX4_keyAt_0 : decode cX4_keyAt 0 = .ok (.aload_n 0, 1) := by decide +kernel
theorem dX4_keyAt_1 : decode cX4_keyAt 1 = .ok (.getfield 41, 3) := by decide +kernel
theorem dX4_keyAt_4 : decode cX4_keyAt 4 = .ok (.bipush 100, 2) := by decide +kernel
theorem dX4_keyAt_6 : decode cX4_keyAt 6 = .ok (.aload_n 0, 1) := by decide +kernel
