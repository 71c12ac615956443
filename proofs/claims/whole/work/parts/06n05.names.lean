theorem dX4_put_0 : decode cX4_put 0 = .ok (.aload_n 0, 1) := by decide +kernel
theorem dX4_put_1 : decode cX4_put 1 = .ok (.iconst 0, 1) := by decide +kernel
theorem dX4_put_2 : decode cX4_put 2 = .ok (.putfield 84, 3) := by decide +kernel
theorem dX4_put_5 : decode cX4_put 5 = .ok (.iload_n 1, 1) := by decide +kernel
theorem dX4_put_6 : decode cX4_put 6 = .ok (.iconst 0, 1) := by decide +kernel
theorem dX4_put_7 : decode cX4_put 7 = .ok (.bipush 99, 2) := by decide +kernel
theorem dX4_put_9 : decode cX4_put 9 = .ok (.invokestatic 90, 3) := by decide +kernel
theorem dX4_put_12 : decode cX4_put 12 = .ok (.ifCond .ne 5, 3) := by decide +kernel
theorem dX4_put_15 : decode cX4_put 15 = .ok (.iconst (-1), 1) := by decide +kernel
theorem dX4_put_16 : decode cX4_put 16 = .ok (.ireturn, 1) := by decide +kernel
theorem dX4_put_17 : decode cX4_put 17 = .ok (.iload_n 2, 1) := by decide +kernel
theorem dX4_put_18 : decode cX4_put 18 = .ok (.iconst 0, 1) := by decide +kernel
theorem dX4_put_19 : decode cX4_put 19 = .ok (.sipush 999, 3) := by decide +kernel
theorem dX4_put_22 : decode cX4_put 22 = .ok (.invokestatic 90, 3) := by decide +kernel
theorem dX4_put_25 : decode cX4_put 25 = .ok (.ifCond .ne 6, 3) := by decide +kernel
theorem dX4_put_28 : decode cX4_put 28 = .ok (.bipush (-2), 2) := by decide +kernel
theorem dX4_put_30 : decode cX4_put 30 = .ok (.ireturn, 1) := by decide +kernel
theorem dX4_put_31 : decode cX4_put 31 = .ok (.aload_n 0, 1) := by decide +kernel
theorem dX4_put_32 : decode cX4_put 32 = .ok (.iload_n 1, 1) := by decide +kernel
theorem dX4_put_33 : decode cX4_put 33 = .ok (.invokevirtual 94, 3) := by decide +kernel
theorem dX4_put_36 : decode cX4_put 36 = .ok (.ifCond .ge 35, 3) := by decide +kernel
theorem dX4_put_39 : decode cX4_put 39 = .ok (.aload_n 0, 1) := by decide +kernel
theorem dX4_put_40 : decode cX4_put 40 = .ok (.getfield 87, 3) := by decide +kernel
theorem dX4_put_43 : decode cX4_put 43 = .ok (.bipush 6, 2) := by decide +kernel
theorem dX4_put_45 : decode cX4_put 45 = .ok (.if_icmp .ne 6, 3) := by decide +kernel
theorem dX4_put_48 : decode cX4_put 48 = .ok (.bipush (-4), 2) := by decide +kernel
theorem dX4_put_50 : decode cX4_put 50 = .ok (.ireturn, 1) := by decide +kernel
theorem dX4_put_51 : decode cX4_put 51 = .ok (.aload_n 0, 1) := by decide +kernel
theorem dX4_put_52 : decode cX4_put 52 = .ok (.getfield 22, 3) := by decide +kernel
theorem dX4_put_55 : decode cX4_put 55 = .ok (.aload_n 0, 1) := by decide +kernel
theorem dX4_put_56 : decode cX4_put 56 = .ok (.getfield 87, 3) := by decide +kernel
theorem dX4_put_59 : decode cX4_put 59 = .ok (.iload_n 1, 1) := by decide +kernel
theorem dX4_put_60 : decode cX4_put 60 = .ok (.iastore, 1) := by decide +kernel
theorem dX4_put_61 : decode cX4_put 61 = .ok (.aload_n 0, 1) := by decide +kernel
theorem dX4_put_62 : decode cX4_put 62 = .ok (.dup, 1) := by decide +kernel
theorem dX4_put_63 : decode cX4_put 63 = .ok (.getfield 87, 3) := by decide +kernel
theorem dX4_put_66 : decode cX4_put 66 = .ok (.iconst 1, 1) := by decide +kernel
theorem dX4_put_67 : decode cX4_put 67 = .ok (.iadd, 1) := by decide +kernel
theorem dX4_put_68 : decode cX4_put 68 = .ok (.putfield 87, 3) := by decide +kernel
theorem dX4_put_71 : decode cX4_put 71 = .ok (.aload_n 0, 1) := by decide +kernel
theorem dX4_put_72 : decode cX4_put 72 = .ok (.iload_n 1, 1) := by decide +kernel
theorem dX4_put_73 : decode cX4_put 73 = .ok (.invokevirtual 98, 3) := by decide +kernel
theorem dX4_put_76 : decode cX4_put 76 = .ok (.aload_n 0, 1) := by decide +kernel
theorem dX4_put_77 : decode cX4_put 77 = .ok (.getfield 7, 3) := by decide +kernel
theorem dX4_put_80 : decode cX4_put 80 = .ok (.iload_n 1, 1) := by decide +kernel
theorem dX4_put_81 : decode cX4_put 81 = .ok (.iload_n 2, 1) := by decide +kernel
theorem dX4_put_82 : decode cX4_put 82 = .ok (.iastore, 1) := by decide +kernel
theorem dX4_put_83 : decode cX4_put 83 = .ok (.aload_n 0, 1) := by decide +kernel
theorem dX4_put_84 : decode cX4_put 84 = .ok (.getfield 13, 3) := by decide +kernel
theorem dX4_put_87 : decode cX4_put 87 = .ok (.iload_n 1, 1) := by decide +kernel
theorem dX4_put_88 : decode cX4_put 88 = .ok (.dup2, 1) := by decide +kernel
theorem dX4_put_89 : decode cX4_put 89 = .ok (.iaload, 1) := by decide +kernel
theorem dX4_put_90 : decode cX4_put 90 = .ok (.iconst 1, 1) := by decide +kernel
theorem dX4_put_91 : decode cX4_put 91 = .ok (.iadd, 1) := by decide +kernel
theorem dX4_put_92 : decode cX4_put 92 = .ok (.iastore, 1) := by decide +kernel
theorem dX4_put_93 : decode cX4_put 93 = .ok (.aload_n 0, 1) := by decide +kernel
theorem dX4_put_94 : decode cX4_put 94 = .ok (.getfield 87, 3) := by decide +kernel
theorem dX4_put_97 : decode cX4_put 97 = .ok (.ireturn, 1) := by decide +kernel
set_option maxRecDepth 20000 in
theorem ggX4_drop_X4_in : GoodIn wsX4_drop wsX4_in := goodIn_r _ [9] (by decide +kernel) (by decide +kernel)
set_option maxRecDepth 20000 in
theorem gX4_drop_X4_in : GoodIn wsX4_drop (va_wsS RX4 90 yX4_in wsX4_in) := goodIn_app (goodIn_of _ (by decide +kernel)) ggX4_drop_X4_in
set_option maxRecDepth 20000 in
theorem ggX4_drop_X4_memoryAt : GoodIn wsX4_drop wsX4_memoryAt := goodIn_r _ [13, 3, 4, 21, 22, 23, 24, 25, 26, 27, 28, 29, 30, 31, 32, 33, 34, 35, 36, 37, 38, 39, 40, 41, 42, 43, 44, 45, 46, 47, 48, 49, 50, 51, 52, 53, 54] (by decide +kernel) (by decide +kernel)
set_option maxRecDepth 20000 in
theorem gX4_drop_X4_memoryAt : GoodIn wsX4_drop (wsV RX4 94 RX4 yX4_memoryAt wsX4_memoryAt) := goodIn_app (goodIn_of _ (by decide +kernel)) ggX4_drop_X4_memoryAt
set_option maxRecDepth 20000 in
theorem ggX4_drop_X4_die : GoodIn wsX4_drop wsX4_die := goodIn_r _ [17, 18, 19, 20, 21, 22, 23, 24, 25, 26, 27, 28, 29, 30, 31, 32, 33, 34, 35, 36, 37, 38, 39, 40, 41, 42, 43, 44, 45, 46, 47, 48, 49, 50, 51, 52, 53, 54] (by decide +kernel) (by decide +kernel)
set_option maxRecDepth 20000 in
theorem gX4_drop_X4_die : GoodIn wsX4_drop (wsV RX4 98 RX4 yX4_die wsX4_die) := goodIn_app (goodIn_of _ (by decide +kernel)) ggX4_drop_X4_die
theorem dX4_drop_0 : decode cX4_drop 0 = .ok (.aload_n 0, 1) := by decide +kernel
theorem dX4_drop_1 : decode cX4_drop 1 = .ok (.iconst 0, 1) := by decide +kernel
theorem dX4_drop_2 : decode cX4_drop 2 = .ok (.putfield 84, 3) := by decide +kernel
theorem dX4_drop_5 : decode cX4_drop 5 = .ok (.iload_n 1, 1) := by decide +kernel
theorem dX4_drop_6 : decode cX4_drop 6 = .ok (.iconst 0, 1) := by decide +kernel
theorem dX4_drop_7 : decode cX4_drop 7 = .ok (.bipush 99, 2) := by decide +kernel
theorem dX4_drop_9 : decode cX4_drop 9 = .ok (.invokestatic 90, 3) := by decide +kernel
theorem dX4_drop_12 : decode cX4_drop 12 = .ok (.ifCond .ne 5, 3) := by decide +kernel
theorem dX4_drop_15 : decode cX4_drop 15 = .ok (.iconst (-1), 1) := by decide +kernel
theorem dX4_drop_16 : decode cX4_drop 16 = .ok (.ireturn, 1) := by decide +kernel
theorem dX4_drop_17 : decode cX4_drop 17 = .ok (.aload_n 0, 1) := by decide +kernel
theorem dX4_drop_18 : decode cX4_drop 18 = .ok (.getfield 7, 3) := by decide +kernel
theorem dX4_drop_21 : decode cX4_drop 21 = .ok (.iload_n 1, 1) := by decide +kernel
theorem dX4_drop_22 : decode cX4_drop 22 = .ok (.iaload, 1) := by decide +kernel
theorem dX4_drop_23 : decode cX4_drop 23 = .ok (.ifCond .ge 5, 3) := by decide +kernel
theorem dX4_drop_26 : decode cX4_drop 26 = .ok (.iconst 0, 1) := by decide +kernel
theorem dX4_drop_27 : decode cX4_drop 27 = .ok (.ireturn, 1) := by decide +kernel
theorem dX4_drop_28 : decode cX4_drop 28 = .ok (.aload_n 0, 1) := by decide +kernel
theorem dX4_drop_29 : decode cX4_drop 29 = .ok (.iload_n 1, 1) := by decide +kernel
theorem dX4_drop_30 : decode cX4_drop 30 = .ok (.invokevirtual 94, 3) := by decide +kernel
theorem dX4_drop_33 : decode cX4_drop 33 = .ok (.istore_n 2, 1) := by decide +kernel
theorem dX4_drop_34 : decode cX4_drop 34 = .ok (.iload_n 2, 1) := by decide +kernel
theorem dX4_drop_35 : decode cX4_drop 35 = .ok (.ifCond .lt 43, 3) := by decide +kernel
theorem dX4_drop_38 : decode cX4_drop 38 = .ok (.aload_n 0, 1) := by decide +kernel
theorem dX4_drop_39 : decode cX4_drop 39 = .ok (.dup, 1) := by decide +kernel
theorem dX4_drop_40 : decode cX4_drop 40 = .ok (.getfield 87, 3) := by decide +kernel
theorem dX4_drop_43 : decode cX4_drop 43 = .ok (.iconst 1, 1) := by decide +kernel
theorem dX4_drop_44 : decode cX4_drop 44 = .ok (.isub, 1) := by decide +kernel
theorem dX4_drop_45 : decode cX4_drop 45 = .ok (.putfield 87, 3) := by decide +kernel
theorem dX4_drop_48 : decode cX4_drop 48 = .ok (.iload_n 2, 1) := by decide +kernel
theorem dX4_drop_49 : decode cX4_drop 49 = .ok (.istore_n 3, 1) := by decide +kernel
theorem dX4_drop_50 : decode cX4_drop 50 = .ok (.iload_n 3, 1) := by decide +kernel
theorem dX4_drop_51 : decode cX4_drop 51 = .ok (.aload_n 0, 1) := by decide +kernel
theorem dX4_drop_52 : decode cX4_drop 52 = .ok (.getfield 87, 3) := by decide +kernel
theorem dX4_drop_55 : decode cX4_drop 55 = .ok (.if_icmp .ge 23, 3) := by decide +kernel
theorem dX4_drop_58 : decode cX4_drop 58 = .ok (.aload_n 0, 1) := by decide +kernel
theorem dX4_drop_59 : decode cX4_drop 59 = .ok (.getfield 22, 3) := by decide +kernel
theorem dX4_drop_62 : decode cX4_drop 62 = .ok (.iload_n 3, 1) := by decide +kernel
theorem dX4_drop_63 : decode cX4_drop 63 = .ok (.aload_n 0, 1) := by decide +kernel
theorem dX4_drop_64 : decode cX4_drop 64 = .ok (.getfield 22, 3) := by decide +kernel
theorem dX4_drop_67 : decode cX4_drop 67 = .ok (.iload_n 3, 1) := by decide +kernel
theorem dX4_drop_68 : decode cX4_drop 68 = .ok (.iconst 1, 1) := by decide +kernel
theorem dX4_drop_69 : decode cX4_drop 69 = .ok (.iadd, 1) := by decide +kernel
theorem dX4_drop_70 : decode cX4_drop 70 = .ok (.iaload, 1) := by decide +kernel
theorem dX4_drop_71 : decode cX4_drop 71 = .ok (.iastore, 1) := by decide +kernel
theorem dX4_drop_72 : decode cX4_drop 72 = .ok (.iinc 3 1, 3) := by decide +kernel
theorem dX4_drop_75 : decode cX4_drop 75 = .ok (.goto (-25), 3) := by decide +kernel
theorem dX4_drop_78 : decode cX4_drop 78 = .ok (.aload_n 0, 1) := by decide +kernel
theorem dX4_drop_79 : decode cX4_drop 79 = .ok (.iload_n 1, 1) := by decide +kernel
theorem dX4_drop_80 : decode cX4_drop 80 = .ok (.invokevirtual 98, 3) := by decide +kernel
theorem dX4_drop_83 : decode cX4_drop 83 = .ok (.aload_n 0, 1) := by decide +kernel
theorem dX4_drop_84 : decode cX4_drop 84 = .ok (.getfield 7, 3) := by decide +kernel
theorem dX4_drop_87 : decode cX4_drop 87 = .ok (.iload_n 1, 1) := by decide +kernel
theorem dX4_drop_88 : decode cX4_drop 88 = .ok (.iconst (-1), 1) := by decide +kernel
theorem dX4_drop_89 : decode cX4_drop 89 = .ok (.iastore, 1) := by decide +kernel
theorem dX4_drop_90 : decode cX4_drop 90 = .ok (.aload_n 0, 1) := by decide +kernel
theorem dX4_drop_91 : decode cX4_drop 91 = .ok (.getfield 13, 3) := by decide +kernel
theorem dX4_drop_94 : decode cX4_drop 94 = .ok (.iload_n 1, 1) := by decide +kernel
theorem dX4_drop_95 : decode cX4_drop 95 = .ok (.dup2, 1) := by decide +kernel
theorem dX4_drop_96 : decode cX4_drop 96 = .ok (.iaload, 1) := by decide +kernel
theorem dX4_drop_97 : decode cX4_drop 97 = .ok (.iconst 1, 1) := by decide +kernel
theorem dX4_drop_98 : decode cX4_drop 98 = .ok (.iadd, 1) := by decide +kernel
theorem dX4_drop_99 : decode cX4_drop 99 = .ok (.iastore, 1) := by decide +kernel
theorem dX4_drop_100 : decode cX4_drop 100 = .ok (.iconst 1, 1) := by decide +kernel
theorem dX4_drop_101 : decode cX4_drop 101 = .ok (.ireturn, 1) := by decide +kernel
set_option maxRecDepth 20000 in
theorem ggX4_get_X4_in : GoodIn wsX4_get wsX4_in := goodIn_r _ [6] (by decide +kernel) (by decide +kernel)
set_option maxRecDepth 20000 in
theorem gX4_get_X4_in : GoodIn wsX4_get (va_wsS RX4 90 yX4_in wsX4_in) := goodIn_app (goodIn_of _ (by decide +kernel)) ggX4_get_X4_in
theorem dX4_get_0 : decode cX4_get 0 = .ok (.aload_n 0, 1) := by decide +kernel
theorem dX4_get_1 : decode cX4_get 1 = .ok (.iconst 0, 1) := by decide +kernel
theorem dX4_get_2 : decode cX4_get 2 = .ok (.putfield 84, 3) := by decide +kernel
theorem dX4_get_5 : decode cX4_get 5 = .ok (.iload_n 1, 1) := by decide +kernel
theorem dX4_get_6 : decode cX4_get 6 = .ok (.iconst 0, 1) := by decide +kernel
theorem dX4_get_7 : decode cX4_get 7 = .ok (.bipush 99, 2) := by decide +kernel
theorem dX4_get_9 : decode cX4_get 9 = .ok (.invokestatic 90, 3) := by decide +kernel
theorem dX4_get_12 : decode cX4_get 12 = .ok (.ifCond .ne 7, 3) := by decide +kernel
theorem dX4_get_15 : decode cX4_get 15 = .ok (.iconst (-1), 1) := by decide +kernel
theorem dX4_get_16 : decode cX4_get 16 = .ok (.goto 23, 3) := by decide +kernel
theorem dX4_get_19 : decode cX4_get 19 = .ok (.aload_n 0, 1) := by decide +kernel
theorem dX4_get_20 : decode cX4_get 20 = .ok (.getfield 7, 3) := by decide +kernel
theorem dX4_get_23 : decode cX4_get 23 = .ok (.iload_n 1, 1) := by decide +kernel
theorem dX4_get_24 : decode cX4_get 24 = .ok (.iaload, 1) := by decide +kernel
theorem dX4_get_25 : decode cX4_get 25 = .ok (.ifCond .ge 8, 3) := by decide +kernel
theorem dX4_get_28 : decode cX4_get 28 = .ok (.bipush (-3), 2) := by decide +kernel
theorem dX4_get_30 : decode cX4_get 30 = .ok (.goto 9, 3) := by decide +kernel
theorem dX4_get_33 : decode cX4_get 33 = .ok (.aload_n 0, 1) := by decide +kernel
theorem dX4_get_34 : decode cX4_get 34 = .ok (.getfield 7, 3) := by decide +kernel
theorem dX4_get_37 : decode cX4_get 37 = .ok (.iload_n 1, 1) := by decide +kernel
theorem dX4_get_38 : decode cX4_get 38 = .ok (.iaload, 1) := by decide +kernel
theorem dX4_get_39 : decode cX4_get 39 = .ok (.ireturn, 1) := by decide +kernel
set_option maxRecDepth 20000 in
theorem ggX4_next_X4_in : GoodIn wsX4_next wsX4_in := goodIn_r _ [6] (by decide +kernel) (by decide +kernel)
set_option maxRecDepth 20000 in
theorem gX4_next_X4_in : GoodIn wsX4_next (va_wsS RX4 90 yX4_in wsX4_in) := goodIn_app (goodIn_of _ (by decide +kernel)) ggX4_next_X4_in
theorem dX4_next_0 : decode cX4_next 0 = .ok (.aload_n 0, 1) := by decide +kernel
theorem dX4_next_1 : decode cX4_next 1 = .ok (.iconst 0, 1) := by decide +kernel
theorem dX4_next_2 : decode cX4_next 2 = .ok (.putfield 84, 3) := by decide +kernel
theorem dX4_next_5 : decode cX4_next 5 = .ok (.iload_n 1, 1) := by decide +kernel
theorem dX4_next_6 : decode cX4_next 6 = .ok (.iconst 0, 1) := by decide +kernel
theorem dX4_next_7 : decode cX4_next 7 = .ok (.bipush 99, 2) := by decide +kernel
theorem dX4_next_9 : decode cX4_next 9 = .ok (.invokestatic 90, 3) := by decide +kernel
theorem dX4_next_12 : decode cX4_next 12 = .ok (.ifCond .ne 5, 3) := by decide +kernel
theorem dX4_next_15 : decode cX4_next 15 = .ok (.iconst (-1), 1) := by decide +kernel
theorem dX4_next_16 : decode cX4_next 16 = .ok (.ireturn, 1) := by decide +kernel
theorem dX4_next_17 : decode cX4_next 17 = .ok (.iload_n 1, 1) := by decide +kernel
theorem dX4_next_18 : decode cX4_next 18 = .ok (.istore_n 2, 1) := by decide +kernel
theorem dX4_next_19 : decode cX4_next 19 = .ok (.iload_n 2, 1) := by decide +kernel
theorem dX4_next_20 : decode cX4_next 20 = .ok (.bipush 100, 2) := by decide +kernel
theorem dX4_next_22 : decode cX4_next 22 = .ok (.if_icmp .ge 20, 3) := by decide +kernel
theorem dX4_next_25 : decode cX4_next 25 = .ok (.aload_n 0, 1) := by decide +kernel
theorem dX4_next_26 : decode cX4_next 26 = .ok (.getfield 7, 3) := by decide +kernel
theorem dX4_next_29 : decode cX4_next 29 = .ok (.iload_n 2, 1) := by decide +kernel
theorem dX4_next_30 : decode cX4_next 30 = .ok (.iaload, 1) := by decide +kernel
theorem dX4_next_31 : decode cX4_next 31 = .ok (.ifCond .lt 5, 3) := by decide +kernel
theorem dX4_next_34 : decode cX4_next 34 = .ok (.iload_n 2, 1) := by decide +kernel
theorem dX4_next_35 : decode cX4_next 35 = .ok (.ireturn, 1) := by decide +kernel
theorem dX4_next_36 : decode cX4_next 36 = .ok (.iinc 2 1, 3) := by decide +kernel
theorem dX4_next_39 : decode cX4_next 39 = .ok (.goto (-20), 3) := by decide +kernel
theorem dX4_next_42 : decode cX4_next 42 = .ok (.bipush (-3), 2) := by decide +kernel
theorem dX4_next_44 : decode cX4_next 44 = .ok (.ireturn, 1) := by decide +kernel
theorem dX4_freeSlot_0 : decode cX4_freeSlot 0 = .ok (.iconst 0, 1) := by decide +kernel
theorem dX4_freeSlot_1 : decode cX4_freeSlot 1 = .ok (.istore_n 1, 1) := by decide +kernel
theorem dX4_freeSlot_2 : decode cX4_freeSlot 2 = .ok (.aload_n 0, 1) := by decide +kernel
theorem dX4_freeSlot_3 : decode cX4_freeSlot 3 = .ok (.getfield 28, 3) := by decide +kernel
theorem dX4_freeSlot_6 : decode cX4_freeSlot 6 = .ok (.iload_n 1, 1) := by decide +kernel
theorem dX4_freeSlot_7 : decode cX4_freeSlot 7 = .ok (.baload, 1) := by decide +kernel
theorem dX4_freeSlot_8 : decode cX4_freeSlot 8 = .ok (.ifCond .eq 9, 3) := by decide +kernel
theorem dX4_freeSlot_11 : decode cX4_freeSlot 11 = .ok (.iinc 1 1, 3) := by decide +kernel
theorem dX4_freeSlot_14 : decode cX4_freeSlot 14 = .ok (.goto (-12), 3) := by decide +kernel
theorem dX4_freeSlot_17 : decode cX4_freeSlot 17 = .ok (.aload_n 0, 1) := by decide +kernel
theorem dX4_freeSlot_18 : decode cX4_freeSlot 18 = .ok (.getfield 28, 3) := by decide +kernel
theorem dX4_freeSlot_21 : decode cX4_freeSlot 21 = .ok (.iload_n 1, 1) := by decide +kernel
theorem dX4_freeSlot_22 : decode cX4_freeSlot 22 = .ok (.iconst 1, 1) := by decide +kernel
theorem dX4_freeSlot_23 : decode cX4_freeSlot 23 = .ok (.bastore, 1) := by decide +kernel
theorem dX4_freeSlot_24 : decode cX4_freeSlot 24 = .ok (.aload_n 0, 1) := by decide +kernel
theorem dX4_freeSlot_25 : decode cX4_freeSlot 25 = .ok (.getfield 38, 3) := by decide +kernel
theorem dX4_freeSlot_28 : decode cX4_freeSlot 28 = .ok (.iload_n 1, 1) := by decide +kernel
theorem dX4_freeSlot_29 : decode cX4_freeSlot 29 = .ok (.iconst 0, 1) := by decide +kernel
theorem dX4_freeSlot_30 : decode cX4_freeSlot 30 = .ok (.iastore, 1) := by decide +kernel
theorem dX4_freeSlot_31 : decode cX4_freeSlot 31 = .ok (.iload_n 1, 1) := by decide +kernel
theorem dX4_freeSlot_32 : decode cX4_freeSlot 32 = .ok (.ireturn, 1) := by decide +kernel
theorem dX4_lay_0 : decode cX4_lay 0 = .ok (.bipush 100, 2) := by decide +kernel
theorem dX4_lay_2 : decode cX4_lay 2 = .ok (.iload_n 1, 1) := by decide +kernel
theorem dX4_lay_3 : decode cX4_lay 3 = .ok (.imul, 1) := by decide +kernel
theorem dX4_lay_4 : decode cX4_lay 4 = .ok (.aload_n 0, 1) := by decide +kernel
theorem dX4_lay_5 : decode cX4_lay 5 = .ok (.getfield 38, 3) := by decide +kernel
theorem dX4_lay_8 : decode cX4_lay 8 = .ok (.iload_n 1, 1) := by decide +kernel
theorem dX4_lay_9 : decode cX4_lay 9 = .ok (.iaload, 1) := by decide +kernel
theorem dX4_lay_10 : decode cX4_lay 10 = .ok (.iadd, 1) := by decide +kernel
theorem dX4_lay_11 : decode cX4_lay 11 = .ok (.istore 5, 2) := by decide +kernel
theorem dX4_lay_13 : decode cX4_lay 13 = .ok (.aload_n 0, 1) := by decide +kernel
theorem dX4_lay_14 : decode cX4_lay 14 = .ok (.getfield 41, 3) := by decide +kernel
theorem dX4_lay_17 : decode cX4_lay 17 = .ok (.iload 5, 2) := by decide +kernel
theorem dX4_lay_19 : decode cX4_lay 19 = .ok (.iload_n 2, 1) := by decide +kernel
theorem dX4_lay_20 : decode cX4_lay 20 = .ok (.iastore, 1) := by decide +kernel
theorem dX4_lay_21 : decode cX4_lay 21 = .ok (.aload_n 0, 1) := by decide +kernel
theorem dX4_lay_22 : decode cX4_lay 22 = .ok (.getfield 44, 3) := by decide +kernel
theorem dX4_lay_25 : decode cX4_lay 25 = .ok (.iload 5, 2) := by decide +kernel
theorem dX4_lay_27 : decode cX4_lay 27 = .ok (.iload_n 3, 1) := by decide +kernel
theorem dX4_lay_28 : decode cX4_lay 28 = .ok (.iastore, 1) := by decide +kernel
theorem dX4_lay_29 : decode cX4_lay 29 = .ok (.aload_n 0, 1) := by decide +kernel
theorem dX4_lay_30 : decode cX4_lay 30 = .ok (.getfield 47, 3) := by decide +kernel
theorem dX4_lay_33 : decode cX4_lay 33 = .ok (.iload 5, 2) := by decide +kernel
theorem dX4_lay_35 : decode cX4_lay 35 = .ok (.iload 4, 2) := by decide +kernel
theorem dX4_lay_37 : decode cX4_lay 37 = .ok (.bastore, 1) := by decide +kernel
theorem dX4_lay_38 : decode cX4_lay 38 = .ok (.iload 4, 2) := by decide +kernel
theorem dX4_lay_40 : decode cX4_lay 40 = .ok (.ifCond .eq 22, 3) := by decide +kernel
theorem dX4_lay_43 : decode cX4_lay 43 = .ok (.aload_n 0, 1) := by decide +kernel
theorem dX4_lay_44 : decode cX4_lay 44 = .ok (.getfield 16, 3) := by decide +kernel
theorem dX4_lay_47 : decode cX4_lay 47 = .ok (.iload_n 2, 1) := by decide +kernel
theorem dX4_lay_48 : decode cX4_lay 48 = .ok (.iload_n 1, 1) := by decide +kernel
theorem dX4_lay_49 : decode cX4_lay 49 = .ok (.iastore, 1) := by decide +kernel
theorem dX4_lay_50 : decode cX4_lay 50 = .ok (.aload_n 0, 1) := by decide +kernel
theorem dX4_lay_51 : decode cX4_lay 51 = .ok (.getfield 19, 3) := by decide +kernel
theorem dX4_lay_54 : decode cX4_lay 54 = .ok (.iload_n 2, 1) := by decide +kernel
theorem dX4_lay_55 : decode cX4_lay 55 = .ok (.aload_n 0, 1) := by decide +kernel
theorem dX4_lay_56 : decode cX4_lay 56 = .ok (.getfield 38, 3) := by decide +kernel
theorem dX4_lay_59 : decode cX4_lay 59 = .ok (.iload_n 1, 1) := by decide +kernel
theorem dX4_lay_60 : decode cX4_lay 60 = .ok (.iaload, 1) := by decide +kernel
theorem dX4_lay_61 : decode cX4_lay 61 = .ok (.iastore, 1) := by decide +kernel
theorem dX4_lay_62 : decode cX4_lay 62 = .ok (.aload_n 0, 1) := by decide +kernel
theorem dX4_lay_63 : decode cX4_lay 63 = .ok (.getfield 38, 3) := by decide +kernel
theorem dX4_lay_66 : decode cX4_lay 66 = .ok (.iload_n 1, 1) := by decide +kernel
theorem dX4_lay_67 : decode cX4_lay 67 = .ok (.dup2, 1) := by decide +kernel
theorem dX4_lay_68 : decode cX4_lay 68 = .ok (.iaload, 1) := by decide +kernel
theorem dX4_lay_69 : decode cX4_lay 69 = .ok (.iconst 1, 1) := by decide +kernel
theorem dX4_lay_70 : decode cX4_lay 70 = .ok (.iadd, 1) := by decide +kernel
theorem dX4_lay_71 : decode cX4_lay 71 = .ok (.iastore, 1) := by decide +kernel
theorem dX4_lay_72 : decode cX4_lay 72 = .ok (.return_, 1) := by decide +kernel
set_option maxRecDepth 20000 in
theorem ggX4_flush_X4_freeSlot : GoodIn wsX4_flush wsX4_freeSlot := goodIn_r _ [14, 15, 16, 31, 32, 33, 34, 35, 36, 37, 38, 39, 40, 41, 42, 43, 44, 45, 46, 47, 48, 49, 50, 51, 52, 53, 54, 55, 56, 57, 58, 59, 60, 61, 62, 63, 64] (by decide +kernel) (by decide +kernel)
set_option maxRecDepth 20000 in
theorem gX4_flush_X4_freeSlot : GoodIn wsX4_flush (wsV RX4 105 RX4 yX4_freeSlot wsX4_freeSlot) := goodIn_app (goodIn_of _ (by decide +kernel)) ggX4_flush_X4_freeSlot
set_option maxRecDepth 20000 in
theorem ggX4_flush_X4_memoryAt : GoodIn wsX4_flush wsX4_memoryAt := goodIn_r _ [20, 2, 21, 31, 32, 33, 34, 35, 36, 37, 38, 39, 40, 41, 42, 43, 44, 45, 46, 47, 48, 49, 50, 51, 52, 53, 54, 55, 56, 57, 58, 59, 60, 61, 62, 63, 64] (by decide +kernel) (by decide +kernel)
set_option maxRecDepth 20000 in
theorem gX4_flush_X4_memoryAt : GoodIn wsX4_flush (wsV RX4 94 RX4 yX4_memoryAt wsX4_memoryAt) := goodIn_app (goodIn_of _ (by decide +kernel)) ggX4_flush_X4_memoryAt
set_option maxRecDepth 20000 in
theorem ggX4_flush_X4_lay : GoodIn wsX4_flush wsX4_lay := goodIn_r _ [25, 16, 26, 27, 28, 29, 30, 31, 32, 33, 34, 35, 36, 37, 38, 39, 40, 41, 42, 43, 44, 45, 46, 47, 48, 49, 50, 51, 52, 53, 54, 55, 56, 57, 58, 59, 60, 61, 62, 63, 64] (by decide +kernel) (by decide +kernel)
set_option maxRecDepth 20000 in
theorem gX4_flush_X4_lay : GoodIn wsX4_flush (wsV RX4 112 RX4 yX4_lay wsX4_lay) := goodIn_app (goodIn_of _ (by decide +kernel)) ggX4_flush_X4_lay
theorem dX4_flush_0 : decode cX4_flush 0 = .ok (.aload_n 0, 1) := by decide +kernel
theorem dX4_flush_1 : decode cX4_flush 1 = .ok (.iconst 0, 1) := by decide +kernel
theorem dX4_flush_2 : decode cX4_flush 2 = .ok (.putfield 84, 3) := by decide +kernel
theorem dX4_flush_5 : decode cX4_flush 5 = .ok (.aload_n 0, 1) := by decide +kernel
theorem dX4_flush_6 : decode cX4_flush 6 = .ok (.getfield 87, 3) := by decide +kernel
theorem dX4_flush_9 : decode cX4_flush 9 = .ok (.ifCond .ne 6, 3) := by decide +kernel
theorem dX4_flush_12 : decode cX4_flush 12 = .ok (.bipush (-3), 2) := by decide +kernel
theorem dX4_flush_14 : decode cX4_flush 14 = .ok (.ireturn, 1) := by decide +kernel
theorem dX4_flush_15 : decode cX4_flush 15 = .ok (.aload_n 0, 1) := by decide +kernel
theorem dX4_flush_16 : decode cX4_flush 16 = .ok (.getfield 102, 3) := by decide +kernel
theorem dX4_flush_19 : decode cX4_flush 19 = .ok (.bipush 20, 2) := by decide +kernel
theorem dX4_flush_21 : decode cX4_flush 21 = .ok (.if_icmp .ne 6, 3) := by decide +kernel
theorem dX4_flush_24 : decode cX4_flush 24 = .ok (.bipush (-4), 2) := by decide +kernel
theorem dX4_flush_26 : decode cX4_flush 26 = .ok (.ireturn, 1) := by decide +kernel
theorem dX4_flush_27 : decode cX4_flush 27 = .ok (.aload_n 0, 1) := by decide +kernel
theorem dX4_flush_28 : decode cX4_flush 28 = .ok (.invokevirtual 105, 3) := by decide +kernel
theorem dX4_flush_31 : decode cX4_flush 31 = .ok (.istore_n 1, 1) := by decide +kernel
theorem dX4_flush_32 : decode cX4_flush 32 = .ok (.aload_n 0, 1) := by decide +kernel
theorem dX4_flush_33 : decode cX4_flush 33 = .ok (.getfield 35, 3) := by decide +kernel
theorem dX4_flush_36 : decode cX4_flush 36 = .ok (.iload_n 1, 1) := by decide +kernel
theorem dX4_flush_37 : decode cX4_flush 37 = .ok (.iconst 0, 1) := by decide +kernel
theorem dX4_flush_38 : decode cX4_flush 38 = .ok (.iastore, 1) := by decide +kernel
theorem dX4_flush_39 : decode cX4_flush 39 = .ok (.aload_n 0, 1) := by decide +kernel
theorem dX4_flush_40 : decode cX4_flush 40 = .ok (.getfield 32, 3) := by decide +kernel
theorem dX4_flush_43 : decode cX4_flush 43 = .ok (.iload_n 1, 1) := by decide +kernel
theorem dX4_flush_44 : decode cX4_flush 44 = .ok (.aload_n 0, 1) := by decide +kernel
theorem dX4_flush_45 : decode cX4_flush 45 = .ok (.getfield 109, 3) := by decide +kernel
theorem dX4_flush_48 : decode cX4_flush 48 = .ok (.iastore, 1) := by decide +kernel
theorem dX4_flush_49 : decode cX4_flush 49 = .ok (.aload_n 0, 1) := by decide +kernel
theorem dX4_flush_50 : decode cX4_flush 50 = .ok (.dup, 1) := by decide +kernel
theorem dX4_flush_51 : decode cX4_flush 51 = .ok (.getfield 109, 3) := by decide +kernel
theorem dX4_flush_54 : decode cX4_flush 54 = .ok (.iconst 1, 1) := by decide +kernel
theorem dX4_flush_55 : decode cX4_flush 55 = .ok (.iadd, 1) := by decide +kernel
theorem dX4_flush_56 : decode cX4_flush 56 = .ok (.putfield 109, 3) := by decide +kernel
theorem dX4_flush_59 : decode cX4_flush 59 = .ok (.iconst 0, 1) := by decide +kernel
theorem dX4_flush_60 : decode cX4_flush 60 = .ok (.istore_n 2, 1) := by decide +kernel
theorem dX4_flush_61 : decode cX4_flush 61 = .ok (.iload_n 2, 1) := by decide +kernel
theorem dX4_flush_62 : decode cX4_flush 62 = .ok (.bipush 100, 2) := by decide +kernel
theorem dX4_flush_64 : decode cX4_flush 64 = .ok (.if_icmp .ge 40, 3) := by decide +kernel
theorem dX4_flush_67 : decode cX4_flush 67 = .ok (.aload_n 0, 1) := by decide +kernel
theorem dX4_flush_68 : decode cX4_flush 68 = .ok (.iload_n 2, 1) := by decide +kernel
theorem dX4_flush_69 : decode cX4_flush 69 = .ok (.invokevirtual 94, 3) := by decide +kernel
theorem dX4_flush_72 : decode cX4_flush 72 = .ok (.ifCond .lt 26, 3) := by decide +kernel
theorem dX4_flush_75 : decode cX4_flush 75 = .ok (.aload_n 0, 1) := by decide +kernel
theorem dX4_flush_76 : decode cX4_flush 76 = .ok (.iload_n 1, 1) := by decide +kernel
theorem dX4_flush_77 : decode cX4_flush 77 = .ok (.iload_n 2, 1) := by decide +kernel
theorem dX4_flush_78 : decode cX4_flush 78 = .ok (.aload_n 0, 1) := by decide +kernel
theorem dX4_flush_79 : decode cX4_flush 79 = .ok (.getfield 7, 3) := by decide +kernel
theorem dX4_flush_82 : decode cX4_flush 82 = .ok (.iload_n 2, 1) := by decide +kernel
theorem dX4_flush_83 : decode cX4_flush 83 = .ok (.iaload, 1) := by decide +kernel
theorem dX4_flush_84 : decode cX4_flush 84 = .ok (.iconst 1, 1) := by decide +kernel
theorem dX4_flush_85 : decode cX4_flush 85 = .ok (.invokevirtual 112, 3) := by decide +kernel
theorem dX4_flush_88 : decode cX4_flush 88 = .ok (.aload_n 0, 1) := by decide +kernel
theorem dX4_flush_89 : decode cX4_flush 89 = .ok (.dup, 1) := by decide +kernel
theorem dX4_flush_90 : decode cX4_flush 90 = .ok (.getfield 116, 3) := by decide +kernel
theorem dX4_flush_93 : decode cX4_flush 93 = .ok (.iconst 1, 1) := by decide +kernel
theorem dX4_flush_94 : decode cX4_flush 94 = .ok (.iadd, 1) := by decide +kernel
theorem dX4_flush_95 : decode cX4_flush 95 = .ok (.putfield 116, 3) := by decide +kernel
theorem dX4_flush_98 : decode cX4_flush 98 = .ok (.iinc 2 1, 3) := by decide +kernel
theorem dX4_flush_101 : decode cX4_flush 101 = .ok (.goto (-40), 3) := by decide +kernel
theorem dX4_flush_104 : decode cX4_flush 104 = .ok (.aload_n 0, 1) := by decide +kernel
theorem dX4_flush_105 : decode cX4_flush 105 = .ok (.iconst 0, 1) := by decide +kernel
theorem dX4_flush_106 : decode cX4_flush 106 = .ok (.putfield 87, 3) := by decide +kernel
theorem dX4_flush_109 : decode cX4_flush 109 = .ok (.aload_n 0, 1) := by decide +kernel
theorem dX4_flush_110 : decode cX4_flush 110 = .ok (.getfield 25, 3) := by decide +kernel
theorem dX4_flush_113 : decode cX4_flush 113 = .ok (.aload_n 0, 1) := by decide +kernel
theorem dX4_flush_114 : decode cX4_flush 114 = .ok (.getfield 102, 3) := by decide +kernel
theorem dX4_flush_117 : decode cX4_flush 117 = .ok (.iload_n 1, 1) := by decide +kernel
theorem dX4_flush_118 : decode cX4_flush 118 = .ok (.iastore, 1) := by decide +kernel
theorem dX4_flush_119 : decode cX4_flush 119 = .ok (.aload_n 0, 1) := by decide +kernel
theorem dX4_flush_120 : decode cX4_flush 120 = .ok (.dup, 1) := by decide +kernel
theorem dX4_flush_121 : decode cX4_flush 121 = .ok (.getfield 102, 3) := by decide +kernel
theorem dX4_flush_124 : decode cX4_flush 124 = .ok (.iconst 1, 1) := by decide +kernel
theorem dX4_flush_125 : decode cX4_flush 125 = .ok (.iadd, 1) := by decide +kernel
theorem dX4_flush_126 : decode cX4_flush 126 = .ok (.putfield 102, 3) := by decide +kernel
theorem dX4_flush_129 : decode cX4_flush 129 = .ok (.aload_n 0, 1) := by decide +kernel
theorem dX4_flush_130 : decode cX4_flush 130 = .ok (.getfield 32, 3) := by decide +kernel
theorem dX4_flush_133 : decode cX4_flush 133 = .ok (.iload_n 1, 1) := by decide +kernel
theorem dX4_flush_134 : decode cX4_flush 134 = .ok (.iaload, 1) := by decide +kernel
theorem dX4_flush_135 : decode cX4_flush 135 = .ok (.ireturn, 1) := by decide +kernel
theorem dX4_livingOf_0 : decode cX4_livingOf 0 = .ok (.iconst 0, 1) := by decide +kernel
theorem dX4_livingOf_1 : decode cX4_livingOf 1 = .ok (.istore_n 2, 1) := by decide +kernel
theorem dX4_livingOf_2 : decode cX4_livingOf 2 = .ok (.iconst 0, 1) := by decide +kernel
theorem dX4_livingOf_3 : decode cX4_livingOf 3 = .ok (.istore_n 3, 1) := by decide +kernel
theorem dX4_livingOf_4 : decode cX4_livingOf 4 = .ok (.iload_n 3, 1) := by decide +kernel
theorem dX4_livingOf_5 : decode cX4_livingOf 5 = .ok (.aload_n 0, 1) := by decide +kernel
theorem dX4_livingOf_6 : decode cX4_livingOf 6 = .ok (.getfield 38, 3) := by decide +kernel
theorem dX4_livingOf_9 : decode cX4_livingOf 9 = .ok (.iload_n 1, 1) := by decide +kernel
theorem dX4_livingOf_10 : decode cX4_livingOf 10 = .ok (.iaload, 1) := by decide +kernel
theorem dX4_livingOf_11 : decode cX4_livingOf 11 = .ok (.if_icmp .ge 31, 3) := by decide +kernel
theorem dX4_livingOf_14 : decode cX4_livingOf 14 = .ok (.iload_n 2, 1) := by decide +kernel
theorem dX4_livingOf_15 : decode cX4_livingOf 15 = .ok (.aload_n 0, 1) := by decide +kernel
theorem dX4_livingOf_16 : decode cX4_livingOf 16 = .ok (.getfield 47, 3) := by decide +kernel
theorem dX4_livingOf_19 : decode cX4_livingOf 19 = .ok (.bipush 100, 2) := by decide +kernel
