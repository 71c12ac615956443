set_option maxRecDepth 20000 in
theorem gX1_asSegment_X1_greatestTier : GoodIn wsX1_asSegment (wsV RX1 54 RX1 yX1_greatestTier wsX1_greatestTier) := goodIn_app (goodIn_of _ (by decide +kernel)) ggX1_asSegment_X1_greatestTier
set_option maxRecDepth 20000 in
theorem ggX1_asSegment_X2_init : GoodIn wsX1_asSegment wsX2_init := goodIn_r _ [23, 24, 25, 26, 27, 28, 29, 30, 31, 32, 33, 34, 35, 36, 41, 42, 43, 44, 45, 46, 47, 48] (by decide +kernel) (by decide +kernel)
set_option maxRecDepth 20000 in
theorem gX1_asSegment_X2_init : GoodIn wsX1_asSegment (wsX2_init) := ggX1_asSegment_X2_init
set_option maxRecDepth 20000 in
theorem ggX1_asSegment_X2_write : GoodIn wsX1_asSegment wsX2_write := goodIn_r _ [40, 32, 33, 35, 27, 41, 42, 43, 44, 45, 46, 47, 48] (by decide +kernel) (by decide +kernel)
set_option maxRecDepth 20000 in
theorem gX1_asSegment_X2_write : GoodIn wsX1_asSegment (wsV RX1 63 RX2 yX2_write wsX2_write) := goodIn_app (goodIn_of _ (by decide +kernel)) ggX1_asSegment_X2_write
theorem dX1_asSegment_0 : decode cX1_asSegment 0 = .ok (.new 24, 3) := by decide +kernel
theorem dX1_asSegment_3 : decode cX1_asSegment 3 = .ok (.dup, 1) := by decide +kernel
theorem dX1_asSegment_4 : decode cX1_asSegment 4 = .ok (.iload_n 1, 1) := by decide +kernel
theorem dX1_asSegment_5 : decode cX1_asSegment 5 = .ok (.aload_n 0, 1) := by decide +kernel
theorem dX1_asSegment_6 : decode cX1_asSegment 6 = .ok (.invokevirtual 54, 3) := by decide +kernel
theorem dX1_asSegment_9 : decode cX1_asSegment 9 = .ok (.iconst 1, 1) := by decide +kernel
theorem dX1_asSegment_10 : decode cX1_asSegment 10 = .ok (.iadd, 1) := by decide +kernel
theorem dX1_asSegment_11 : decode cX1_asSegment 11 = .ok (.aload_n 0, 1) := by decide +kernel
theorem dX1_asSegment_12 : decode cX1_asSegment 12 = .ok (.getfield 15, 3) := by decide +kernel
theorem dX1_asSegment_15 : decode cX1_asSegment 15 = .ok (.invokespecial 57, 3) := by decide +kernel
theorem dX1_asSegment_18 : decode cX1_asSegment 18 = .ok (.astore_n 2, 1) := by decide +kernel
theorem dX1_asSegment_19 : decode cX1_asSegment 19 = .ok (.iconst 0, 1) := by decide +kernel
theorem dX1_asSegment_20 : decode cX1_asSegment 20 = .ok (.istore_n 3, 1) := by decide +kernel
theorem dX1_asSegment_21 : decode cX1_asSegment 21 = .ok (.iload_n 3, 1) := by decide +kernel
theorem dX1_asSegment_22 : decode cX1_asSegment 22 = .ok (.aload_n 0, 1) := by decide +kernel
theorem dX1_asSegment_23 : decode cX1_asSegment 23 = .ok (.getfield 26, 3) := by decide +kernel
theorem dX1_asSegment_26 : decode cX1_asSegment 26 = .ok (.arraylength, 1) := by decide +kernel
theorem dX1_asSegment_27 : decode cX1_asSegment 27 = .ok (.if_icmp .ge 84, 3) := by decide +kernel
theorem dX1_asSegment_30 : decode cX1_asSegment 30 = .ok (.aload_n 0, 1) := by decide +kernel
theorem dX1_asSegment_31 : decode cX1_asSegment 31 = .ok (.getfield 26, 3) := by decide +kernel
theorem dX1_asSegment_34 : decode cX1_asSegment 34 = .ok (.iload_n 3, 1) := by decide +kernel
theorem dX1_asSegment_35 : decode cX1_asSegment 35 = .ok (.aaload, 1) := by decide +kernel
theorem dX1_asSegment_36 : decode cX1_asSegment 36 = .ok (.astore 4, 2) := by decide +kernel
theorem dX1_asSegment_38 : decode cX1_asSegment 38 = .ok (.iconst 0, 1) := by decide +kernel
theorem dX1_asSegment_39 : decode cX1_asSegment 39 = .ok (.istore 5, 2) := by decide +kernel
theorem dX1_asSegment_41 : decode cX1_asSegment 41 = .ok (.iload 5, 2) := by decide +kernel
theorem dX1_asSegment_43 : decode cX1_asSegment 43 = .ok (.aload 4, 2) := by decide +kernel
theorem dX1_asSegment_45 : decode cX1_asSegment 45 = .ok (.getfield 34, 3) := by decide +kernel
theorem dX1_asSegment_48 : decode cX1_asSegment 48 = .ok (.if_icmp .ge 57, 3) := by decide +kernel
theorem dX1_asSegment_51 : decode cX1_asSegment 51 = .ok (.aload 4, 2) := by decide +kernel
theorem dX1_asSegment_53 : decode cX1_asSegment 53 = .ok (.getfield 48, 3) := by decide +kernel
theorem dX1_asSegment_56 : decode cX1_asSegment 56 = .ok (.iload 5, 2) := by decide +kernel
theorem dX1_asSegment_58 : decode cX1_asSegment 58 = .ok (.iaload, 1) := by decide +kernel
theorem dX1_asSegment_59 : decode cX1_asSegment 59 = .ok (.iconst (-1), 1) := by decide +kernel
theorem dX1_asSegment_60 : decode cX1_asSegment 60 = .ok (.if_icmp .eq 39, 3) := by decide +kernel
theorem dX1_asSegment_63 : decode cX1_asSegment 63 = .ok (.aload_n 2, 1) := by decide +kernel
theorem dX1_asSegment_64 : decode cX1_asSegment 64 = .ok (.aload 4, 2) := by decide +kernel
theorem dX1_asSegment_66 : decode cX1_asSegment 66 = .ok (.getfield 48, 3) := by decide +kernel
theorem dX1_asSegment_69 : decode cX1_asSegment 69 = .ok (.iload 5, 2) := by decide +kernel
theorem dX1_asSegment_71 : decode cX1_asSegment 71 = .ok (.iaload, 1) := by decide +kernel
theorem dX1_asSegment_72 : decode cX1_asSegment 72 = .ok (.aload 4, 2) := by decide +kernel
theorem dX1_asSegment_74 : decode cX1_asSegment 74 = .ok (.getfield 51, 3) := by decide +kernel
theorem dX1_asSegment_77 : decode cX1_asSegment 77 = .ok (.iload 5, 2) := by decide +kernel
theorem dX1_asSegment_79 : decode cX1_asSegment 79 = .ok (.iaload, 1) := by decide +kernel
theorem dX1_asSegment_80 : decode cX1_asSegment 80 = .ok (.aload 4, 2) := by decide +kernel
theorem dX1_asSegment_82 : decode cX1_asSegment 82 = .ok (.getfield 60, 3) := by decide +kernel
theorem dX1_asSegment_85 : decode cX1_asSegment 85 = .ok (.iload 5, 2) := by decide +kernel
theorem dX1_asSegment_87 : decode cX1_asSegment 87 = .ok (.iaload, 1) := by decide +kernel
theorem dX1_asSegment_88 : decode cX1_asSegment 88 = .ok (.aload 4, 2) := by decide +kernel
theorem dX1_asSegment_90 : decode cX1_asSegment 90 = .ok (.getfield 44, 3) := by decide +kernel
theorem dX1_asSegment_93 : decode cX1_asSegment 93 = .ok (.iload 5, 2) := by decide +kernel
theorem dX1_asSegment_95 : decode cX1_asSegment 95 = .ok (.baload, 1) := by decide +kernel
theorem dX1_asSegment_96 : decode cX1_asSegment 96 = .ok (.invokevirtual 63, 3) := by decide +kernel
theorem dX1_asSegment_99 : decode cX1_asSegment 99 = .ok (.iinc 5 1, 3) := by decide +kernel
theorem dX1_asSegment_102 : decode cX1_asSegment 102 = .ok (.goto (-61), 3) := by decide +kernel
theorem dX1_asSegment_105 : decode cX1_asSegment 105 = .ok (.iinc 3 1, 3) := by decide +kernel
theorem dX1_asSegment_108 : decode cX1_asSegment 108 = .ok (.goto (-87), 3) := by decide +kernel
theorem dX1_asSegment_111 : decode cX1_asSegment 111 = .ok (.aload_n 2, 1) := by decide +kernel
theorem dX1_asSegment_112 : decode cX1_asSegment 112 = .ok (.areturn, 1) := by decide +kernel
theorem dX1_greatestTier_0 : decode cX1_greatestTier 0 = .ok (.iconst 0, 1) := by decide +kernel
theorem dX1_greatestTier_1 : decode cX1_greatestTier 1 = .ok (.istore_n 1, 1) := by decide +kernel
theorem dX1_greatestTier_2 : decode cX1_greatestTier 2 = .ok (.iconst 0, 1) := by decide +kernel
theorem dX1_greatestTier_3 : decode cX1_greatestTier 3 = .ok (.istore_n 2, 1) := by decide +kernel
theorem dX1_greatestTier_4 : decode cX1_greatestTier 4 = .ok (.iload_n 2, 1) := by decide +kernel
theorem dX1_greatestTier_5 : decode cX1_greatestTier 5 = .ok (.aload_n 0, 1) := by decide +kernel
theorem dX1_greatestTier_6 : decode cX1_greatestTier 6 = .ok (.getfield 26, 3) := by decide +kernel
theorem dX1_greatestTier_9 : decode cX1_greatestTier 9 = .ok (.arraylength, 1) := by decide +kernel
theorem dX1_greatestTier_10 : decode cX1_greatestTier 10 = .ok (.if_icmp .ge 23, 3) := by decide +kernel
theorem dX1_greatestTier_13 : decode cX1_greatestTier 13 = .ok (.iload_n 1, 1) := by decide +kernel
theorem dX1_greatestTier_14 : decode cX1_greatestTier 14 = .ok (.aload_n 0, 1) := by decide +kernel
theorem dX1_greatestTier_15 : decode cX1_greatestTier 15 = .ok (.getfield 26, 3) := by decide +kernel
theorem dX1_greatestTier_18 : decode cX1_greatestTier 18 = .ok (.iload_n 2, 1) := by decide +kernel
theorem dX1_greatestTier_19 : decode cX1_greatestTier 19 = .ok (.aaload, 1) := by decide +kernel
theorem dX1_greatestTier_20 : decode cX1_greatestTier 20 = .ok (.getfield 67, 3) := by decide +kernel
theorem dX1_greatestTier_23 : decode cX1_greatestTier 23 = .ok (.invokestatic 70, 3) := by decide +kernel
theorem dX1_greatestTier_26 : decode cX1_greatestTier 26 = .ok (.istore_n 1, 1) := by decide +kernel
theorem dX1_greatestTier_27 : decode cX1_greatestTier 27 = .ok (.iinc 2 1, 3) := by decide +kernel
theorem dX1_greatestTier_30 : decode cX1_greatestTier 30 = .ok (.goto (-26), 3) := by decide +kernel
theorem dX1_greatestTier_33 : decode cX1_greatestTier 33 = .ok (.iload_n 1, 1) := by decide +kernel
theorem dX1_greatestTier_34 : decode cX1_greatestTier 34 = .ok (.ireturn, 1) := by decide +kernel
theorem dX2_init_0 : decode cX2_init 0 = .ok (.aload_n 0, 1) := by decide +kernel
theorem dX2_init_1 : decode cX2_init 1 = .ok (.invokespecial 1, 3) := by decide +kernel
theorem dX2_init_4 : decode cX2_init 4 = .ok (.aload_n 0, 1) := by decide +kernel
theorem dX2_init_5 : decode cX2_init 5 = .ok (.iconst 0, 1) := by decide +kernel
theorem dX2_init_6 : decode cX2_init 6 = .ok (.putfield 7, 3) := by decide +kernel
theorem dX2_init_9 : decode cX2_init 9 = .ok (.aload_n 0, 1) := by decide +kernel
theorem dX2_init_10 : decode cX2_init 10 = .ok (.iload_n 1, 1) := by decide +kernel
theorem dX2_init_11 : decode cX2_init 11 = .ok (.putfield 13, 3) := by decide +kernel
theorem dX2_init_14 : decode cX2_init 14 = .ok (.aload_n 0, 1) := by decide +kernel
theorem dX2_init_15 : decode cX2_init 15 = .ok (.iload_n 2, 1) := by decide +kernel
theorem dX2_init_16 : decode cX2_init 16 = .ok (.putfield 16, 3) := by decide +kernel
theorem dX2_init_19 : decode cX2_init 19 = .ok (.aload_n 0, 1) := by decide +kernel
theorem dX2_init_20 : decode cX2_init 20 = .ok (.iload_n 3, 1) := by decide +kernel
theorem dX2_init_21 : decode cX2_init 21 = .ok (.putfield 19, 3) := by decide +kernel
theorem dX2_init_24 : decode cX2_init 24 = .ok (.aload_n 0, 1) := by decide +kernel
theorem dX2_init_25 : decode cX2_init 25 = .ok (.iload_n 3, 1) := by decide +kernel
theorem dX2_init_26 : decode cX2_init 26 = .ok (.newarray .int, 2) := by decide +kernel
theorem dX2_init_28 : decode cX2_init 28 = .ok (.putfield 22, 3) := by decide +kernel
theorem dX2_init_31 : decode cX2_init 31 = .ok (.aload_n 0, 1) := by decide +kernel
theorem dX2_init_32 : decode cX2_init 32 = .ok (.iload_n 3, 1) := by decide +kernel
theorem dX2_init_33 : decode cX2_init 33 = .ok (.newarray .int, 2) := by decide +kernel
theorem dX2_init_35 : decode cX2_init 35 = .ok (.putfield 26, 3) := by decide +kernel
theorem dX2_init_38 : decode cX2_init 38 = .ok (.aload_n 0, 1) := by decide +kernel
theorem dX2_init_39 : decode cX2_init 39 = .ok (.iload_n 3, 1) := by decide +kernel
theorem dX2_init_40 : decode cX2_init 40 = .ok (.newarray .boolean, 2) := by decide +kernel
theorem dX2_init_42 : decode cX2_init 42 = .ok (.putfield 29, 3) := by decide +kernel
theorem dX2_init_45 : decode cX2_init 45 = .ok (.aload_n 0, 1) := by decide +kernel
theorem dX2_init_46 : decode cX2_init 46 = .ok (.iload_n 3, 1) := by decide +kernel
theorem dX2_init_47 : decode cX2_init 47 = .ok (.newarray .int, 2) := by decide +kernel
theorem dX2_init_49 : decode cX2_init 49 = .ok (.putfield 33, 3) := by decide +kernel
theorem dX2_init_52 : decode cX2_init 52 = .ok (.return_, 1) := by decide +kernel
theorem dX2_write_0 : decode cX2_write 0 = .ok (.aload_n 0, 1) := by decide +kernel
theorem dX2_write_1 : decode cX2_write 1 = .ok (.getfield 22, 3) := by decide +kernel
theorem dX2_write_4 : decode cX2_write 4 = .ok (.iload_n 1, 1) := by decide +kernel
theorem dX2_write_5 : decode cX2_write 5 = .ok (.iload_n 2, 1) := by decide +kernel
theorem dX2_write_6 : decode cX2_write 6 = .ok (.iastore, 1) := by decide +kernel
theorem dX2_write_7 : decode cX2_write 7 = .ok (.aload_n 0, 1) := by decide +kernel
theorem dX2_write_8 : decode cX2_write 8 = .ok (.getfield 26, 3) := by decide +kernel
theorem dX2_write_11 : decode cX2_write 11 = .ok (.iload_n 1, 1) := by decide +kernel
theorem dX2_write_12 : decode cX2_write 12 = .ok (.iload_n 3, 1) := by decide +kernel
theorem dX2_write_13 : decode cX2_write 13 = .ok (.iastore, 1) := by decide +kernel
theorem dX2_write_14 : decode cX2_write 14 = .ok (.aload_n 0, 1) := by decide +kernel
theorem dX2_write_15 : decode cX2_write 15 = .ok (.getfield 29, 3) := by decide +kernel
theorem dX2_write_18 : decode cX2_write 18 = .ok (.iload_n 1, 1) := by decide +kernel
theorem dX2_write_19 : decode cX2_write 19 = .ok (.iload 4, 2) := by decide +kernel
theorem dX2_write_21 : decode cX2_write 21 = .ok (.bastore, 1) := by decide +kernel
theorem dX2_write_22 : decode cX2_write 22 = .ok (.iload 4, 2) := by decide +kernel
theorem dX2_write_24 : decode cX2_write 24 = .ok (.ifCond .eq 13, 3) := by decide +kernel
theorem dX2_write_27 : decode cX2_write 27 = .ok (.aload_n 0, 1) := by decide +kernel
theorem dX2_write_28 : decode cX2_write 28 = .ok (.dup, 1) := by decide +kernel
theorem dX2_write_29 : decode cX2_write 29 = .ok (.getfield 7, 3) := by decide +kernel
theorem dX2_write_32 : decode cX2_write 32 = .ok (.iconst 1, 1) := by decide +kernel
theorem dX2_write_33 : decode cX2_write 33 = .ok (.iadd, 1) := by decide +kernel
theorem dX2_write_34 : decode cX2_write 34 = .ok (.putfield 7, 3) := by decide +kernel
theorem dX2_write_37 : decode cX2_write 37 = .ok (.return_, 1) := by decide +kernel
theorem dX2_hasRow_0 : decode cX2_hasRow 0 = .ok (.iload_n 1, 1) := by decide +kernel
theorem dX2_hasRow_1 : decode cX2_hasRow 1 = .ok (.ifCond .lt 15, 3) := by decide +kernel
theorem dX2_hasRow_4 : decode cX2_hasRow 4 = .ok (.iload_n 1, 1) := by decide +kernel
theorem dX2_hasRow_5 : decode cX2_hasRow 5 = .ok (.aload_n 0, 1) := by decide +kernel
theorem dX2_hasRow_6 : decode cX2_hasRow 6 = .ok (.getfield 19, 3) := by decide +kernel
theorem dX2_hasRow_9 : decode cX2_hasRow 9 = .ok (.if_icmp .ge 7, 3) := by decide +kernel
theorem dX2_hasRow_12 : decode cX2_hasRow 12 = .ok (.iconst 1, 1) := by decide +kernel
theorem dX2_hasRow_13 : decode cX2_hasRow 13 = .ok (.goto 4, 3) := by decide +kernel
theorem dX2_hasRow_16 : decode cX2_hasRow 16 = .ok (.iconst 0, 1) := by decide +kernel
theorem dX2_hasRow_17 : decode cX2_hasRow 17 = .ok (.ireturn, 1) := by decide +kernel
theorem dX2_kill_0 : decode cX2_kill 0 = .ok (.iconst 0, 1) := by decide +kernel
theorem dX2_kill_1 : decode cX2_kill 1 = .ok (.istore_n 2, 1) := by decide +kernel
theorem dX2_kill_2 : decode cX2_kill 2 = .ok (.iload_n 2, 1) := by decide +kernel
theorem dX2_kill_3 : decode cX2_kill 3 = .ok (.aload_n 0, 1) := by decide +kernel
theorem dX2_kill_4 : decode cX2_kill 4 = .ok (.getfield 19, 3) := by decide +kernel
theorem dX2_kill_7 : decode cX2_kill 7 = .ok (.if_icmp .ge 55, 3) := by decide +kernel
theorem dX2_kill_10 : decode cX2_kill 10 = .ok (.aload_n 0, 1) := by decide +kernel
theorem dX2_kill_11 : decode cX2_kill 11 = .ok (.getfield 22, 3) := by decide +kernel
theorem dX2_kill_14 : decode cX2_kill 14 = .ok (.iload_n 2, 1) := by decide +kernel
theorem dX2_kill_15 : decode cX2_kill 15 = .ok (.iaload, 1) := by decide +kernel
theorem dX2_kill_16 : decode cX2_kill 16 = .ok (.iload_n 1, 1) := by decide +kernel
theorem dX2_kill_17 : decode cX2_kill 17 = .ok (.if_icmp .gt 45, 3) := by decide +kernel
theorem dX2_kill_20 : decode cX2_kill 20 = .ok (.aload_n 0, 1) := by decide +kernel
theorem dX2_kill_21 : decode cX2_kill 21 = .ok (.getfield 22, 3) := by decide +kernel
theorem dX2_kill_24 : decode cX2_kill 24 = .ok (.iload_n 2, 1) := by decide +kernel
theorem dX2_kill_25 : decode cX2_kill 25 = .ok (.iaload, 1) := by decide +kernel
theorem dX2_kill_26 : decode cX2_kill 26 = .ok (.iload_n 1, 1) := by decide +kernel
theorem dX2_kill_27 : decode cX2_kill 27 = .ok (.if_icmp .ne 29, 3) := by decide +kernel
theorem dX2_kill_30 : decode cX2_kill 30 = .ok (.aload_n 0, 1) := by decide +kernel
theorem dX2_kill_31 : decode cX2_kill 31 = .ok (.getfield 29, 3) := by decide +kernel
theorem dX2_kill_34 : decode cX2_kill 34 = .ok (.iload_n 2, 1) := by decide +kernel
theorem dX2_kill_35 : decode cX2_kill 35 = .ok (.baload, 1) := by decide +kernel
theorem dX2_kill_36 : decode cX2_kill 36 = .ok (.ifCond .eq 20, 3) := by decide +kernel
theorem dX2_kill_39 : decode cX2_kill 39 = .ok (.aload_n 0, 1) := by decide +kernel
theorem dX2_kill_40 : decode cX2_kill 40 = .ok (.getfield 29, 3) := by decide +kernel
theorem dX2_kill_43 : decode cX2_kill 43 = .ok (.iload_n 2, 1) := by decide +kernel
theorem dX2_kill_44 : decode cX2_kill 44 = .ok (.iconst 0, 1) := by decide +kernel
theorem dX2_kill_45 : decode cX2_kill 45 = .ok (.bastore, 1) := by decide +kernel
theorem dX2_kill_46 : decode cX2_kill 46 = .ok (.aload_n 0, 1) := by decide +kernel
theorem dX2_kill_47 : decode cX2_kill 47 = .ok (.dup, 1) := by decide +kernel
theorem dX2_kill_48 : decode cX2_kill 48 = .ok (.getfield 7, 3) := by decide +kernel
theorem dX2_kill_51 : decode cX2_kill 51 = .ok (.iconst 1, 1) := by decide +kernel
theorem dX2_kill_52 : decode cX2_kill 52 = .ok (.isub, 1) := by decide +kernel
theorem dX2_kill_53 : decode cX2_kill 53 = .ok (.putfield 7, 3) := by decide +kernel
theorem dX2_kill_56 : decode cX2_kill 56 = .ok (.iinc 2 1, 3) := by decide +kernel
theorem dX2_kill_59 : decode cX2_kill 59 = .ok (.goto (-57), 3) := by decide +kernel
theorem dX2_kill_62 : decode cX2_kill 62 = .ok (.return_, 1) := by decide +kernel
theorem dX2_isDeaderThan_0 : decode cX2_isDeaderThan 0 = .ok (.aload_n 0, 1) := by decide +kernel
theorem dX2_isDeaderThan_1 : decode cX2_isDeaderThan 1 = .ok (.getfield 19, 3) := by decide +kernel
theorem dX2_isDeaderThan_4 : decode cX2_isDeaderThan 4 = .ok (.aload_n 0, 1) := by decide +kernel
theorem dX2_isDeaderThan_5 : decode cX2_isDeaderThan 5 = .ok (.getfield 7, 3) := by decide +kernel
theorem dX2_isDeaderThan_8 : decode cX2_isDeaderThan 8 = .ok (.isub, 1) := by decide +kernel
theorem dX2_isDeaderThan_9 : decode cX2_isDeaderThan 9 = .ok (.aload_n 1, 1) := by decide +kernel
theorem dX2_isDeaderThan_10 : decode cX2_isDeaderThan 10 = .ok (.getfield 19, 3) := by decide +kernel
theorem dX2_isDeaderThan_13 : decode cX2_isDeaderThan 13 = .ok (.imul, 1) := by decide +kernel
theorem dX2_isDeaderThan_14 : decode cX2_isDeaderThan 14 = .ok (.aload_n 1, 1) := by decide +kernel
theorem dX2_isDeaderThan_15 : decode cX2_isDeaderThan 15 = .ok (.getfield 19, 3) := by decide +kernel
theorem dX2_isDeaderThan_18 : decode cX2_isDeaderThan 18 = .ok (.aload_n 1, 1) := by decide +kernel
theorem dX2_isDeaderThan_19 : decode cX2_isDeaderThan 19 = .ok (.getfield 7, 3) := by decide +kernel
theorem dX2_isDeaderThan_22 : decode cX2_isDeaderThan 22 = .ok (.isub, 1) := by decide +kernel
theorem dX2_isDeaderThan_23 : decode cX2_isDeaderThan 23 = .ok (.aload_n 0, 1) := by decide +kernel
theorem dX2_isDeaderThan_24 : decode cX2_isDeaderThan 24 = .ok (.getfield 19, 3) := by decide +kernel
theorem dX2_isDeaderThan_27 : decode cX2_isDeaderThan 27 = .ok (.imul, 1) := by decide +kernel
theorem dX2_isDeaderThan_28 : decode cX2_isDeaderThan 28 = .ok (.if_icmp .le 7, 3) := by decide +kernel
theorem dX2_isDeaderThan_31 : decode cX2_isDeaderThan 31 = .ok (.iconst 1, 1) := by decide +kernel
theorem dX2_isDeaderThan_32 : decode cX2_isDeaderThan 32 = .ok (.goto 4, 3) := by decide +kernel
theorem dX2_isDeaderThan_35 : decode cX2_isDeaderThan 35 = .ok (.iconst 0, 1) := by decide +kernel
theorem dX2_isDeaderThan_36 : decode cX2_isDeaderThan 36 = .ok (.ireturn, 1) := by decide +kernel
set_option maxRecDepth 20000 in
theorem ggX3_init_X0_init : GoodIn wsX3_init wsX0_init := goodIn_r _ [23, 24, 2, 3, 4, 25, 26, 27, 43, 44, 45] (by decide +kernel) (by decide +kernel)
set_option maxRecDepth 20000 in
theorem gX3_init_X0_init_n15 : GoodIn wsX3_init (wsX0_init) := ggX3_init_X0_init
set_option maxRecDepth 20000 in
theorem ggX3_init_J7_fill_53178 : GoodIn wsX3_init wsJ7_fill_53178 := goodIn_r _ [31] (by decide +kernel) (by decide +kernel)
set_option maxRecDepth 20000 in
theorem gX3_init_J7_fill_53178 : GoodIn wsX3_init (va_wsS RX3 55 yJ7_fill_53178 wsJ7_fill_53178) := goodIn_app (goodIn_of _ (by decide +kernel)) ggX3_init_J7_fill_53178
theorem dX3_init_0 : decode cX3_init 0 = .ok (.aload_n 0, 1) := by decide +kernel
theorem dX3_init_1 : decode cX3_init 1 = .ok (.invokespecial 1, 3) := by decide +kernel
theorem dX3_init_4 : decode cX3_init 4 = .ok (.aload_n 0, 1) := by decide +kernel
theorem dX3_init_5 : decode cX3_init 5 = .ok (.bipush 100, 2) := by decide +kernel
theorem dX3_init_7 : decode cX3_init 7 = .ok (.newarray .int, 2) := by decide +kernel
theorem dX3_init_9 : decode cX3_init 9 = .ok (.putfield 9, 3) := by decide +kernel
theorem dX3_init_12 : decode cX3_init 12 = .ok (.aload_n 0, 1) := by decide +kernel
theorem dX3_init_13 : decode cX3_init 13 = .ok (.new 13, 3) := by decide +kernel
theorem dX3_init_16 : decode cX3_init 16 = .ok (.dup, 1) := by decide +kernel
theorem dX3_init_17 : decode cX3_init 17 = .ok (.invokespecial 15, 3) := by decide +kernel
theorem dX3_init_20 : decode cX3_init 20 = .ok (.putfield 16, 3) := by decide +kernel
theorem dX3_init_23 : decode cX3_init 23 = .ok (.aload_n 0, 1) := by decide +kernel
theorem dX3_init_24 : decode cX3_init 24 = .ok (.bipush 20, 2) := by decide +kernel
theorem dX3_init_26 : decode cX3_init 26 = .ok (.anewarray 20, 3) := by decide +kernel
theorem dX3_init_29 : decode cX3_init 29 = .ok (.putfield 22, 3) := by decide +kernel
theorem dX3_init_32 : decode cX3_init 32 = .ok (.aload_n 0, 1) := by decide +kernel
theorem dX3_init_33 : decode cX3_init 33 = .ok (.iconst 0, 1) := by decide +kernel
theorem dX3_init_34 : decode cX3_init 34 = .ok (.putfield 26, 3) := by decide +kernel
theorem dX3_init_37 : decode cX3_init 37 = .ok (.aload_n 0, 1) := by decide +kernel
theorem dX3_init_38 : decode cX3_init 38 = .ok (.iconst 0, 1) := by decide +kernel
theorem dX3_init_39 : decode cX3_init 39 = .ok (.putfield 30, 3) := by decide +kernel
theorem dX3_init_42 : decode cX3_init 42 = .ok (.aload_n 0, 1) := by decide +kernel
theorem dX3_init_43 : decode cX3_init 43 = .ok (.iconst 0, 1) := by decide +kernel
theorem dX3_init_44 : decode cX3_init 44 = .ok (.putfield 33, 3) := by decide +kernel
theorem dX3_init_47 : decode cX3_init 47 = .ok (.aload_n 0, 1) := by decide +kernel
theorem dX3_init_48 : decode cX3_init 48 = .ok (.iconst 3, 1) := by decide +kernel
theorem dX3_init_49 : decode cX3_init 49 = .ok (.putfield 36, 3) := by decide +kernel
theorem dX3_init_52 : decode cX3_init 52 = .ok (.aload_n 0, 1) := by decide +kernel
theorem dX3_init_53 : decode cX3_init 53 = .ok (.aconst_null, 1) := by decide +kernel
theorem dX3_init_54 : decode cX3_init 54 = .ok (.putfield 39, 3) := by decide +kernel
theorem dX3_init_57 : decode cX3_init 57 = .ok (.aload_n 0, 1) := by decide +kernel
theorem dX3_init_58 : decode cX3_init 58 = .ok (.aconst_null, 1) := by decide +kernel
theorem dX3_init_59 : decode cX3_init 59 = .ok (.putfield 43, 3) := by decide +kernel
theorem dX3_init_62 : decode cX3_init 62 = .ok (.aload_n 0, 1) := by decide +kernel
theorem dX3_init_63 : decode cX3_init 63 = .ok (.iconst 4, 1) := by decide +kernel
theorem dX3_init_64 : decode cX3_init 64 = .ok (.bipush 100, 2) := by decide +kernel
theorem dX3_init_66 : decode cX3_init 66 = .ok (.multianewarray 46 2, 4) := by decide +kernel
theorem dX3_init_70 : decode cX3_init 70 = .ok (.putfield 48, 3) := by decide +kernel
theorem dX3_init_73 : decode cX3_init 73 = .ok (.aload_n 0, 1) := by decide +kernel
theorem dX3_init_74 : decode cX3_init 74 = .ok (.iconst 4, 1) := by decide +kernel
theorem dX3_init_75 : decode cX3_init 75 = .ok (.newarray .boolean, 2) := by decide +kernel
theorem dX3_init_77 : decode cX3_init 77 = .ok (.putfield 51, 3) := by decide +kernel
theorem dX3_init_80 : decode cX3_init 80 = .ok (.aload_n 0, 1) := by decide +kernel
theorem dX3_init_81 : decode cX3_init 81 = .ok (.getfield 9, 3) := by decide +kernel
theorem dX3_init_84 : decode cX3_init 84 = .ok (.iconst (-1), 1) := by decide +kernel
theorem dX3_init_85 : decode cX3_init 85 = .ok (.invokestatic 55, 3) := by decide +kernel
theorem dX3_init_88 : decode cX3_init 88 = .ok (.return_, 1) := by decide +kernel
set_option maxRecDepth 20000 in
theorem ggX3_put_X3_isKey : GoodIn wsX3_put wsX3_isKey := goodIn_r _ [8] (by decide +kernel) (by decide +kernel)
set_option maxRecDepth 20000 in
theorem gX3_put_X3_isKey : GoodIn wsX3_put (va_wsS RX3 61 yX3_isKey wsX3_isKey) := goodIn_app (goodIn_of _ (by decide +kernel)) ggX3_put_X3_isKey
set_option maxRecDepth 20000 in
theorem ggX3_put_X0_find : GoodIn wsX3_put wsX0_find := goodIn_r _ [13, 14, 15, 47, 48, 49] (by decide +kernel) (by decide +kernel)
set_option maxRecDepth 20000 in
theorem gX3_put_X0_find : GoodIn wsX3_put (wsV RX3 65 RX0 yX0_find wsX0_find) := goodIn_app (goodIn_of _ (by decide +kernel)) ggX3_put_X0_find
set_option maxRecDepth 20000 in
theorem ggX3_put_X3_killRowOf : GoodIn wsX3_put wsX3_killRowOf := goodIn_r _ [19, 20, 21, 22, 23, 24, 25, 26, 27, 28, 29, 30, 36, 37, 38, 39, 40, 41, 42, 43, 44, 45, 46, 50, 51, 52, 53, 54, 55, 56, 57] (by decide +kernel) (by decide +kernel)
set_option maxRecDepth 20000 in
theorem gX3_put_X3_killRowOf : GoodIn wsX3_put (wsV RX3 72 RX3 yX3_killRowOf wsX3_killRowOf) := goodIn_app (goodIn_of _ (by decide +kernel)) ggX3_put_X3_killRowOf
set_option maxRecDepth 20000 in
theorem ggX3_put_X0_append : GoodIn wsX3_put wsX0_append := goodIn_r _ [34, 15, 14, 35, 47, 48, 49] (by decide +kernel) (by decide +kernel)
set_option maxRecDepth 20000 in
theorem gX3_put_X0_append : GoodIn wsX3_put (wsV RX3 76 RX0 yX0_append wsX0_append) := goodIn_app (goodIn_of _ (by decide +kernel)) ggX3_put_X0_append
theorem dX3_put_0 : decode cX3_put 0 = .ok (.iload_n 1, 1) := by decide +kernel
theorem dX3_put_1 : decode cX3_put 1 = .ok (.invokestatic 61, 3) := by decide +kernel
theorem dX3_put_4 : decode cX3_put 4 = .ok (.ifCond .ne 5, 3) := by decide +kernel
theorem dX3_put_7 : decode cX3_put 7 = .ok (.iconst (-1), 1) := by decide +kernel
theorem dX3_put_8 : decode cX3_put 8 = .ok (.ireturn, 1) := by decide +kernel
theorem dX3_put_9 : decode cX3_put 9 = .ok (.iload_n 2, 1) := by decide +kernel
theorem dX3_put_10 : decode cX3_put 10 = .ok (.ifCond .lt 10, 3) := by decide +kernel
theorem dX3_put_13 : decode cX3_put 13 = .ok (.iload_n 2, 1) := by decide +kernel
theorem dX3_put_14 : decode cX3_put 14 = .ok (.sipush 1000, 3) := by decide +kernel
theorem dX3_put_17 : decode cX3_put 17 = .ok (.if_icmp .lt 6, 3) := by decide +kernel
theorem dX3_put_20 : decode cX3_put 20 = .ok (.bipush (-2), 2) := by decide +kernel
theorem dX3_put_22 : decode cX3_put 22 = .ok (.ireturn, 1) := by decide +kernel
theorem dX3_put_23 : decode cX3_put 23 = .ok (.aload_n 0, 1) := by decide +kernel
theorem dX3_put_24 : decode cX3_put 24 = .ok (.getfield 16, 3) := by decide +kernel
theorem dX3_put_27 : decode cX3_put 27 = .ok (.iload_n 1, 1) := by decide +kernel
theorem dX3_put_28 : decode cX3_put 28 = .ok (.invokevirtual 65, 3) := by decide +kernel
theorem dX3_put_31 : decode cX3_put 31 = .ok (.istore_n 3, 1) := by decide +kernel
theorem dX3_put_32 : decode cX3_put 32 = .ok (.iload_n 3, 1) := by decide +kernel
theorem dX3_put_33 : decode cX3_put 33 = .ok (.iconst (-1), 1) := by decide +kernel
theorem dX3_put_34 : decode cX3_put 34 = .ok (.if_icmp .ne 18, 3) := by decide +kernel
theorem dX3_put_37 : decode cX3_put 37 = .ok (.aload_n 0, 1) := by decide +kernel
theorem dX3_put_38 : decode cX3_put 38 = .ok (.getfield 16, 3) := by decide +kernel
theorem dX3_put_41 : decode cX3_put 41 = .ok (.getfield 69, 3) := by decide +kernel
theorem dX3_put_44 : decode cX3_put 44 = .ok (.bipush 6, 2) := by decide +kernel
theorem dX3_put_46 : decode cX3_put 46 = .ok (.if_icmp .ne 6, 3) := by decide +kernel
theorem dX3_put_49 : decode cX3_put 49 = .ok (.bipush (-4), 2) := by decide +kernel
theorem dX3_put_51 : decode cX3_put 51 = .ok (.ireturn, 1) := by decide +kernel
theorem dX3_put_52 : decode cX3_put 52 = .ok (.iload_n 3, 1) := by decide +kernel
theorem dX3_put_53 : decode cX3_put 53 = .ok (.iconst (-1), 1) := by decide +kernel
theorem dX3_put_54 : decode cX3_put 54 = .ok (.if_icmp .ne 20, 3) := by decide +kernel
theorem dX3_put_57 : decode cX3_put 57 = .ok (.aload_n 0, 1) := by decide +kernel
theorem dX3_put_58 : decode cX3_put 58 = .ok (.iload_n 1, 1) := by decide +kernel
theorem dX3_put_59 : decode cX3_put 59 = .ok (.invokevirtual 72, 3) := by decide +kernel
theorem dX3_put_62 : decode cX3_put 62 = .ok (.aload_n 0, 1) := by decide +kernel
theorem dX3_put_63 : decode cX3_put 63 = .ok (.getfield 16, 3) := by decide +kernel
theorem dX3_put_66 : decode cX3_put 66 = .ok (.iload_n 1, 1) := by decide +kernel
theorem dX3_put_67 : decode cX3_put 67 = .ok (.iload_n 2, 1) := by decide +kernel
theorem dX3_put_68 : decode cX3_put 68 = .ok (.invokevirtual 76, 3) := by decide +kernel
theorem dX3_put_71 : decode cX3_put 71 = .ok (.goto 13, 3) := by decide +kernel
theorem dX3_put_74 : decode cX3_put 74 = .ok (.aload_n 0, 1) := by decide +kernel
theorem dX3_put_75 : decode cX3_put 75 = .ok (.getfield 16, 3) := by decide +kernel
theorem dX3_put_78 : decode cX3_put 78 = .ok (.getfield 80, 3) := by decide +kernel
theorem dX3_put_81 : decode cX3_put 81 = .ok (.iload_n 3, 1) := by decide +kernel
theorem dX3_put_82 : decode cX3_put 82 = .ok (.iload_n 2, 1) := by decide +kernel
theorem dX3_put_83 : decode cX3_put 83 = .ok (.iastore, 1) := by decide +kernel
theorem dX3_put_84 : decode cX3_put 84 = .ok (.aload_n 0, 1) := by decide +kernel
theorem dX3_put_85 : decode cX3_put 85 = .ok (.getfield 9, 3) := by decide +kernel
theorem dX3_put_88 : decode cX3_put 88 = .ok (.iload_n 1, 1) := by decide +kernel
theorem dX3_put_89 : decode cX3_put 89 = .ok (.iload_n 2, 1) := by decide +kernel
theorem dX3_put_90 : decode cX3_put 90 = .ok (.iastore, 1) := by decide +kernel
theorem dX3_put_91 : decode cX3_put 91 = .ok (.aload_n 0, 1) := by decide +kernel
theorem dX3_put_92 : decode cX3_put 92 = .ok (.getfield 16, 3) := by decide +kernel
theorem dX3_put_95 : decode cX3_put 95 = .ok (.getfield 69, 3) := by decide +kernel
theorem dX3_put_98 : decode cX3_put 98 = .ok (.ireturn, 1) := by decide +kernel
set_option maxRecDepth 20000 in
theorem ggX3_drop_X3_isKey : GoodIn wsX3_drop wsX3_isKey := goodIn_r _ [6] (by decide +kernel) (by decide +kernel)
set_option maxRecDepth 20000 in
theorem gX3_drop_X3_isKey : GoodIn wsX3_drop (va_wsS RX3 61 yX3_isKey wsX3_isKey) := goodIn_app (goodIn_of _ (by decide +kernel)) ggX3_drop_X3_isKey
set_option maxRecDepth 20000 in
theorem ggX3_drop_X0_find : GoodIn wsX3_drop wsX0_find := goodIn_r _ [11, 12, 13, 45, 46, 47] (by decide +kernel) (by decide +kernel)
set_option maxRecDepth 20000 in
theorem gX3_drop_X0_find : GoodIn wsX3_drop (wsV RX3 65 RX0 yX0_find wsX0_find) := goodIn_app (goodIn_of _ (by decide +kernel)) ggX3_drop_X0_find
set_option maxRecDepth 20000 in
theorem ggX3_drop_X3_killRowOf : GoodIn wsX3_drop wsX3_killRowOf := goodIn_r _ [17, 18, 19, 20, 21, 22, 23, 24, 25, 26, 27, 28, 34, 35, 36, 37, 38, 39, 40, 41, 42, 43, 44, 48, 49, 50, 51, 52, 53, 54, 55] (by decide +kernel) (by decide +kernel)
set_option maxRecDepth 20000 in
theorem gX3_drop_X3_killRowOf : GoodIn wsX3_drop (wsV RX3 72 RX3 yX3_killRowOf wsX3_killRowOf) := goodIn_app (goodIn_of _ (by decide +kernel)) ggX3_drop_X3_killRowOf
set_option maxRecDepth 20000 in
theorem ggX3_drop_X0_removeAt : GoodIn wsX3_drop wsX0_removeAt := goodIn_r _ [32, 12, 13, 33, 45, 46, 47] (by decide +kernel) (by decide +kernel)
set_option maxRecDepth 20000 in
theorem gX3_drop_X0_removeAt : GoodIn wsX3_drop (wsV RX3 83 RX0 yX0_removeAt wsX0_removeAt) := goodIn_app (goodIn_of _ (by decide +kernel)) ggX3_drop_X0_removeAt
theorem dX3_drop_0 : decode cX3_drop 0 = .ok (.iload_n 1, 1) := by decide +kernel
theorem dX3_drop_1 : decode cX3_drop 1 = .ok (.invokestatic 61, 3) := by decide +kernel
theorem dX3_drop_4 : decode cX3_drop 4 = .ok (.ifCond .ne 5, 3) := by decide +kernel
theorem dX3_drop_7 : decode cX3_drop 7 = .ok (.iconst (-1), 1) := by decide +kernel
theorem dX3_drop_8 : decode cX3_drop 8 = .ok (.ireturn, 1) := by decide +kernel
theorem dX3_drop_9 : decode cX3_drop 9 = .ok (.aload_n 0, 1) := by decide +kernel
theorem dX3_drop_10 : decode cX3_drop 10 = .ok (.getfield 9, 3) := by decide +kernel
theorem dX3_drop_13 : decode cX3_drop 13 = .ok (.iload_n 1, 1) := by decide +kernel
theorem dX3_drop_14 : decode cX3_drop 14 = .ok (.iaload, 1) := by decide +kernel
theorem dX3_drop_15 : decode cX3_drop 15 = .ok (.iconst (-1), 1) := by decide +kernel
theorem dX3_drop_16 : decode cX3_drop 16 = .ok (.if_icmp .ne 5, 3) := by decide +kernel
theorem dX3_drop_19 : decode cX3_drop 19 = .ok (.iconst 0, 1) := by decide +kernel
theorem dX3_drop_20 : decode cX3_drop 20 = .ok (.ireturn, 1) := by decide +kernel
theorem dX3_drop_21 : decode cX3_drop 21 = .ok (.aload_n 0, 1) := by decide +kernel
theorem dX3_drop_22 : decode cX3_drop 22 = .ok (.getfield 16, 3) := by decide +kernel
theorem dX3_drop_25 : decode cX3_drop 25 = .ok (.iload_n 1, 1) := by decide +kernel
theorem dX3_drop_26 : decode cX3_drop 26 = .ok (.invokevirtual 65, 3) := by decide +kernel
theorem dX3_drop_29 : decode cX3_drop 29 = .ok (.istore_n 2, 1) := by decide +kernel
theorem dX3_drop_30 : decode cX3_drop 30 = .ok (.iload_n 2, 1) := by decide +kernel
theorem dX3_drop_31 : decode cX3_drop 31 = .ok (.iconst (-1), 1) := by decide +kernel
theorem dX3_drop_32 : decode cX3_drop 32 = .ok (.if_icmp .ne 11, 3) := by decide +kernel
