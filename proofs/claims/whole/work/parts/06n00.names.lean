theorem dX0_init_0 : decode cX0_init 0 = .ok (.aload_n 0, 1) := by decide +kernel
theorem dX0_init_1 : decode cX0_init 1 = .ok (.invokespecial 3, 3) := by decide +kernel
theorem dX0_init_4 : decode cX0_init 4 = .ok (.aload_n 0, 1) := by decide +kernel
theorem dX0_init_5 : decode cX0_init 5 = .ok (.bipush 6, 2) := by decide +kernel
theorem dX0_init_7 : decode cX0_init 7 = .ok (.newarray .int, 2) := by decide +kernel
theorem dX0_init_9 : decode cX0_init 9 = .ok (.putfield 9, 3) := by decide +kernel
theorem dX0_init_12 : decode cX0_init 12 = .ok (.aload_n 0, 1) := by decide +kernel
theorem dX0_init_13 : decode cX0_init 13 = .ok (.bipush 6, 2) := by decide +kernel
theorem dX0_init_15 : decode cX0_init 15 = .ok (.newarray .int, 2) := by decide +kernel
theorem dX0_init_17 : decode cX0_init 17 = .ok (.putfield 15, 3) := by decide +kernel
theorem dX0_init_20 : decode cX0_init 20 = .ok (.aload_n 0, 1) := by decide +kernel
theorem dX0_init_21 : decode cX0_init 21 = .ok (.iconst 0, 1) := by decide +kernel
theorem dX0_init_22 : decode cX0_init 22 = .ok (.putfield 18, 3) := by decide +kernel
theorem dX0_init_25 : decode cX0_init 25 = .ok (.return_, 1) := by decide +kernel
theorem dX0_find_0 : decode cX0_find 0 = .ok (.iconst 0, 1) := by decide +kernel
theorem dX0_find_1 : decode cX0_find 1 = .ok (.istore_n 2, 1) := by decide +kernel
theorem dX0_find_2 : decode cX0_find 2 = .ok (.iload_n 2, 1) := by decide +kernel
theorem dX0_find_3 : decode cX0_find 3 = .ok (.aload_n 0, 1) := by decide +kernel
theorem dX0_find_4 : decode cX0_find 4 = .ok (.getfield 18, 3) := by decide +kernel
theorem dX0_find_7 : decode cX0_find 7 = .ok (.if_icmp .ge 21, 3) := by decide +kernel
theorem dX0_find_10 : decode cX0_find 10 = .ok (.aload_n 0, 1) := by decide +kernel
theorem dX0_find_11 : decode cX0_find 11 = .ok (.getfield 9, 3) := by decide +kernel
theorem dX0_find_14 : decode cX0_find 14 = .ok (.iload_n 2, 1) := by decide +kernel
theorem dX0_find_15 : decode cX0_find 15 = .ok (.iaload, 1) := by decide +kernel
theorem dX0_find_16 : decode cX0_find 16 = .ok (.iload_n 1, 1) := by decide +kernel
theorem dX0_find_17 : decode cX0_find 17 = .ok (.if_icmp .ne 5, 3) := by decide +kernel
theorem dX0_find_20 : decode cX0_find 20 = .ok (.iload_n 2, 1) := by decide +kernel
theorem dX0_find_21 : decode cX0_find 21 = .ok (.ireturn, 1) := by decide +kernel
theorem dX0_find_22 : decode cX0_find 22 = .ok (.iinc 2 1, 3) := by decide +kernel
theorem dX0_find_25 : decode cX0_find 25 = .ok (.goto (-23), 3) := by decide +kernel
theorem dX0_find_28 : decode cX0_find 28 = .ok (.iconst (-1), 1) := by decide +kernel
theorem dX0_find_29 : decode cX0_find 29 = .ok (.ireturn, 1) := by decide +kernel
theorem dX0_append_0 : decode cX0_append 0 = .ok (.aload_n 0, 1) := by decide +kernel
theorem dX0_append_1 : decode cX0_append 1 = .ok (.getfield 9, 3) := by decide +kernel
theorem dX0_append_4 : decode cX0_append 4 = .ok (.aload_n 0, 1) := by decide +kernel
theorem dX0_append_5 : decode cX0_append 5 = .ok (.getfield 18, 3) := by decide +kernel
theorem dX0_append_8 : decode cX0_append 8 = .ok (.iload_n 1, 1) := by decide +kernel
theorem dX0_append_9 : decode cX0_append 9 = .ok (.iastore, 1) := by decide +kernel
theorem dX0_append_10 : decode cX0_append 10 = .ok (.aload_n 0, 1) := by decide +kernel
theorem dX0_append_11 : decode cX0_append 11 = .ok (.getfield 15, 3) := by decide +kernel
theorem dX0_append_14 : decode cX0_append 14 = .ok (.aload_n 0, 1) := by decide +kernel
theorem dX0_append_15 : decode cX0_append 15 = .ok (.getfield 18, 3) := by decide +kernel
theorem dX0_append_18 : decode cX0_append 18 = .ok (.iload_n 2, 1) := by decide +kernel
theorem dX0_append_19 : decode cX0_append 19 = .ok (.iastore, 1) := by decide +kernel
theorem dX0_append_20 : decode cX0_append 20 = .ok (.aload_n 0, 1) := by decide +kernel
theorem dX0_append_21 : decode cX0_append 21 = .ok (.dup, 1) := by decide +kernel
theorem dX0_append_22 : decode cX0_append 22 = .ok (.getfield 18, 3) := by decide +kernel
theorem dX0_append_25 : decode cX0_append 25 = .ok (.iconst 1, 1) := by decide +kernel
theorem dX0_append_26 : decode cX0_append 26 = .ok (.iadd, 1) := by decide +kernel
theorem dX0_append_27 : decode cX0_append 27 = .ok (.putfield 18, 3) := by decide +kernel
theorem dX0_append_30 : decode cX0_append 30 = .ok (.return_, 1) := by decide +kernel
theorem dX0_removeAt_0 : decode cX0_removeAt 0 = .ok (.iload_n 1, 1) := by decide +kernel
theorem dX0_removeAt_1 : decode cX0_removeAt 1 = .ok (.istore_n 2, 1) := by decide +kernel
theorem dX0_removeAt_2 : decode cX0_removeAt 2 = .ok (.iload_n 2, 1) := by decide +kernel
theorem dX0_removeAt_3 : decode cX0_removeAt 3 = .ok (.iconst 1, 1) := by decide +kernel
theorem dX0_removeAt_4 : decode cX0_removeAt 4 = .ok (.iadd, 1) := by decide +kernel
theorem dX0_removeAt_5 : decode cX0_removeAt 5 = .ok (.aload_n 0, 1) := by decide +kernel
theorem dX0_removeAt_6 : decode cX0_removeAt 6 = .ok (.getfield 18, 3) := by decide +kernel
theorem dX0_removeAt_9 : decode cX0_removeAt 9 = .ok (.if_icmp .ge 37, 3) := by decide +kernel
theorem dX0_removeAt_12 : decode cX0_removeAt 12 = .ok (.aload_n 0, 1) := by decide +kernel
theorem dX0_removeAt_13 : decode cX0_removeAt 13 = .ok (.getfield 9, 3) := by decide +kernel
theorem dX0_removeAt_16 : decode cX0_removeAt 16 = .ok (.iload_n 2, 1) := by decide +kernel
theorem dX0_removeAt_17 : decode cX0_removeAt 17 = .ok (.aload_n 0, 1) := by decide +kernel
theorem dX0_removeAt_18 : decode cX0_removeAt 18 = .ok (.getfield 9, 3) := by decide +kernel
theorem dX0_removeAt_21 : decode cX0_removeAt 21 = .ok (.iload_n 2, 1) := by decide +kernel
theorem dX0_removeAt_22 : decode cX0_removeAt 22 = .ok (.iconst 1, 1) := by decide +kernel
theorem dX0_removeAt_23 : decode cX0_removeAt 23 = .ok (.iadd, 1) := by decide +kernel
theorem dX0_removeAt_24 : decode cX0_removeAt 24 = .ok (.iaload, 1) := by decide +kernel
theorem dX0_removeAt_25 : decode cX0_removeAt 25 = .ok (.iastore, 1) := by decide +kernel
theorem dX0_removeAt_26 : decode cX0_removeAt 26 = .ok (.aload_n 0, 1) := by decide +kernel
theorem dX0_removeAt_27 : decode cX0_removeAt 27 = .ok (.getfield 15, 3) := by decide +kernel
theorem dX0_removeAt_30 : decode cX0_removeAt 30 = .ok (.iload_n 2, 1) := by decide +kernel
theorem dX0_removeAt_31 : decode cX0_removeAt 31 = .ok (.aload_n 0, 1) := by decide +kernel
theorem dX0_removeAt_32 : decode cX0_removeAt 32 = .ok (.getfield 15, 3) := by decide +kernel
theorem dX0_removeAt_35 : decode cX0_removeAt 35 = .ok (.iload_n 2, 1) := by decide +kernel
theorem dX0_removeAt_36 : decode cX0_removeAt 36 = .ok (.iconst 1, 1) := by decide +kernel
theorem dX0_removeAt_37 : decode cX0_removeAt 37 = .ok (.iadd, 1) := by decide +kernel
theorem dX0_removeAt_38 : decode cX0_removeAt 38 = .ok (.iaload, 1) := by decide +kernel
theorem dX0_removeAt_39 : decode cX0_removeAt 39 = .ok (.iastore, 1) := by decide +kernel
theorem dX0_removeAt_40 : decode cX0_removeAt 40 = .ok (.iinc 2 1, 3) := by decide +kernel
theorem dX0_removeAt_43 : decode cX0_removeAt 43 = .ok (.goto (-41), 3) := by decide +kernel
theorem dX0_removeAt_46 : decode cX0_removeAt 46 = .ok (.aload_n 0, 1) := by decide +kernel
theorem dX0_removeAt_47 : decode cX0_removeAt 47 = .ok (.dup, 1) := by decide +kernel
theorem dX0_removeAt_48 : decode cX0_removeAt 48 = .ok (.getfield 18, 3) := by decide +kernel
theorem dX0_removeAt_51 : decode cX0_removeAt 51 = .ok (.iconst 1, 1) := by decide +kernel
theorem dX0_removeAt_52 : decode cX0_removeAt 52 = .ok (.isub, 1) := by decide +kernel
theorem dX0_removeAt_53 : decode cX0_removeAt 53 = .ok (.putfield 18, 3) := by decide +kernel
theorem dX0_removeAt_56 : decode cX0_removeAt 56 = .ok (.return_, 1) := by decide +kernel
set_option maxRecDepth 20000 in
theorem ggX0_asSegment_X2_init : GoodIn wsX0_asSegment wsX2_init := goodIn_r _ [9, 10, 11, 12, 13, 14, 15, 16, 17, 18, 19, 20, 21, 22, 32, 33, 34, 35, 36, 37, 38, 39] (by decide +kernel) (by decide +kernel)
set_option maxRecDepth 20000 in
theorem gX0_asSegment_X2_init : GoodIn wsX0_asSegment (wsX2_init) := ggX0_asSegment_X2_init
set_option maxRecDepth 20000 in
theorem ggX0_asSegment_X0_rankOf : GoodIn wsX0_asSegment wsX0_rankOf := goodIn_r _ [27, 4, 5, 40, 41, 42] (by decide +kernel) (by decide +kernel)
set_option maxRecDepth 20000 in
theorem gX0_asSegment_X0_rankOf : GoodIn wsX0_asSegment (wsV RX0 27 RX0 yX0_rankOf wsX0_rankOf) := goodIn_app (goodIn_of _ (by decide +kernel)) ggX0_asSegment_X0_rankOf
set_option maxRecDepth 20000 in
theorem ggX0_asSegment_X2_write : GoodIn wsX0_asSegment wsX2_write := goodIn_r _ [31, 18, 19, 21, 13, 32, 33, 34, 35, 36, 37, 38, 39] (by decide +kernel) (by decide +kernel)
set_option maxRecDepth 20000 in
theorem gX0_asSegment_X2_write : GoodIn wsX0_asSegment (wsV RX0 31 RX2 yX2_write wsX2_write) := goodIn_app (goodIn_of _ (by decide +kernel)) ggX0_asSegment_X2_write
theorem dX0_asSegment_0 : decode cX0_asSegment 0 = .ok (.new 22, 3) := by decide +kernel
theorem dX0_asSegment_3 : decode cX0_asSegment 3 = .ok (.dup, 1) := by decide +kernel
theorem dX0_asSegment_4 : decode cX0_asSegment 4 = .ok (.iload_n 1, 1) := by decide +kernel
theorem dX0_asSegment_5 : decode cX0_asSegment 5 = .ok (.iconst 0, 1) := by decide +kernel
theorem dX0_asSegment_6 : decode cX0_asSegment 6 = .ok (.aload_n 0, 1) := by decide +kernel
theorem dX0_asSegment_7 : decode cX0_asSegment 7 = .ok (.getfield 18, 3) := by decide +kernel
theorem dX0_asSegment_10 : decode cX0_asSegment 10 = .ok (.invokespecial 24, 3) := by decide +kernel
theorem dX0_asSegment_13 : decode cX0_asSegment 13 = .ok (.astore_n 2, 1) := by decide +kernel
theorem dX0_asSegment_14 : decode cX0_asSegment 14 = .ok (.iconst 0, 1) := by decide +kernel
theorem dX0_asSegment_15 : decode cX0_asSegment 15 = .ok (.istore_n 3, 1) := by decide +kernel
theorem dX0_asSegment_16 : decode cX0_asSegment 16 = .ok (.iload_n 3, 1) := by decide +kernel
theorem dX0_asSegment_17 : decode cX0_asSegment 17 = .ok (.aload_n 0, 1) := by decide +kernel
theorem dX0_asSegment_18 : decode cX0_asSegment 18 = .ok (.getfield 18, 3) := by decide +kernel
theorem dX0_asSegment_21 : decode cX0_asSegment 21 = .ok (.if_icmp .ge 36, 3) := by decide +kernel
theorem dX0_asSegment_24 : decode cX0_asSegment 24 = .ok (.aload_n 2, 1) := by decide +kernel
theorem dX0_asSegment_25 : decode cX0_asSegment 25 = .ok (.aload_n 0, 1) := by decide +kernel
theorem dX0_asSegment_26 : decode cX0_asSegment 26 = .ok (.aload_n 0, 1) := by decide +kernel
theorem dX0_asSegment_27 : decode cX0_asSegment 27 = .ok (.getfield 9, 3) := by decide +kernel
theorem dX0_asSegment_30 : decode cX0_asSegment 30 = .ok (.iload_n 3, 1) := by decide +kernel
theorem dX0_asSegment_31 : decode cX0_asSegment 31 = .ok (.iaload, 1) := by decide +kernel
theorem dX0_asSegment_32 : decode cX0_asSegment 32 = .ok (.invokevirtual 27, 3) := by decide +kernel
theorem dX0_asSegment_35 : decode cX0_asSegment 35 = .ok (.aload_n 0, 1) := by decide +kernel
theorem dX0_asSegment_36 : decode cX0_asSegment 36 = .ok (.getfield 9, 3) := by decide +kernel
theorem dX0_asSegment_39 : decode cX0_asSegment 39 = .ok (.iload_n 3, 1) := by decide +kernel
theorem dX0_asSegment_40 : decode cX0_asSegment 40 = .ok (.iaload, 1) := by decide +kernel
theorem dX0_asSegment_41 : decode cX0_asSegment 41 = .ok (.aload_n 0, 1) := by decide +kernel
theorem dX0_asSegment_42 : decode cX0_asSegment 42 = .ok (.getfield 15, 3) := by decide +kernel
theorem dX0_asSegment_45 : decode cX0_asSegment 45 = .ok (.iload_n 3, 1) := by decide +kernel
theorem dX0_asSegment_46 : decode cX0_asSegment 46 = .ok (.iaload, 1) := by decide +kernel
theorem dX0_asSegment_47 : decode cX0_asSegment 47 = .ok (.iconst 1, 1) := by decide +kernel
theorem dX0_asSegment_48 : decode cX0_asSegment 48 = .ok (.invokevirtual 31, 3) := by decide +kernel
theorem dX0_asSegment_51 : decode cX0_asSegment 51 = .ok (.iinc 3 1, 3) := by decide +kernel
theorem dX0_asSegment_54 : decode cX0_asSegment 54 = .ok (.goto (-38), 3) := by decide +kernel
theorem dX0_asSegment_57 : decode cX0_asSegment 57 = .ok (.aload_n 2, 1) := by decide +kernel
theorem dX0_asSegment_58 : decode cX0_asSegment 58 = .ok (.areturn, 1) := by decide +kernel
theorem dX0_rankOf_0 : decode cX0_rankOf 0 = .ok (.iconst 0, 1) := by decide +kernel
theorem dX0_rankOf_1 : decode cX0_rankOf 1 = .ok (.istore_n 2, 1) := by decide +kernel
theorem dX0_rankOf_2 : decode cX0_rankOf 2 = .ok (.iconst 0, 1) := by decide +kernel
theorem dX0_rankOf_3 : decode cX0_rankOf 3 = .ok (.istore_n 3, 1) := by decide +kernel
theorem dX0_rankOf_4 : decode cX0_rankOf 4 = .ok (.iload_n 3, 1) := by decide +kernel
theorem dX0_rankOf_5 : decode cX0_rankOf 5 = .ok (.aload_n 0, 1) := by decide +kernel
theorem dX0_rankOf_6 : decode cX0_rankOf 6 = .ok (.getfield 18, 3) := by decide +kernel
theorem dX0_rankOf_9 : decode cX0_rankOf 9 = .ok (.if_icmp .ge 22, 3) := by decide +kernel
theorem dX0_rankOf_12 : decode cX0_rankOf 12 = .ok (.aload_n 0, 1) := by decide +kernel
theorem dX0_rankOf_13 : decode cX0_rankOf 13 = .ok (.getfield 9, 3) := by decide +kernel
theorem dX0_rankOf_16 : decode cX0_rankOf 16 = .ok (.iload_n 3, 1) := by decide +kernel
theorem dX0_rankOf_17 : decode cX0_rankOf 17 = .ok (.iaload, 1) := by decide +kernel
theorem dX0_rankOf_18 : decode cX0_rankOf 18 = .ok (.iload_n 1, 1) := by decide +kernel
theorem dX0_rankOf_19 : decode cX0_rankOf 19 = .ok (.if_icmp .ge 6, 3) := by decide +kernel
theorem dX0_rankOf_22 : decode cX0_rankOf 22 = .ok (.iinc 2 1, 3) := by decide +kernel
theorem dX0_rankOf_25 : decode cX0_rankOf 25 = .ok (.iinc 3 1, 3) := by decide +kernel
theorem dX0_rankOf_28 : decode cX0_rankOf 28 = .ok (.goto (-24), 3) := by decide +kernel
theorem dX0_rankOf_31 : decode cX0_rankOf 31 = .ok (.iload_n 2, 1) := by decide +kernel
theorem dX0_rankOf_32 : decode cX0_rankOf 32 = .ok (.ireturn, 1) := by decide +kernel
theorem dX1_init_0 : decode cX1_init 0 = .ok (.aload_n 0, 1) := by decide +kernel
theorem dX1_init_1 : decode cX1_init 1 = .ok (.invokespecial 3, 3) := by decide +kernel
theorem dX1_init_4 : decode cX1_init 4 = .ok (.aload_n 0, 1) := by decide +kernel
theorem dX1_init_5 : decode cX1_init 5 = .ok (.iconst 0, 1) := by decide +kernel
theorem dX1_init_6 : decode cX1_init 6 = .ok (.putfield 9, 3) := by decide +kernel
theorem dX1_init_9 : decode cX1_init 9 = .ok (.aload_n 0, 1) := by decide +kernel
theorem dX1_init_10 : decode cX1_init 10 = .ok (.iconst 0, 1) := by decide +kernel
theorem dX1_init_11 : decode cX1_init 11 = .ok (.putfield 15, 3) := by decide +kernel
theorem dX1_init_14 : decode cX1_init 14 = .ok (.aload_n 0, 1) := by decide +kernel
theorem dX1_init_15 : decode cX1_init 15 = .ok (.iconst 0, 1) := by decide +kernel
theorem dX1_init_16 : decode cX1_init 16 = .ok (.putfield 18, 3) := by decide +kernel
theorem dX1_init_19 : decode cX1_init 19 = .ok (.aload_n 0, 1) := by decide +kernel
theorem dX1_init_20 : decode cX1_init 20 = .ok (.iload_n 2, 1) := by decide +kernel
theorem dX1_init_21 : decode cX1_init 21 = .ok (.putfield 21, 3) := by decide +kernel
theorem dX1_init_24 : decode cX1_init 24 = .ok (.aload_n 0, 1) := by decide +kernel
theorem dX1_init_25 : decode cX1_init 25 = .ok (.iload_n 3, 1) := by decide +kernel
theorem dX1_init_26 : decode cX1_init 26 = .ok (.anewarray 24, 3) := by decide +kernel
theorem dX1_init_29 : decode cX1_init 29 = .ok (.putfield 26, 3) := by decide +kernel
theorem dX1_init_32 : decode cX1_init 32 = .ok (.aload_n 0, 1) := by decide +kernel
theorem dX1_init_33 : decode cX1_init 33 = .ok (.iload_n 3, 1) := by decide +kernel
theorem dX1_init_34 : decode cX1_init 34 = .ok (.newarray .int, 2) := by decide +kernel
theorem dX1_init_36 : decode cX1_init 36 = .ok (.putfield 30, 3) := by decide +kernel
theorem dX1_init_39 : decode cX1_init 39 = .ok (.iconst 0, 1) := by decide +kernel
theorem dX1_init_40 : decode cX1_init 40 = .ok (.istore 4, 2) := by decide +kernel
theorem dX1_init_42 : decode cX1_init 42 = .ok (.iload 4, 2) := by decide +kernel
theorem dX1_init_44 : decode cX1_init 44 = .ok (.iload_n 3, 1) := by decide +kernel
theorem dX1_init_45 : decode cX1_init 45 = .ok (.if_icmp .ge 41, 3) := by decide +kernel
theorem dX1_init_48 : decode cX1_init 48 = .ok (.aload_n 0, 1) := by decide +kernel
theorem dX1_init_49 : decode cX1_init 49 = .ok (.getfield 26, 3) := by decide +kernel
theorem dX1_init_52 : decode cX1_init 52 = .ok (.iload 4, 2) := by decide +kernel
theorem dX1_init_54 : decode cX1_init 54 = .ok (.aload_n 1, 1) := by decide +kernel
theorem dX1_init_55 : decode cX1_init 55 = .ok (.iload_n 2, 1) := by decide +kernel
theorem dX1_init_56 : decode cX1_init 56 = .ok (.iload 4, 2) := by decide +kernel
theorem dX1_init_58 : decode cX1_init 58 = .ok (.iadd, 1) := by decide +kernel
theorem dX1_init_59 : decode cX1_init 59 = .ok (.aaload, 1) := by decide +kernel
theorem dX1_init_60 : decode cX1_init 60 = .ok (.aastore, 1) := by decide +kernel
theorem dX1_init_61 : decode cX1_init 61 = .ok (.aload_n 0, 1) := by decide +kernel
theorem dX1_init_62 : decode cX1_init 62 = .ok (.dup, 1) := by decide +kernel
theorem dX1_init_63 : decode cX1_init 63 = .ok (.getfield 18, 3) := by decide +kernel
theorem dX1_init_66 : decode cX1_init 66 = .ok (.aload_n 0, 1) := by decide +kernel
theorem dX1_init_67 : decode cX1_init 67 = .ok (.getfield 26, 3) := by decide +kernel
theorem dX1_init_70 : decode cX1_init 70 = .ok (.iload 4, 2) := by decide +kernel
theorem dX1_init_72 : decode cX1_init 72 = .ok (.aaload, 1) := by decide +kernel
theorem dX1_init_73 : decode cX1_init 73 = .ok (.getfield 34, 3) := by decide +kernel
theorem dX1_init_76 : decode cX1_init 76 = .ok (.iadd, 1) := by decide +kernel
theorem dX1_init_77 : decode cX1_init 77 = .ok (.putfield 18, 3) := by decide +kernel
theorem dX1_init_80 : decode cX1_init 80 = .ok (.iinc 4 1, 3) := by decide +kernel
theorem dX1_init_83 : decode cX1_init 83 = .ok (.goto (-41), 3) := by decide +kernel
theorem dX1_init_86 : decode cX1_init 86 = .ok (.return_, 1) := by decide +kernel
theorem dX1_isOf_0 : decode cX1_isOf 0 = .ok (.iload_n 1, 1) := by decide +kernel
theorem dX1_isOf_1 : decode cX1_isOf 1 = .ok (.aload_n 0, 1) := by decide +kernel
theorem dX1_isOf_2 : decode cX1_isOf 2 = .ok (.getfield 21, 3) := by decide +kernel
theorem dX1_isOf_5 : decode cX1_isOf 5 = .ok (.if_icmp .lt 21, 3) := by decide +kernel
theorem dX1_isOf_8 : decode cX1_isOf 8 = .ok (.iload_n 1, 1) := by decide +kernel
theorem dX1_isOf_9 : decode cX1_isOf 9 = .ok (.aload_n 0, 1) := by decide +kernel
theorem dX1_isOf_10 : decode cX1_isOf 10 = .ok (.getfield 21, 3) := by decide +kernel
theorem dX1_isOf_13 : decode cX1_isOf 13 = .ok (.aload_n 0, 1) := by decide +kernel
theorem dX1_isOf_14 : decode cX1_isOf 14 = .ok (.getfield 26, 3) := by decide +kernel
theorem dX1_isOf_17 : decode cX1_isOf 17 = .ok (.arraylength, 1) := by decide +kernel
theorem dX1_isOf_18 : decode cX1_isOf 18 = .ok (.iadd, 1) := by decide +kernel
theorem dX1_isOf_19 : decode cX1_isOf 19 = .ok (.if_icmp .ge 7, 3) := by decide +kernel
theorem dX1_isOf_22 : decode cX1_isOf 22 = .ok (.iconst 1, 1) := by decide +kernel
theorem dX1_isOf_23 : decode cX1_isOf 23 = .ok (.goto 4, 3) := by decide +kernel
theorem dX1_isOf_26 : decode cX1_isOf 26 = .ok (.iconst 0, 1) := by decide +kernel
theorem dX1_isOf_27 : decode cX1_isOf 27 = .ok (.ireturn, 1) := by decide +kernel
theorem dX1_sourceOf_0 : decode cX1_sourceOf 0 = .ok (.iconst 0, 1) := by decide +kernel
theorem dX1_sourceOf_1 : decode cX1_sourceOf 1 = .ok (.istore_n 2, 1) := by decide +kernel
theorem dX1_sourceOf_2 : decode cX1_sourceOf 2 = .ok (.iload_n 2, 1) := by decide +kernel
theorem dX1_sourceOf_3 : decode cX1_sourceOf 3 = .ok (.aload_n 0, 1) := by decide +kernel
theorem dX1_sourceOf_4 : decode cX1_sourceOf 4 = .ok (.getfield 26, 3) := by decide +kernel
theorem dX1_sourceOf_7 : decode cX1_sourceOf 7 = .ok (.arraylength, 1) := by decide +kernel
theorem dX1_sourceOf_8 : decode cX1_sourceOf 8 = .ok (.if_icmp .ge 29, 3) := by decide +kernel
theorem dX1_sourceOf_11 : decode cX1_sourceOf 11 = .ok (.aload_n 0, 1) := by decide +kernel
theorem dX1_sourceOf_12 : decode cX1_sourceOf 12 = .ok (.getfield 26, 3) := by decide +kernel
theorem dX1_sourceOf_15 : decode cX1_sourceOf 15 = .ok (.iload_n 2, 1) := by decide +kernel
theorem dX1_sourceOf_16 : decode cX1_sourceOf 16 = .ok (.aaload, 1) := by decide +kernel
theorem dX1_sourceOf_17 : decode cX1_sourceOf 17 = .ok (.getfield 37, 3) := by decide +kernel
theorem dX1_sourceOf_20 : decode cX1_sourceOf 20 = .ok (.iload_n 1, 1) := by decide +kernel
theorem dX1_sourceOf_21 : decode cX1_sourceOf 21 = .ok (.if_icmp .ne 10, 3) := by decide +kernel
theorem dX1_sourceOf_24 : decode cX1_sourceOf 24 = .ok (.aload_n 0, 1) := by decide +kernel
theorem dX1_sourceOf_25 : decode cX1_sourceOf 25 = .ok (.getfield 26, 3) := by decide +kernel
theorem dX1_sourceOf_28 : decode cX1_sourceOf 28 = .ok (.iload_n 2, 1) := by decide +kernel
theorem dX1_sourceOf_29 : decode cX1_sourceOf 29 = .ok (.aaload, 1) := by decide +kernel
theorem dX1_sourceOf_30 : decode cX1_sourceOf 30 = .ok (.areturn, 1) := by decide +kernel
theorem dX1_sourceOf_31 : decode cX1_sourceOf 31 = .ok (.iinc 2 1, 3) := by decide +kernel
theorem dX1_sourceOf_34 : decode cX1_sourceOf 34 = .ok (.goto (-32), 3) := by decide +kernel
theorem dX1_sourceOf_37 : decode cX1_sourceOf 37 = .ok (.aconst_null, 1) := by decide +kernel
theorem dX1_sourceOf_38 : decode cX1_sourceOf 38 = .ok (.areturn, 1) := by decide +kernel
set_option maxRecDepth 20000 in
theorem ggX1_takeOne_X1_sourceOfLeastKey : GoodIn wsX1_takeOne wsX1_sourceOfLeastKey := goodIn_r _ [12, 1, 2, 13, 14, 15, 16, 17, 18, 19, 20, 21, 22, 23, 24, 25, 26, 27, 28] (by decide +kernel) (by decide +kernel)
set_option maxRecDepth 20000 in
theorem gX1_takeOne_X1_sourceOfLeastKey : GoodIn wsX1_takeOne (wsV RX1 40 RX1 yX1_sourceOfLeastKey wsX1_sourceOfLeastKey) := goodIn_app (goodIn_of _ (by decide +kernel)) ggX1_takeOne_X1_sourceOfLeastKey
theorem dX1_takeOne_0 : decode cX1_takeOne 0 = .ok (.aload_n 0, 1) := by decide +kernel
theorem dX1_takeOne_1 : decode cX1_takeOne 1 = .ok (.invokevirtual 40, 3) := by decide +kernel
theorem dX1_takeOne_4 : decode cX1_takeOne 4 = .ok (.istore_n 1, 1) := by decide +kernel
theorem dX1_takeOne_5 : decode cX1_takeOne 5 = .ok (.iload_n 1, 1) := by decide +kernel
theorem dX1_takeOne_6 : decode cX1_takeOne 6 = .ok (.iconst (-1), 1) := by decide +kernel
theorem dX1_takeOne_7 : decode cX1_takeOne 7 = .ok (.if_icmp .ne 4, 3) := by decide +kernel
theorem dX1_takeOne_10 : decode cX1_takeOne 10 = .ok (.return_, 1) := by decide +kernel
theorem dX1_takeOne_11 : decode cX1_takeOne 11 = .ok (.aload_n 0, 1) := by decide +kernel
theorem dX1_takeOne_12 : decode cX1_takeOne 12 = .ok (.getfield 26, 3) := by decide +kernel
theorem dX1_takeOne_15 : decode cX1_takeOne 15 = .ok (.iload_n 1, 1) := by decide +kernel
theorem dX1_takeOne_16 : decode cX1_takeOne 16 = .ok (.aaload, 1) := by decide +kernel
theorem dX1_takeOne_17 : decode cX1_takeOne 17 = .ok (.astore_n 2, 1) := by decide +kernel
theorem dX1_takeOne_18 : decode cX1_takeOne 18 = .ok (.aload_n 0, 1) := by decide +kernel
theorem dX1_takeOne_19 : decode cX1_takeOne 19 = .ok (.getfield 30, 3) := by decide +kernel
theorem dX1_takeOne_22 : decode cX1_takeOne 22 = .ok (.iload_n 1, 1) := by decide +kernel
theorem dX1_takeOne_23 : decode cX1_takeOne 23 = .ok (.iaload, 1) := by decide +kernel
theorem dX1_takeOne_24 : decode cX1_takeOne 24 = .ok (.istore_n 3, 1) := by decide +kernel
theorem dX1_takeOne_25 : decode cX1_takeOne 25 = .ok (.aload_n 2, 1) := by decide +kernel
theorem dX1_takeOne_26 : decode cX1_takeOne 26 = .ok (.getfield 44, 3) := by decide +kernel
theorem dX1_takeOne_29 : decode cX1_takeOne 29 = .ok (.iload_n 3, 1) := by decide +kernel
theorem dX1_takeOne_30 : decode cX1_takeOne 30 = .ok (.baload, 1) := by decide +kernel
theorem dX1_takeOne_31 : decode cX1_takeOne 31 = .ok (.ifCond .eq 26, 3) := by decide +kernel
theorem dX1_takeOne_34 : decode cX1_takeOne 34 = .ok (.aload_n 2, 1) := by decide +kernel
theorem dX1_takeOne_35 : decode cX1_takeOne 35 = .ok (.getfield 48, 3) := by decide +kernel
theorem dX1_takeOne_38 : decode cX1_takeOne 38 = .ok (.iload_n 3, 1) := by decide +kernel
theorem dX1_takeOne_39 : decode cX1_takeOne 39 = .ok (.aload_n 0, 1) := by decide +kernel
theorem dX1_takeOne_40 : decode cX1_takeOne 40 = .ok (.getfield 15, 3) := by decide +kernel
theorem dX1_takeOne_43 : decode cX1_takeOne 43 = .ok (.iastore, 1) := by decide +kernel
theorem dX1_takeOne_44 : decode cX1_takeOne 44 = .ok (.aload_n 0, 1) := by decide +kernel
theorem dX1_takeOne_45 : decode cX1_takeOne 45 = .ok (.dup, 1) := by decide +kernel
theorem dX1_takeOne_46 : decode cX1_takeOne 46 = .ok (.getfield 15, 3) := by decide +kernel
theorem dX1_takeOne_49 : decode cX1_takeOne 49 = .ok (.iconst 1, 1) := by decide +kernel
theorem dX1_takeOne_50 : decode cX1_takeOne 50 = .ok (.iadd, 1) := by decide +kernel
theorem dX1_takeOne_51 : decode cX1_takeOne 51 = .ok (.putfield 15, 3) := by decide +kernel
theorem dX1_takeOne_54 : decode cX1_takeOne 54 = .ok (.goto 10, 3) := by decide +kernel
theorem dX1_takeOne_57 : decode cX1_takeOne 57 = .ok (.aload_n 2, 1) := by decide +kernel
theorem dX1_takeOne_58 : decode cX1_takeOne 58 = .ok (.getfield 48, 3) := by decide +kernel
theorem dX1_takeOne_61 : decode cX1_takeOne 61 = .ok (.iload_n 3, 1) := by decide +kernel
theorem dX1_takeOne_62 : decode cX1_takeOne 62 = .ok (.iconst (-1), 1) := by decide +kernel
theorem dX1_takeOne_63 : decode cX1_takeOne 63 = .ok (.iastore, 1) := by decide +kernel
theorem dX1_takeOne_64 : decode cX1_takeOne 64 = .ok (.aload_n 0, 1) := by decide +kernel
theorem dX1_takeOne_65 : decode cX1_takeOne 65 = .ok (.getfield 30, 3) := by decide +kernel
theorem dX1_takeOne_68 : decode cX1_takeOne 68 = .ok (.iload_n 1, 1) := by decide +kernel
theorem dX1_takeOne_69 : decode cX1_takeOne 69 = .ok (.dup2, 1) := by decide +kernel
theorem dX1_takeOne_70 : decode cX1_takeOne 70 = .ok (.iaload, 1) := by decide +kernel
theorem dX1_takeOne_71 : decode cX1_takeOne 71 = .ok (.iconst 1, 1) := by decide +kernel
theorem dX1_takeOne_72 : decode cX1_takeOne 72 = .ok (.iadd, 1) := by decide +kernel
theorem dX1_takeOne_73 : decode cX1_takeOne 73 = .ok (.iastore, 1) := by decide +kernel
theorem dX1_takeOne_74 : decode cX1_takeOne 74 = .ok (.aload_n 0, 1) := by decide +kernel
theorem dX1_takeOne_75 : decode cX1_takeOne 75 = .ok (.dup, 1) := by decide +kernel
theorem dX1_takeOne_76 : decode cX1_takeOne 76 = .ok (.getfield 9, 3) := by decide +kernel
theorem dX1_takeOne_79 : decode cX1_takeOne 79 = .ok (.iconst 1, 1) := by decide +kernel
theorem dX1_takeOne_80 : decode cX1_takeOne 80 = .ok (.iadd, 1) := by decide +kernel
theorem dX1_takeOne_81 : decode cX1_takeOne 81 = .ok (.putfield 9, 3) := by decide +kernel
theorem dX1_takeOne_84 : decode cX1_takeOne 84 = .ok (.aload_n 0, 1) := by decide +kernel
theorem dX1_takeOne_85 : decode cX1_takeOne 85 = .ok (.dup, 1) := by decide +kernel
theorem dX1_takeOne_86 : decode cX1_takeOne 86 = .ok (.getfield 18, 3) := by decide +kernel
theorem dX1_takeOne_89 : decode cX1_takeOne 89 = .ok (.iconst 1, 1) := by decide +kernel
theorem dX1_takeOne_90 : decode cX1_takeOne 90 = .ok (.isub, 1) := by decide +kernel
theorem dX1_takeOne_91 : decode cX1_takeOne 91 = .ok (.putfield 18, 3) := by decide +kernel
theorem dX1_takeOne_94 : decode cX1_takeOne 94 = .ok (.return_, 1) := by decide +kernel
theorem dX1_sourceOfLeastKey_0 : decode cX1_sourceOfLeastKey 0 = .ok (.iconst (-1), 1) := by decide +kernel
theorem dX1_sourceOfLeastKey_1 : decode cX1_sourceOfLeastKey 1 = .ok (.istore_n 1, 1) := by decide +kernel
theorem dX1_sourceOfLeastKey_2 : decode cX1_sourceOfLeastKey 2 = .ok (.bipush 100, 2) := by decide +kernel
theorem dX1_sourceOfLeastKey_4 : decode cX1_sourceOfLeastKey 4 = .ok (.istore_n 2, 1) := by decide +kernel
theorem dX1_sourceOfLeastKey_5 : decode cX1_sourceOfLeastKey 5 = .ok (.iconst 0, 1) := by decide +kernel
theorem dX1_sourceOfLeastKey_6 : decode cX1_sourceOfLeastKey 6 = .ok (.istore_n 3, 1) := by decide +kernel
theorem dX1_sourceOfLeastKey_7 : decode cX1_sourceOfLeastKey 7 = .ok (.iload_n 3, 1) := by decide +kernel
theorem dX1_sourceOfLeastKey_8 : decode cX1_sourceOfLeastKey 8 = .ok (.aload_n 0, 1) := by decide +kernel
theorem dX1_sourceOfLeastKey_9 : decode cX1_sourceOfLeastKey 9 = .ok (.getfield 26, 3) := by decide +kernel
theorem dX1_sourceOfLeastKey_12 : decode cX1_sourceOfLeastKey 12 = .ok (.arraylength, 1) := by decide +kernel
theorem dX1_sourceOfLeastKey_13 : decode cX1_sourceOfLeastKey 13 = .ok (.if_icmp .ge 66, 3) := by decide +kernel
theorem dX1_sourceOfLeastKey_16 : decode cX1_sourceOfLeastKey 16 = .ok (.aload_n 0, 1) := by decide +kernel
theorem dX1_sourceOfLeastKey_17 : decode cX1_sourceOfLeastKey 17 = .ok (.getfield 30, 3) := by decide +kernel
theorem dX1_sourceOfLeastKey_20 : decode cX1_sourceOfLeastKey 20 = .ok (.iload_n 3, 1) := by decide +kernel
theorem dX1_sourceOfLeastKey_21 : decode cX1_sourceOfLeastKey 21 = .ok (.iaload, 1) := by decide +kernel
theorem dX1_sourceOfLeastKey_22 : decode cX1_sourceOfLeastKey 22 = .ok (.aload_n 0, 1) := by decide +kernel
theorem dX1_sourceOfLeastKey_23 : decode cX1_sourceOfLeastKey 23 = .ok (.getfield 26, 3) := by decide +kernel
theorem dX1_sourceOfLeastKey_26 : decode cX1_sourceOfLeastKey 26 = .ok (.iload_n 3, 1) := by decide +kernel
theorem dX1_sourceOfLeastKey_27 : decode cX1_sourceOfLeastKey 27 = .ok (.aaload, 1) := by decide +kernel
theorem dX1_sourceOfLeastKey_28 : decode cX1_sourceOfLeastKey 28 = .ok (.getfield 34, 3) := by decide +kernel
theorem dX1_sourceOfLeastKey_31 : decode cX1_sourceOfLeastKey 31 = .ok (.if_icmp .ge 42, 3) := by decide +kernel
theorem dX1_sourceOfLeastKey_34 : decode cX1_sourceOfLeastKey 34 = .ok (.aload_n 0, 1) := by decide +kernel
theorem dX1_sourceOfLeastKey_35 : decode cX1_sourceOfLeastKey 35 = .ok (.getfield 26, 3) := by decide +kernel
theorem dX1_sourceOfLeastKey_38 : decode cX1_sourceOfLeastKey 38 = .ok (.iload_n 3, 1) := by decide +kernel
theorem dX1_sourceOfLeastKey_39 : decode cX1_sourceOfLeastKey 39 = .ok (.aaload, 1) := by decide +kernel
theorem dX1_sourceOfLeastKey_40 : decode cX1_sourceOfLeastKey 40 = .ok (.getfield 51, 3) := by decide +kernel
theorem dX1_sourceOfLeastKey_43 : decode cX1_sourceOfLeastKey 43 = .ok (.aload_n 0, 1) := by decide +kernel
theorem dX1_sourceOfLeastKey_44 : decode cX1_sourceOfLeastKey 44 = .ok (.getfield 30, 3) := by decide +kernel
theorem dX1_sourceOfLeastKey_47 : decode cX1_sourceOfLeastKey 47 = .ok (.iload_n 3, 1) := by decide +kernel
theorem dX1_sourceOfLeastKey_48 : decode cX1_sourceOfLeastKey 48 = .ok (.iaload, 1) := by decide +kernel
theorem dX1_sourceOfLeastKey_49 : decode cX1_sourceOfLeastKey 49 = .ok (.iaload, 1) := by decide +kernel
theorem dX1_sourceOfLeastKey_50 : decode cX1_sourceOfLeastKey 50 = .ok (.iload_n 2, 1) := by decide +kernel
theorem dX1_sourceOfLeastKey_51 : decode cX1_sourceOfLeastKey 51 = .ok (.if_icmp .ge 22, 3) := by decide +kernel
theorem dX1_sourceOfLeastKey_54 : decode cX1_sourceOfLeastKey 54 = .ok (.iload_n 3, 1) := by decide +kernel
theorem dX1_sourceOfLeastKey_55 : decode cX1_sourceOfLeastKey 55 = .ok (.istore_n 1, 1) := by decide +kernel
theorem dX1_sourceOfLeastKey_56 : decode cX1_sourceOfLeastKey 56 = .ok (.aload_n 0, 1) := by decide +kernel
theorem dX1_sourceOfLeastKey_57 : decode cX1_sourceOfLeastKey 57 = .ok (.getfield 26, 3) := by decide +kernel
theorem dX1_sourceOfLeastKey_60 : decode cX1_sourceOfLeastKey 60 = .ok (.iload_n 3, 1) := by decide +kernel
theorem dX1_sourceOfLeastKey_61 : decode cX1_sourceOfLeastKey 61 = .ok (.aaload, 1) := by decide +kernel
theorem dX1_sourceOfLeastKey_62 : decode cX1_sourceOfLeastKey 62 = .ok (.getfield 51, 3) := by decide +kernel
theorem dX1_sourceOfLeastKey_65 : decode cX1_sourceOfLeastKey 65 = .ok (.aload_n 0, 1) := by decide +kernel
theorem dX1_sourceOfLeastKey_66 : decode cX1_sourceOfLeastKey 66 = .ok (.getfield 30, 3) := by decide +kernel
theorem dX1_sourceOfLeastKey_69 : decode cX1_sourceOfLeastKey 69 = .ok (.iload_n 3, 1) := by decide +kernel
theorem dX1_sourceOfLeastKey_70 : decode cX1_sourceOfLeastKey 70 = .ok (.iaload, 1) := by decide +kernel
theorem dX1_sourceOfLeastKey_71 : decode cX1_sourceOfLeastKey 71 = .ok (.iaload, 1) := by decide +kernel
theorem dX1_sourceOfLeastKey_72 : decode cX1_sourceOfLeastKey 72 = .ok (.istore_n 2, 1) := by decide +kernel
theorem dX1_sourceOfLeastKey_73 : decode cX1_sourceOfLeastKey 73 = .ok (.iinc 3 1, 3) := by decide +kernel
theorem dX1_sourceOfLeastKey_76 : decode cX1_sourceOfLeastKey 76 = .ok (.goto (-69), 3) := by decide +kernel
theorem dX1_sourceOfLeastKey_79 : decode cX1_sourceOfLeastKey 79 = .ok (.iload_n 1, 1) := by decide +kernel
theorem dX1_sourceOfLeastKey_80 : decode cX1_sourceOfLeastKey 80 = .ok (.ireturn, 1) := by decide +kernel
set_option maxRecDepth 20000 in
theorem ggX1_asSegment_X1_greatestTier : GoodIn wsX1_asSegment wsX1_greatestTier := goodIn_r _ [15, 5, 16, 17, 18, 19, 20, 49, 50, 51, 52, 53, 54, 41, 42, 43, 44, 45, 46, 47, 48] (by decide +kernel) (by decide +kernel)
