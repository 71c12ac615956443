theorem dX3_isOpenView_14 : decode cX3_isOpenView 14 = .ok (.baload, 1) := by decide +kernel
theorem dX3_isOpenView_15 : decode cX3_isOpenView 15 = .ok (.ifCond .eq 7, 3) := by decide +kernel
theorem dX3_isOpenView_18 : decode cX3_isOpenView 18 = .ok (.iconst 1, 1) := by decide +kernel
theorem dX3_isOpenView_19 : decode cX3_isOpenView 19 = .ok (.goto 4, 3) := by decide +kernel
theorem dX3_isOpenView_22 : decode cX3_isOpenView 22 = .ok (.iconst 0, 1) := by decide +kernel
theorem dX3_isOpenView_23 : decode cX3_isOpenView 23 = .ok (.ireturn, 1) := by decide +kernel
set_option maxRecDepth 20000 in
theorem ggX3_killRowOf_X2_kill : GoodIn wsX3_killRowOf wsX2_kill := goodIn_r _ [7, 8, 9, 10, 11, 23, 24, 25, 26, 27, 28, 29, 30] (by decide +kernel) (by decide +kernel)
set_option maxRecDepth 20000 in
theorem gX3_killRowOf_X2_kill : GoodIn wsX3_killRowOf (wsV RX3 181 RX2 yX2_kill wsX2_kill) := goodIn_app (goodIn_of _ (by decide +kernel)) ggX3_killRowOf_X2_kill
theorem dX3_killRowOf_0 : decode cX3_killRowOf 0 = .ok (.iconst 0, 1) := by decide +kernel
theorem dX3_killRowOf_1 : decode cX3_killRowOf 1 = .ok (.istore_n 2, 1) := by decide +kernel
theorem dX3_killRowOf_2 : decode cX3_killRowOf 2 = .ok (.iload_n 2, 1) := by decide +kernel
theorem dX3_killRowOf_3 : decode cX3_killRowOf 3 = .ok (.aload_n 0, 1) := by decide +kernel
theorem dX3_killRowOf_4 : decode cX3_killRowOf 4 = .ok (.getfield 26, 3) := by decide +kernel
theorem dX3_killRowOf_7 : decode cX3_killRowOf 7 = .ok (.if_icmp .ge 19, 3) := by decide +kernel
theorem dX3_killRowOf_10 : decode cX3_killRowOf 10 = .ok (.aload_n 0, 1) := by decide +kernel
theorem dX3_killRowOf_11 : decode cX3_killRowOf 11 = .ok (.getfield 22, 3) := by decide +kernel
theorem dX3_killRowOf_14 : decode cX3_killRowOf 14 = .ok (.iload_n 2, 1) := by decide +kernel
theorem dX3_killRowOf_15 : decode cX3_killRowOf 15 = .ok (.aaload, 1) := by decide +kernel
theorem dX3_killRowOf_16 : decode cX3_killRowOf 16 = .ok (.iload_n 1, 1) := by decide +kernel
theorem dX3_killRowOf_17 : decode cX3_killRowOf 17 = .ok (.invokevirtual 181, 3) := by decide +kernel
theorem dX3_killRowOf_20 : decode cX3_killRowOf 20 = .ok (.iinc 2 1, 3) := by decide +kernel
theorem dX3_killRowOf_23 : decode cX3_killRowOf 23 = .ok (.goto (-21), 3) := by decide +kernel
theorem dX3_killRowOf_26 : decode cX3_killRowOf 26 = .ok (.return_, 1) := by decide +kernel
theorem dX3_rowsInSegments_0 : decode cX3_rowsInSegments 0 = .ok (.iconst 0, 1) := by decide +kernel
theorem dX3_rowsInSegments_1 : decode cX3_rowsInSegments 1 = .ok (.istore_n 1, 1) := by decide +kernel
theorem dX3_rowsInSegments_2 : decode cX3_rowsInSegments 2 = .ok (.iconst 0, 1) := by decide +kernel
theorem dX3_rowsInSegments_3 : decode cX3_rowsInSegments 3 = .ok (.istore_n 2, 1) := by decide +kernel
theorem dX3_rowsInSegments_4 : decode cX3_rowsInSegments 4 = .ok (.iload_n 2, 1) := by decide +kernel
theorem dX3_rowsInSegments_5 : decode cX3_rowsInSegments 5 = .ok (.aload_n 0, 1) := by decide +kernel
theorem dX3_rowsInSegments_6 : decode cX3_rowsInSegments 6 = .ok (.getfield 26, 3) := by decide +kernel
theorem dX3_rowsInSegments_9 : decode cX3_rowsInSegments 9 = .ok (.if_icmp .ge 21, 3) := by decide +kernel
theorem dX3_rowsInSegments_12 : decode cX3_rowsInSegments 12 = .ok (.iload_n 1, 1) := by decide +kernel
theorem dX3_rowsInSegments_13 : decode cX3_rowsInSegments 13 = .ok (.aload_n 0, 1) := by decide +kernel
theorem dX3_rowsInSegments_14 : decode cX3_rowsInSegments 14 = .ok (.getfield 22, 3) := by decide +kernel
theorem dX3_rowsInSegments_17 : decode cX3_rowsInSegments 17 = .ok (.iload_n 2, 1) := by decide +kernel
theorem dX3_rowsInSegments_18 : decode cX3_rowsInSegments 18 = .ok (.aaload, 1) := by decide +kernel
theorem dX3_rowsInSegments_19 : decode cX3_rowsInSegments 19 = .ok (.getfield 90, 3) := by decide +kernel
theorem dX3_rowsInSegments_22 : decode cX3_rowsInSegments 22 = .ok (.iadd, 1) := by decide +kernel
theorem dX3_rowsInSegments_23 : decode cX3_rowsInSegments 23 = .ok (.istore_n 1, 1) := by decide +kernel
theorem dX3_rowsInSegments_24 : decode cX3_rowsInSegments 24 = .ok (.iinc 2 1, 3) := by decide +kernel
theorem dX3_rowsInSegments_27 : decode cX3_rowsInSegments 27 = .ok (.goto (-23), 3) := by decide +kernel
theorem dX3_rowsInSegments_30 : decode cX3_rowsInSegments 30 = .ok (.iload_n 1, 1) := by decide +kernel
theorem dX3_rowsInSegments_31 : decode cX3_rowsInSegments 31 = .ok (.ireturn, 1) := by decide +kernel
theorem dX3_livingFrom_0 : decode cX3_livingFrom 0 = .ok (.iconst 0, 1) := by decide +kernel
theorem dX3_livingFrom_1 : decode cX3_livingFrom 1 = .ok (.istore_n 3, 1) := by decide +kernel
theorem dX3_livingFrom_2 : decode cX3_livingFrom 2 = .ok (.iload_n 1, 1) := by decide +kernel
theorem dX3_livingFrom_3 : decode cX3_livingFrom 3 = .ok (.istore 4, 2) := by decide +kernel
theorem dX3_livingFrom_5 : decode cX3_livingFrom 5 = .ok (.iload 4, 2) := by decide +kernel
theorem dX3_livingFrom_7 : decode cX3_livingFrom 7 = .ok (.iload_n 1, 1) := by decide +kernel
theorem dX3_livingFrom_8 : decode cX3_livingFrom 8 = .ok (.iload_n 2, 1) := by decide +kernel
theorem dX3_livingFrom_9 : decode cX3_livingFrom 9 = .ok (.iadd, 1) := by decide +kernel
theorem dX3_livingFrom_10 : decode cX3_livingFrom 10 = .ok (.if_icmp .ge 22, 3) := by decide +kernel
theorem dX3_livingFrom_13 : decode cX3_livingFrom 13 = .ok (.iload_n 3, 1) := by decide +kernel
theorem dX3_livingFrom_14 : decode cX3_livingFrom 14 = .ok (.aload_n 0, 1) := by decide +kernel
theorem dX3_livingFrom_15 : decode cX3_livingFrom 15 = .ok (.getfield 22, 3) := by decide +kernel
theorem dX3_livingFrom_18 : decode cX3_livingFrom 18 = .ok (.iload 4, 2) := by decide +kernel
theorem dX3_livingFrom_20 : decode cX3_livingFrom 20 = .ok (.aaload, 1) := by decide +kernel
theorem dX3_livingFrom_21 : decode cX3_livingFrom 21 = .ok (.getfield 108, 3) := by decide +kernel
theorem dX3_livingFrom_24 : decode cX3_livingFrom 24 = .ok (.iadd, 1) := by decide +kernel
theorem dX3_livingFrom_25 : decode cX3_livingFrom 25 = .ok (.istore_n 3, 1) := by decide +kernel
theorem dX3_livingFrom_26 : decode cX3_livingFrom 26 = .ok (.iinc 4 1, 3) := by decide +kernel
theorem dX3_livingFrom_29 : decode cX3_livingFrom 29 = .ok (.goto (-24), 3) := by decide +kernel
theorem dX3_livingFrom_32 : decode cX3_livingFrom 32 = .ok (.iload_n 3, 1) := by decide +kernel
theorem dX3_livingFrom_33 : decode cX3_livingFrom 33 = .ok (.ireturn, 1) := by decide +kernel
theorem dX3_isOfOneTier_0 : decode cX3_isOfOneTier 0 = .ok (.iload_n 1, 1) := by decide +kernel
theorem dX3_isOfOneTier_1 : decode cX3_isOfOneTier 1 = .ok (.iconst 1, 1) := by decide +kernel
theorem dX3_isOfOneTier_2 : decode cX3_isOfOneTier 2 = .ok (.iadd, 1) := by decide +kernel
theorem dX3_isOfOneTier_3 : decode cX3_isOfOneTier 3 = .ok (.istore_n 3, 1) := by decide +kernel
theorem dX3_isOfOneTier_4 : decode cX3_isOfOneTier 4 = .ok (.iload_n 3, 1) := by decide +kernel
theorem dX3_isOfOneTier_5 : decode cX3_isOfOneTier 5 = .ok (.iload_n 1, 1) := by decide +kernel
theorem dX3_isOfOneTier_6 : decode cX3_isOfOneTier 6 = .ok (.iload_n 2, 1) := by decide +kernel
theorem dX3_isOfOneTier_7 : decode cX3_isOfOneTier 7 = .ok (.iadd, 1) := by decide +kernel
theorem dX3_isOfOneTier_8 : decode cX3_isOfOneTier 8 = .ok (.if_icmp .ge 32, 3) := by decide +kernel
theorem dX3_isOfOneTier_11 : decode cX3_isOfOneTier 11 = .ok (.aload_n 0, 1) := by decide +kernel
theorem dX3_isOfOneTier_12 : decode cX3_isOfOneTier 12 = .ok (.getfield 22, 3) := by decide +kernel
theorem dX3_isOfOneTier_15 : decode cX3_isOfOneTier 15 = .ok (.iload_n 3, 1) := by decide +kernel
theorem dX3_isOfOneTier_16 : decode cX3_isOfOneTier 16 = .ok (.aaload, 1) := by decide +kernel
theorem dX3_isOfOneTier_17 : decode cX3_isOfOneTier 17 = .ok (.getfield 105, 3) := by decide +kernel
theorem dX3_isOfOneTier_20 : decode cX3_isOfOneTier 20 = .ok (.aload_n 0, 1) := by decide +kernel
theorem dX3_isOfOneTier_21 : decode cX3_isOfOneTier 21 = .ok (.getfield 22, 3) := by decide +kernel
theorem dX3_isOfOneTier_24 : decode cX3_isOfOneTier 24 = .ok (.iload_n 1, 1) := by decide +kernel
theorem dX3_isOfOneTier_25 : decode cX3_isOfOneTier 25 = .ok (.aaload, 1) := by decide +kernel
theorem dX3_isOfOneTier_26 : decode cX3_isOfOneTier 26 = .ok (.getfield 105, 3) := by decide +kernel
theorem dX3_isOfOneTier_29 : decode cX3_isOfOneTier 29 = .ok (.if_icmp .eq 5, 3) := by decide +kernel
theorem dX3_isOfOneTier_32 : decode cX3_isOfOneTier 32 = .ok (.iconst 0, 1) := by decide +kernel
theorem dX3_isOfOneTier_33 : decode cX3_isOfOneTier 33 = .ok (.ireturn, 1) := by decide +kernel
theorem dX3_isOfOneTier_34 : decode cX3_isOfOneTier 34 = .ok (.iinc 3 1, 3) := by decide +kernel
theorem dX3_isOfOneTier_37 : decode cX3_isOfOneTier 37 = .ok (.goto (-33), 3) := by decide +kernel
theorem dX3_isOfOneTier_40 : decode cX3_isOfOneTier 40 = .ok (.iconst 1, 1) := by decide +kernel
theorem dX3_isOfOneTier_41 : decode cX3_isOfOneTier 41 = .ok (.ireturn, 1) := by decide +kernel
set_option maxRecDepth 20000 in
theorem ggX3_endMerge_X1_asSegment : GoodIn wsX3_endMerge wsX1_asSegment := goodIn_r _ [13, 14, 15, 16, 17, 18, 19, 20, 21, 22, 23, 24, 25, 26, 12, 27, 28, 29, 30, 31, 32, 33, 34, 35, 36, 37, 38, 39, 40, 41, 42, 43, 44, 45, 46, 47, 48, 49, 50, 51, 52, 76, 77, 78, 79, 80, 81, 82, 83, 59, 60, 61, 62, 63, 64] (by decide +kernel) (by decide +kernel)
set_option maxRecDepth 20000 in
theorem gX3_endMerge_X1_asSegment : GoodIn wsX3_endMerge (wsV RX3 184 RX1 yX1_asSegment wsX1_asSegment) := goodIn_app (goodIn_of _ (by decide +kernel)) ggX3_endMerge_X1_asSegment
set_option maxRecDepth 20000 in
theorem ggX3_endMerge_X3_closeGap : GoodIn wsX3_endMerge wsX3_closeGap := goodIn_r _ [57, 58, 2, 65, 66, 67, 68, 69, 70, 71, 72, 73, 74, 75] (by decide +kernel) (by decide +kernel)
set_option maxRecDepth 20000 in
theorem gX3_endMerge_X3_closeGap : GoodIn wsX3_endMerge (wsV RX3 188 RX3 yX3_closeGap wsX3_closeGap) := goodIn_app (goodIn_of _ (by decide +kernel)) ggX3_endMerge_X3_closeGap
theorem dX3_endMerge_0 : decode cX3_endMerge 0 = .ok (.iconst 0, 1) := by decide +kernel
theorem dX3_endMerge_1 : decode cX3_endMerge 1 = .ok (.istore_n 2, 1) := by decide +kernel
theorem dX3_endMerge_2 : decode cX3_endMerge 2 = .ok (.aload_n 1, 1) := by decide +kernel
theorem dX3_endMerge_3 : decode cX3_endMerge 3 = .ok (.getfield 153, 3) := by decide +kernel
theorem dX3_endMerge_6 : decode cX3_endMerge 6 = .ok (.ifCond .le 32, 3) := by decide +kernel
theorem dX3_endMerge_9 : decode cX3_endMerge 9 = .ok (.aload_n 0, 1) := by decide +kernel
theorem dX3_endMerge_10 : decode cX3_endMerge 10 = .ok (.getfield 22, 3) := by decide +kernel
theorem dX3_endMerge_13 : decode cX3_endMerge 13 = .ok (.aload_n 1, 1) := by decide +kernel
theorem dX3_endMerge_14 : decode cX3_endMerge 14 = .ok (.getfield 156, 3) := by decide +kernel
theorem dX3_endMerge_17 : decode cX3_endMerge 17 = .ok (.aload_n 1, 1) := by decide +kernel
theorem dX3_endMerge_18 : decode cX3_endMerge 18 = .ok (.aload_n 0, 1) := by decide +kernel
theorem dX3_endMerge_19 : decode cX3_endMerge 19 = .ok (.getfield 30, 3) := by decide +kernel
theorem dX3_endMerge_22 : decode cX3_endMerge 22 = .ok (.invokevirtual 184, 3) := by decide +kernel
theorem dX3_endMerge_25 : decode cX3_endMerge 25 = .ok (.aastore, 1) := by decide +kernel
theorem dX3_endMerge_26 : decode cX3_endMerge 26 = .ok (.aload_n 0, 1) := by decide +kernel
theorem dX3_endMerge_27 : decode cX3_endMerge 27 = .ok (.dup, 1) := by decide +kernel
theorem dX3_endMerge_28 : decode cX3_endMerge 28 = .ok (.getfield 30, 3) := by decide +kernel
theorem dX3_endMerge_31 : decode cX3_endMerge 31 = .ok (.iconst 1, 1) := by decide +kernel
theorem dX3_endMerge_32 : decode cX3_endMerge 32 = .ok (.iadd, 1) := by decide +kernel
theorem dX3_endMerge_33 : decode cX3_endMerge 33 = .ok (.putfield 30, 3) := by decide +kernel
theorem dX3_endMerge_36 : decode cX3_endMerge 36 = .ok (.iconst 1, 1) := by decide +kernel
theorem dX3_endMerge_37 : decode cX3_endMerge 37 = .ok (.istore_n 2, 1) := by decide +kernel
theorem dX3_endMerge_38 : decode cX3_endMerge 38 = .ok (.aload_n 0, 1) := by decide +kernel
theorem dX3_endMerge_39 : decode cX3_endMerge 39 = .ok (.aload_n 1, 1) := by decide +kernel
theorem dX3_endMerge_40 : decode cX3_endMerge 40 = .ok (.getfield 156, 3) := by decide +kernel
theorem dX3_endMerge_43 : decode cX3_endMerge 43 = .ok (.iload_n 2, 1) := by decide +kernel
theorem dX3_endMerge_44 : decode cX3_endMerge 44 = .ok (.iadd, 1) := by decide +kernel
theorem dX3_endMerge_45 : decode cX3_endMerge 45 = .ok (.aload_n 1, 1) := by decide +kernel
theorem dX3_endMerge_46 : decode cX3_endMerge 46 = .ok (.getfield 185, 3) := by decide +kernel
theorem dX3_endMerge_49 : decode cX3_endMerge 49 = .ok (.arraylength, 1) := by decide +kernel
theorem dX3_endMerge_50 : decode cX3_endMerge 50 = .ok (.iload_n 2, 1) := by decide +kernel
theorem dX3_endMerge_51 : decode cX3_endMerge 51 = .ok (.isub, 1) := by decide +kernel
theorem dX3_endMerge_52 : decode cX3_endMerge 52 = .ok (.invokevirtual 188, 3) := by decide +kernel
theorem dX3_endMerge_55 : decode cX3_endMerge 55 = .ok (.aload_n 0, 1) := by decide +kernel
theorem dX3_endMerge_56 : decode cX3_endMerge 56 = .ok (.dup, 1) := by decide +kernel
theorem dX3_endMerge_57 : decode cX3_endMerge 57 = .ok (.getfield 33, 3) := by decide +kernel
theorem dX3_endMerge_60 : decode cX3_endMerge 60 = .ok (.aload_n 1, 1) := by decide +kernel
theorem dX3_endMerge_61 : decode cX3_endMerge 61 = .ok (.getfield 153, 3) := by decide +kernel
theorem dX3_endMerge_64 : decode cX3_endMerge 64 = .ok (.iadd, 1) := by decide +kernel
theorem dX3_endMerge_65 : decode cX3_endMerge 65 = .ok (.putfield 33, 3) := by decide +kernel
theorem dX3_endMerge_68 : decode cX3_endMerge 68 = .ok (.aload_n 0, 1) := by decide +kernel
theorem dX3_endMerge_69 : decode cX3_endMerge 69 = .ok (.aload_n 1, 1) := by decide +kernel
theorem dX3_endMerge_70 : decode cX3_endMerge 70 = .ok (.putfield 43, 3) := by decide +kernel
theorem dX3_endMerge_73 : decode cX3_endMerge 73 = .ok (.aload_n 0, 1) := by decide +kernel
theorem dX3_endMerge_74 : decode cX3_endMerge 74 = .ok (.aconst_null, 1) := by decide +kernel
theorem dX3_endMerge_75 : decode cX3_endMerge 75 = .ok (.putfield 39, 3) := by decide +kernel
theorem dX3_endMerge_78 : decode cX3_endMerge 78 = .ok (.return_, 1) := by decide +kernel
theorem dX3_closeGap_0 : decode cX3_closeGap 0 = .ok (.iload_n 1, 1) := by decide +kernel
theorem dX3_closeGap_1 : decode cX3_closeGap 1 = .ok (.istore_n 3, 1) := by decide +kernel
theorem dX3_closeGap_2 : decode cX3_closeGap 2 = .ok (.iload_n 3, 1) := by decide +kernel
theorem dX3_closeGap_3 : decode cX3_closeGap 3 = .ok (.iload_n 2, 1) := by decide +kernel
theorem dX3_closeGap_4 : decode cX3_closeGap 4 = .ok (.iadd, 1) := by decide +kernel
theorem dX3_closeGap_5 : decode cX3_closeGap 5 = .ok (.aload_n 0, 1) := by decide +kernel
theorem dX3_closeGap_6 : decode cX3_closeGap 6 = .ok (.getfield 26, 3) := by decide +kernel
theorem dX3_closeGap_9 : decode cX3_closeGap 9 = .ok (.if_icmp .ge 23, 3) := by decide +kernel
theorem dX3_closeGap_12 : decode cX3_closeGap 12 = .ok (.aload_n 0, 1) := by decide +kernel
theorem dX3_closeGap_13 : decode cX3_closeGap 13 = .ok (.getfield 22, 3) := by decide +kernel
theorem dX3_closeGap_16 : decode cX3_closeGap 16 = .ok (.iload_n 3, 1) := by decide +kernel
theorem dX3_closeGap_17 : decode cX3_closeGap 17 = .ok (.aload_n 0, 1) := by decide +kernel
theorem dX3_closeGap_18 : decode cX3_closeGap 18 = .ok (.getfield 22, 3) := by decide +kernel
theorem dX3_closeGap_21 : decode cX3_closeGap 21 = .ok (.iload_n 3, 1) := by decide +kernel
theorem dX3_closeGap_22 : decode cX3_closeGap 22 = .ok (.iload_n 2, 1) := by decide +kernel
theorem dX3_closeGap_23 : decode cX3_closeGap 23 = .ok (.iadd, 1) := by decide +kernel
theorem dX3_closeGap_24 : decode cX3_closeGap 24 = .ok (.aaload, 1) := by decide +kernel
theorem dX3_closeGap_25 : decode cX3_closeGap 25 = .ok (.aastore, 1) := by decide +kernel
theorem dX3_closeGap_26 : decode cX3_closeGap 26 = .ok (.iinc 3 1, 3) := by decide +kernel
theorem dX3_closeGap_29 : decode cX3_closeGap 29 = .ok (.goto (-27), 3) := by decide +kernel
theorem dX3_closeGap_32 : decode cX3_closeGap 32 = .ok (.aload_n 0, 1) := by decide +kernel
theorem dX3_closeGap_33 : decode cX3_closeGap 33 = .ok (.dup, 1) := by decide +kernel
theorem dX3_closeGap_34 : decode cX3_closeGap 34 = .ok (.getfield 26, 3) := by decide +kernel
theorem dX3_closeGap_37 : decode cX3_closeGap 37 = .ok (.iload_n 2, 1) := by decide +kernel
theorem dX3_closeGap_38 : decode cX3_closeGap 38 = .ok (.isub, 1) := by decide +kernel
theorem dX3_closeGap_39 : decode cX3_closeGap 39 = .ok (.putfield 26, 3) := by decide +kernel
theorem dX3_closeGap_42 : decode cX3_closeGap 42 = .ok (.return_, 1) := by decide +kernel
theorem dX4_init_0 : decode cX4_init 0 = .ok (.aload_n 0, 1) := by decide +kernel
theorem dX4_init_1 : decode cX4_init 1 = .ok (.invokespecial 1, 3) := by decide +kernel
theorem dX4_init_4 : decode cX4_init 4 = .ok (.aload_n 0, 1) := by decide +kernel
theorem dX4_init_5 : decode cX4_init 5 = .ok (.bipush 100, 2) := by decide +kernel
theorem dX4_init_7 : decode cX4_init 7 = .ok (.newarray .int, 2) := by decide +kernel
theorem dX4_init_9 : decode cX4_init 9 = .ok (.putfield 7, 3) := by decide +kernel
theorem dX4_init_12 : decode cX4_init 12 = .ok (.aload_n 0, 1) := by decide +kernel
theorem dX4_init_13 : decode cX4_init 13 = .ok (.bipush 100, 2) := by decide +kernel
theorem dX4_init_15 : decode cX4_init 15 = .ok (.newarray .int, 2) := by decide +kernel
theorem dX4_init_17 : decode cX4_init 17 = .ok (.putfield 13, 3) := by decide +kernel
theorem dX4_init_20 : decode cX4_init 20 = .ok (.aload_n 0, 1) := by decide +kernel
theorem dX4_init_21 : decode cX4_init 21 = .ok (.bipush 100, 2) := by decide +kernel
theorem dX4_init_23 : decode cX4_init 23 = .ok (.newarray .int, 2) := by decide +kernel
theorem dX4_init_25 : decode cX4_init 25 = .ok (.putfield 16, 3) := by decide +kernel
theorem dX4_init_28 : decode cX4_init 28 = .ok (.aload_n 0, 1) := by decide +kernel
theorem dX4_init_29 : decode cX4_init 29 = .ok (.bipush 100, 2) := by decide +kernel
theorem dX4_init_31 : decode cX4_init 31 = .ok (.newarray .int, 2) := by decide +kernel
theorem dX4_init_33 : decode cX4_init 33 = .ok (.putfield 19, 3) := by decide +kernel
theorem dX4_init_36 : decode cX4_init 36 = .ok (.aload_n 0, 1) := by decide +kernel
theorem dX4_init_37 : decode cX4_init 37 = .ok (.bipush 6, 2) := by decide +kernel
theorem dX4_init_39 : decode cX4_init 39 = .ok (.newarray .int, 2) := by decide +kernel
theorem dX4_init_41 : decode cX4_init 41 = .ok (.putfield 22, 3) := by decide +kernel
theorem dX4_init_44 : decode cX4_init 44 = .ok (.aload_n 0, 1) := by decide +kernel
theorem dX4_init_45 : decode cX4_init 45 = .ok (.bipush 20, 2) := by decide +kernel
theorem dX4_init_47 : decode cX4_init 47 = .ok (.newarray .int, 2) := by decide +kernel
theorem dX4_init_49 : decode cX4_init 49 = .ok (.putfield 25, 3) := by decide +kernel
theorem dX4_init_52 : decode cX4_init 52 = .ok (.aload_n 0, 1) := by decide +kernel
theorem dX4_init_53 : decode cX4_init 53 = .ok (.bipush 21, 2) := by decide +kernel
theorem dX4_init_55 : decode cX4_init 55 = .ok (.newarray .boolean, 2) := by decide +kernel
theorem dX4_init_57 : decode cX4_init 57 = .ok (.putfield 28, 3) := by decide +kernel
theorem dX4_init_60 : decode cX4_init 60 = .ok (.aload_n 0, 1) := by decide +kernel
theorem dX4_init_61 : decode cX4_init 61 = .ok (.bipush 21, 2) := by decide +kernel
theorem dX4_init_63 : decode cX4_init 63 = .ok (.newarray .int, 2) := by decide +kernel
theorem dX4_init_65 : decode cX4_init 65 = .ok (.putfield 32, 3) := by decide +kernel
theorem dX4_init_68 : decode cX4_init 68 = .ok (.aload_n 0, 1) := by decide +kernel
theorem dX4_init_69 : decode cX4_init 69 = .ok (.bipush 21, 2) := by decide +kernel
theorem dX4_init_71 : decode cX4_init 71 = .ok (.newarray .int, 2) := by decide +kernel
theorem dX4_init_73 : decode cX4_init 73 = .ok (.putfield 35, 3) := by decide +kernel
theorem dX4_init_76 : decode cX4_init 76 = .ok (.aload_n 0, 1) := by decide +kernel
theorem dX4_init_77 : decode cX4_init 77 = .ok (.bipush 21, 2) := by decide +kernel
theorem dX4_init_79 : decode cX4_init 79 = .ok (.newarray .int, 2) := by decide +kernel
theorem dX4_init_81 : decode cX4_init 81 = .ok (.putfield 38, 3) := by decide +kernel
theorem dX4_init_84 : decode cX4_init 84 = .ok (.aload_n 0, 1) := by decide +kernel
theorem dX4_init_85 : decode cX4_init 85 = .ok (.sipush 2100, 3) := by decide +kernel
theorem dX4_init_88 : decode cX4_init 88 = .ok (.newarray .int, 2) := by decide +kernel
theorem dX4_init_90 : decode cX4_init 90 = .ok (.putfield 41, 3) := by decide +kernel
theorem dX4_init_93 : decode cX4_init 93 = .ok (.aload_n 0, 1) := by decide +kernel
theorem dX4_init_94 : decode cX4_init 94 = .ok (.sipush 2100, 3) := by decide +kernel
theorem dX4_init_97 : decode cX4_init 97 = .ok (.newarray .int, 2) := by decide +kernel
theorem dX4_init_99 : decode cX4_init 99 = .ok (.putfield 44, 3) := by decide +kernel
theorem dX4_init_102 : decode cX4_init 102 = .ok (.aload_n 0, 1) := by decide +kernel
theorem dX4_init_103 : decode cX4_init 103 = .ok (.sipush 2100, 3) := by decide +kernel
theorem dX4_init_106 : decode cX4_init 106 = .ok (.newarray .boolean, 2) := by decide +kernel
theorem dX4_init_108 : decode cX4_init 108 = .ok (.putfield 47, 3) := by decide +kernel
theorem dX4_init_111 : decode cX4_init 111 = .ok (.aload_n 0, 1) := by decide +kernel
theorem dX4_init_112 : decode cX4_init 112 = .ok (.iconst 3, 1) := by decide +kernel
theorem dX4_init_113 : decode cX4_init 113 = .ok (.putfield 50, 3) := by decide +kernel
theorem dX4_init_116 : decode cX4_init 116 = .ok (.aload_n 0, 1) := by decide +kernel
theorem dX4_init_117 : decode cX4_init 117 = .ok (.bipush 6, 2) := by decide +kernel
theorem dX4_init_119 : decode cX4_init 119 = .ok (.newarray .int, 2) := by decide +kernel
theorem dX4_init_121 : decode cX4_init 121 = .ok (.putfield 54, 3) := by decide +kernel
theorem dX4_init_124 : decode cX4_init 124 = .ok (.aload_n 0, 1) := by decide +kernel
theorem dX4_init_125 : decode cX4_init 125 = .ok (.bipush 100, 2) := by decide +kernel
theorem dX4_init_127 : decode cX4_init 127 = .ok (.newarray .int, 2) := by decide +kernel
theorem dX4_init_129 : decode cX4_init 129 = .ok (.putfield 57, 3) := by decide +kernel
theorem dX4_init_132 : decode cX4_init 132 = .ok (.aload_n 0, 1) := by decide +kernel
theorem dX4_init_133 : decode cX4_init 133 = .ok (.bipush 100, 2) := by decide +kernel
theorem dX4_init_135 : decode cX4_init 135 = .ok (.newarray .int, 2) := by decide +kernel
theorem dX4_init_137 : decode cX4_init 137 = .ok (.putfield 60, 3) := by decide +kernel
theorem dX4_init_140 : decode cX4_init 140 = .ok (.aload_n 0, 1) := by decide +kernel
theorem dX4_init_141 : decode cX4_init 141 = .ok (.bipush 100, 2) := by decide +kernel
theorem dX4_init_143 : decode cX4_init 143 = .ok (.newarray .int, 2) := by decide +kernel
theorem dX4_init_145 : decode cX4_init 145 = .ok (.putfield 63, 3) := by decide +kernel
theorem dX4_init_148 : decode cX4_init 148 = .ok (.aload_n 0, 1) := by decide +kernel
theorem dX4_init_149 : decode cX4_init 149 = .ok (.sipush 600, 3) := by decide +kernel
theorem dX4_init_152 : decode cX4_init 152 = .ok (.newarray .int, 2) := by decide +kernel
theorem dX4_init_154 : decode cX4_init 154 = .ok (.putfield 66, 3) := by decide +kernel
theorem dX4_init_157 : decode cX4_init 157 = .ok (.aload_n 0, 1) := by decide +kernel
theorem dX4_init_158 : decode cX4_init 158 = .ok (.bipush 6, 2) := by decide +kernel
theorem dX4_init_160 : decode cX4_init 160 = .ok (.newarray .int, 2) := by decide +kernel
theorem dX4_init_162 : decode cX4_init 162 = .ok (.putfield 69, 3) := by decide +kernel
theorem dX4_init_165 : decode cX4_init 165 = .ok (.aload_n 0, 1) := by decide +kernel
theorem dX4_init_166 : decode cX4_init 166 = .ok (.bipush 6, 2) := by decide +kernel
theorem dX4_init_168 : decode cX4_init 168 = .ok (.newarray .int, 2) := by decide +kernel
theorem dX4_init_170 : decode cX4_init 170 = .ok (.putfield 72, 3) := by decide +kernel
theorem dX4_init_173 : decode cX4_init 173 = .ok (.aload_n 0, 1) := by decide +kernel
theorem dX4_init_174 : decode cX4_init 174 = .ok (.sipush 600, 3) := by decide +kernel
theorem dX4_init_177 : decode cX4_init 177 = .ok (.newarray .int, 2) := by decide +kernel
theorem dX4_init_179 : decode cX4_init 179 = .ok (.putfield 75, 3) := by decide +kernel
theorem dX4_init_182 : decode cX4_init 182 = .ok (.aload_n 0, 1) := by decide +kernel
theorem dX4_init_183 : decode cX4_init 183 = .ok (.iconst 4, 1) := by decide +kernel
theorem dX4_init_184 : decode cX4_init 184 = .ok (.newarray .boolean, 2) := by decide +kernel
theorem dX4_init_186 : decode cX4_init 186 = .ok (.putfield 78, 3) := by decide +kernel
theorem dX4_init_189 : decode cX4_init 189 = .ok (.aload_n 0, 1) := by decide +kernel
theorem dX4_init_190 : decode cX4_init 190 = .ok (.sipush 400, 3) := by decide +kernel
theorem dX4_init_193 : decode cX4_init 193 = .ok (.newarray .int, 2) := by decide +kernel
theorem dX4_init_195 : decode cX4_init 195 = .ok (.putfield 81, 3) := by decide +kernel
theorem dX4_init_198 : decode cX4_init 198 = .ok (.iconst 0, 1) := by decide +kernel
theorem dX4_init_199 : decode cX4_init 199 = .ok (.istore_n 1, 1) := by decide +kernel
theorem dX4_init_200 : decode cX4_init 200 = .ok (.iload_n 1, 1) := by decide +kernel
theorem dX4_init_201 : decode cX4_init 201 = .ok (.bipush 100, 2) := by decide +kernel
theorem dX4_init_203 : decode cX4_init 203 = .ok (.if_icmp .ge 23, 3) := by decide +kernel
theorem dX4_init_206 : decode cX4_init 206 = .ok (.aload_n 0, 1) := by decide +kernel
theorem dX4_init_207 : decode cX4_init 207 = .ok (.getfield 7, 3) := by decide +kernel
theorem dX4_init_210 : decode cX4_init 210 = .ok (.iload_n 1, 1) := by decide +kernel
theorem dX4_init_211 : decode cX4_init 211 = .ok (.iconst (-1), 1) := by decide +kernel
theorem dX4_init_212 : decode cX4_init 212 = .ok (.iastore, 1) := by decide +kernel
theorem dX4_init_213 : decode cX4_init 213 = .ok (.aload_n 0, 1) := by decide +kernel
theorem dX4_init_214 : decode cX4_init 214 = .ok (.getfield 16, 3) := by decide +kernel
theorem dX4_init_217 : decode cX4_init 217 = .ok (.iload_n 1, 1) := by decide +kernel
theorem dX4_init_218 : decode cX4_init 218 = .ok (.iconst (-1), 1) := by decide +kernel
theorem dX4_init_219 : decode cX4_init 219 = .ok (.iastore, 1) := by decide +kernel
theorem dX4_init_220 : decode cX4_init 220 = .ok (.iinc 1 1, 3) := by decide +kernel
theorem dX4_init_223 : decode cX4_init 223 = .ok (.goto (-23), 3) := by decide +kernel
theorem dX4_init_226 : decode cX4_init 226 = .ok (.return_, 1) := by decide +kernel
theorem dX4_thrown_0 : decode cX4_thrown 0 = .ok (.aload_n 0, 1) := by decide +kernel
theorem dX4_thrown_1 : decode cX4_thrown 1 = .ok (.getfield 84, 3) := by decide +kernel
theorem dX4_thrown_4 : decode cX4_thrown 4 = .ok (.ireturn, 1) := by decide +kernel
theorem dX4_in_0 : decode cX4_in 0 = .ok (.iload_n 0, 1) := by decide +kernel
theorem dX4_in_1 : decode cX4_in 1 = .ok (.iload_n 1, 1) := by decide +kernel
theorem dX4_in_2 : decode cX4_in 2 = .ok (.if_icmp .lt 12, 3) := by decide +kernel
theorem dX4_in_5 : decode cX4_in 5 = .ok (.iload_n 0, 1) := by decide +kernel
theorem dX4_in_6 : decode cX4_in 6 = .ok (.iload_n 2, 1) := by decide +kernel
theorem dX4_in_7 : decode cX4_in 7 = .ok (.if_icmp .gt 7, 3) := by decide +kernel
theorem dX4_in_10 : decode cX4_in 10 = .ok (.iconst 1, 1) := by decide +kernel
theorem dX4_in_11 : decode cX4_in 11 = .ok (.goto 4, 3) := by decide +kernel
theorem dX4_in_14 : decode cX4_in 14 = .ok (.iconst 0, 1) := by decide +kernel
theorem dX4_in_15 : decode cX4_in 15 = .ok (.ireturn, 1) := by decide +kernel
theorem dX4_memoryAt_0 : decode cX4_memoryAt 0 = .ok (.iconst (-1), 1) := by decide +kernel
theorem dX4_memoryAt_1 : decode cX4_memoryAt 1 = .ok (.istore_n 2, 1) := by decide +kernel
theorem dX4_memoryAt_2 : decode cX4_memoryAt 2 = .ok (.iconst 0, 1) := by decide +kernel
theorem dX4_memoryAt_3 : decode cX4_memoryAt 3 = .ok (.istore_n 3, 1) := by decide +kernel
theorem dX4_memoryAt_4 : decode cX4_memoryAt 4 = .ok (.iload_n 3, 1) := by decide +kernel
theorem dX4_memoryAt_5 : decode cX4_memoryAt 5 = .ok (.aload_n 0, 1) := by decide +kernel
theorem dX4_memoryAt_6 : decode cX4_memoryAt 6 = .ok (.getfield 87, 3) := by decide +kernel
theorem dX4_memoryAt_9 : decode cX4_memoryAt 9 = .ok (.if_icmp .ge 25, 3) := by decide +kernel
theorem dX4_memoryAt_12 : decode cX4_memoryAt 12 = .ok (.aload_n 0, 1) := by decide +kernel
theorem dX4_memoryAt_13 : decode cX4_memoryAt 13 = .ok (.getfield 22, 3) := by decide +kernel
theorem dX4_memoryAt_16 : decode cX4_memoryAt 16 = .ok (.iload_n 3, 1) := by decide +kernel
theorem dX4_memoryAt_17 : decode cX4_memoryAt 17 = .ok (.iaload, 1) := by decide +kernel
theorem dX4_memoryAt_18 : decode cX4_memoryAt 18 = .ok (.iload_n 1, 1) := by decide +kernel
theorem dX4_memoryAt_19 : decode cX4_memoryAt 19 = .ok (.if_icmp .ne 7, 3) := by decide +kernel
theorem dX4_memoryAt_22 : decode cX4_memoryAt 22 = .ok (.iload_n 3, 1) := by decide +kernel
theorem dX4_memoryAt_23 : decode cX4_memoryAt 23 = .ok (.goto 4, 3) := by decide +kernel
theorem dX4_memoryAt_26 : decode cX4_memoryAt 26 = .ok (.iload_n 2, 1) := by decide +kernel
theorem dX4_memoryAt_27 : decode cX4_memoryAt 27 = .ok (.istore_n 2, 1) := by decide +kernel
theorem dX4_memoryAt_28 : decode cX4_memoryAt 28 = .ok (.iinc 3 1, 3) := by decide +kernel
theorem dX4_memoryAt_31 : decode cX4_memoryAt 31 = .ok (.goto (-27), 3) := by decide +kernel
theorem dX4_memoryAt_34 : decode cX4_memoryAt 34 = .ok (.iload_n 2, 1) := by decide +kernel
theorem dX4_memoryAt_35 : decode cX4_memoryAt 35 = .ok (.ireturn, 1) := by decide +kernel
theorem dX4_die_0 : decode cX4_die 0 = .ok (.aload_n 0, 1) := by decide +kernel
theorem dX4_die_1 : decode cX4_die 1 = .ok (.getfield 16, 3) := by decide +kernel
theorem dX4_die_4 : decode cX4_die 4 = .ok (.iload_n 1, 1) := by decide +kernel
theorem dX4_die_5 : decode cX4_die 5 = .ok (.iaload, 1) := by decide +kernel
theorem dX4_die_6 : decode cX4_die 6 = .ok (.ifCond .lt 32, 3) := by decide +kernel
theorem dX4_die_9 : decode cX4_die 9 = .ok (.aload_n 0, 1) := by decide +kernel
theorem dX4_die_10 : decode cX4_die 10 = .ok (.getfield 47, 3) := by decide +kernel
theorem dX4_die_13 : decode cX4_die 13 = .ok (.bipush 100, 2) := by decide +kernel
theorem dX4_die_15 : decode cX4_die 15 = .ok (.aload_n 0, 1) := by decide +kernel
theorem dX4_die_16 : decode cX4_die 16 = .ok (.getfield 16, 3) := by decide +kernel
theorem dX4_die_19 : decode cX4_die 19 = .ok (.iload_n 1, 1) := by decide +kernel
theorem dX4_die_20 : decode cX4_die 20 = .ok (.iaload, 1) := by decide +kernel
theorem dX4_die_21 : decode cX4_die 21 = .ok (.imul, 1) := by decide +kernel
theorem dX4_die_22 : decode cX4_die 22 = .ok (.aload_n 0, 1) := by decide +kernel
theorem dX4_die_23 : decode cX4_die 23 = .ok (.getfield 19, 3) := by decide +kernel
theorem dX4_die_26 : decode cX4_die 26 = .ok (.iload_n 1, 1) := by decide +kernel
theorem dX4_die_27 : decode cX4_die 27 = .ok (.iaload, 1) := by decide +kernel
theorem dX4_die_28 : decode cX4_die 28 = .ok (.iadd, 1) := by decide +kernel
theorem dX4_die_29 : decode cX4_die 29 = .ok (.iconst 0, 1) := by decide +kernel
theorem dX4_die_30 : decode cX4_die 30 = .ok (.bastore, 1) := by decide +kernel
theorem dX4_die_31 : decode cX4_die 31 = .ok (.aload_n 0, 1) := by decide +kernel
theorem dX4_die_32 : decode cX4_die 32 = .ok (.getfield 16, 3) := by decide +kernel
theorem dX4_die_35 : decode cX4_die 35 = .ok (.iload_n 1, 1) := by decide +kernel
theorem dX4_die_36 : decode cX4_die 36 = .ok (.iconst (-1), 1) := by decide +kernel
theorem dX4_die_37 : decode cX4_die 37 = .ok (.iastore, 1) := by decide +kernel
theorem dX4_die_38 : decode cX4_die 38 = .ok (.return_, 1) := by decide +kernel
set_option maxRecDepth 20000 in
theorem ggX4_put_X4_in : GoodIn wsX4_put wsX4_in := goodIn_r _ [9] (by decide +kernel) (by decide +kernel)
set_option maxRecDepth 20000 in
theorem gX4_put_X4_in : GoodIn wsX4_put (va_wsS RX4 90 yX4_in wsX4_in) := goodIn_app (goodIn_of _ (by decide +kernel)) ggX4_put_X4_in
set_option maxRecDepth 20000 in
theorem ggX4_put_X4_memoryAt : GoodIn wsX4_put wsX4_memoryAt := goodIn_r _ [13, 2, 3, 21, 22, 23, 24, 25, 26, 27, 28, 29, 30, 31, 32, 33, 34, 35, 36, 37, 38, 39, 40, 41, 42, 43, 44, 45, 46, 47, 48, 49, 50, 51, 52, 53, 54] (by decide +kernel) (by decide +kernel)
set_option maxRecDepth 20000 in
theorem gX4_put_X4_memoryAt : GoodIn wsX4_put (wsV RX4 94 RX4 yX4_memoryAt wsX4_memoryAt) := goodIn_app (goodIn_of _ (by decide +kernel)) ggX4_put_X4_memoryAt
set_option maxRecDepth 20000 in
theorem ggX4_put_X4_die : GoodIn wsX4_put wsX4_die := goodIn_r _ [17, 18, 19, 20, 21, 22, 23, 24, 25, 26, 27, 28, 29, 30, 31, 32, 33, 34, 35, 36, 37, 38, 39, 40, 41, 42, 43, 44, 45, 46, 47, 48, 49, 50, 51, 52, 53, 54] (by decide +kernel) (by decide +kernel)
set_option maxRecDepth 20000 in
theorem gX4_put_X4_die : GoodIn wsX4_put (wsV RX4 98 RX4 yX4_die wsX4_die) := goodIn_app (goodIn_of _ (by decide +kernel)) ggX4_put_X4_die
