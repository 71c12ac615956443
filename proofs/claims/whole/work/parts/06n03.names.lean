theorem dX3_worst_11 : decode cX3_worst 11 = .ok (.istore_n 1, 1) := by decide +kernel
theorem dX3_worst_12 : decode cX3_worst 12 = .ok (.iconst 1, 1) := by decide +kernel
theorem dX3_worst_13 : decode cX3_worst 13 = .ok (.istore_n 2, 1) := by decide +kernel
theorem dX3_worst_14 : decode cX3_worst 14 = .ok (.iload_n 2, 1) := by decide +kernel
theorem dX3_worst_15 : decode cX3_worst 15 = .ok (.aload_n 0, 1) := by decide +kernel
theorem dX3_worst_16 : decode cX3_worst 16 = .ok (.getfield 26, 3) := by decide +kernel
theorem dX3_worst_19 : decode cX3_worst 19 = .ok (.if_icmp .ge 29, 3) := by decide +kernel
theorem dX3_worst_22 : decode cX3_worst 22 = .ok (.aload_n 0, 1) := by decide +kernel
theorem dX3_worst_23 : decode cX3_worst 23 = .ok (.getfield 22, 3) := by decide +kernel
theorem dX3_worst_26 : decode cX3_worst 26 = .ok (.iload_n 2, 1) := by decide +kernel
theorem dX3_worst_27 : decode cX3_worst 27 = .ok (.aaload, 1) := by decide +kernel
theorem dX3_worst_28 : decode cX3_worst 28 = .ok (.aload_n 0, 1) := by decide +kernel
theorem dX3_worst_29 : decode cX3_worst 29 = .ok (.getfield 22, 3) := by decide +kernel
theorem dX3_worst_32 : decode cX3_worst 32 = .ok (.iload_n 1, 1) := by decide +kernel
theorem dX3_worst_33 : decode cX3_worst 33 = .ok (.aaload, 1) := by decide +kernel
theorem dX3_worst_34 : decode cX3_worst 34 = .ok (.invokevirtual 133, 3) := by decide +kernel
theorem dX3_worst_37 : decode cX3_worst 37 = .ok (.ifCond .eq 5, 3) := by decide +kernel
theorem dX3_worst_40 : decode cX3_worst 40 = .ok (.iload_n 2, 1) := by decide +kernel
theorem dX3_worst_41 : decode cX3_worst 41 = .ok (.istore_n 1, 1) := by decide +kernel
theorem dX3_worst_42 : decode cX3_worst 42 = .ok (.iinc 2 1, 3) := by decide +kernel
theorem dX3_worst_45 : decode cX3_worst 45 = .ok (.goto (-31), 3) := by decide +kernel
theorem dX3_worst_48 : decode cX3_worst 48 = .ok (.iload_n 1, 1) := by decide +kernel
theorem dX3_worst_49 : decode cX3_worst 49 = .ok (.ireturn, 1) := by decide +kernel
set_option maxRecDepth 20000 in
theorem ggX3_begin_X3_isPlace : GoodIn wsX3_begin wsX3_isPlace := goodIn_r _ [11, 12, 31, 32, 33, 34, 35, 36, 37, 38, 39, 40, 41] (by decide +kernel) (by decide +kernel)
set_option maxRecDepth 20000 in
theorem gX3_begin_X3_isPlace : GoodIn wsX3_begin (wsV RX3 102 RX3 yX3_isPlace wsX3_isPlace) := goodIn_app (goodIn_of _ (by decide +kernel)) ggX3_begin_X3_isPlace
set_option maxRecDepth 20000 in
theorem ggX3_begin_X3_canBeMerged : GoodIn wsX3_begin wsX3_canBeMerged := goodIn_r _ [15] (by decide +kernel) (by decide +kernel)
set_option maxRecDepth 20000 in
theorem gX3_begin_X3_canBeMerged : GoodIn wsX3_begin (va_wsS RX3 130 yX3_canBeMerged wsX3_canBeMerged) := goodIn_app (goodIn_of _ (by decide +kernel)) ggX3_begin_X3_canBeMerged
set_option maxRecDepth 20000 in
theorem ggX3_begin_X1_init : GoodIn wsX3_begin wsX1_init := goodIn_r _ [18, 19, 20, 21, 22, 23, 24, 25, 26, 27, 28, 29, 30, 42, 43, 44, 45, 46, 47, 48, 49, 50, 51, 52, 53, 54, 55] (by decide +kernel) (by decide +kernel)
set_option maxRecDepth 20000 in
theorem gX3_begin_X1_init : GoodIn wsX3_begin (wsX1_init) := ggX3_begin_X1_init
theorem dX3_begin_0 : decode cX3_begin 0 = .ok (.aload_n 0, 1) := by decide +kernel
theorem dX3_begin_1 : decode cX3_begin 1 = .ok (.iload_n 1, 1) := by decide +kernel
theorem dX3_begin_2 : decode cX3_begin 2 = .ok (.invokevirtual 102, 3) := by decide +kernel
theorem dX3_begin_5 : decode cX3_begin 5 = .ok (.ifCond .ne 5, 3) := by decide +kernel
theorem dX3_begin_8 : decode cX3_begin 8 = .ok (.iconst (-1), 1) := by decide +kernel
theorem dX3_begin_9 : decode cX3_begin 9 = .ok (.ireturn, 1) := by decide +kernel
theorem dX3_begin_10 : decode cX3_begin 10 = .ok (.iload_n 2, 1) := by decide +kernel
theorem dX3_begin_11 : decode cX3_begin 11 = .ok (.invokestatic 130, 3) := by decide +kernel
theorem dX3_begin_14 : decode cX3_begin 14 = .ok (.ifCond .ne 6, 3) := by decide +kernel
theorem dX3_begin_17 : decode cX3_begin 17 = .ok (.bipush (-2), 2) := by decide +kernel
theorem dX3_begin_19 : decode cX3_begin 19 = .ok (.ireturn, 1) := by decide +kernel
theorem dX3_begin_20 : decode cX3_begin 20 = .ok (.aload_n 0, 1) := by decide +kernel
theorem dX3_begin_21 : decode cX3_begin 21 = .ok (.iload_n 1, 1) := by decide +kernel
theorem dX3_begin_22 : decode cX3_begin 22 = .ok (.iload_n 2, 1) := by decide +kernel
theorem dX3_begin_23 : decode cX3_begin 23 = .ok (.iadd, 1) := by decide +kernel
theorem dX3_begin_24 : decode cX3_begin 24 = .ok (.iconst 1, 1) := by decide +kernel
theorem dX3_begin_25 : decode cX3_begin 25 = .ok (.isub, 1) := by decide +kernel
theorem dX3_begin_26 : decode cX3_begin 26 = .ok (.invokevirtual 102, 3) := by decide +kernel
theorem dX3_begin_29 : decode cX3_begin 29 = .ok (.ifCond .ne 5, 3) := by decide +kernel
theorem dX3_begin_32 : decode cX3_begin 32 = .ok (.iconst (-1), 1) := by decide +kernel
theorem dX3_begin_33 : decode cX3_begin 33 = .ok (.ireturn, 1) := by decide +kernel
theorem dX3_begin_34 : decode cX3_begin 34 = .ok (.aload_n 0, 1) := by decide +kernel
theorem dX3_begin_35 : decode cX3_begin 35 = .ok (.getfield 39, 3) := by decide +kernel
theorem dX3_begin_38 : decode cX3_begin 38 = .ok (.ifnull 6, 3) := by decide +kernel
theorem dX3_begin_41 : decode cX3_begin 41 = .ok (.bipush (-3), 2) := by decide +kernel
theorem dX3_begin_43 : decode cX3_begin 43 = .ok (.ireturn, 1) := by decide +kernel
theorem dX3_begin_44 : decode cX3_begin 44 = .ok (.aload_n 0, 1) := by decide +kernel
theorem dX3_begin_45 : decode cX3_begin 45 = .ok (.new 112, 3) := by decide +kernel
theorem dX3_begin_48 : decode cX3_begin 48 = .ok (.dup, 1) := by decide +kernel
theorem dX3_begin_49 : decode cX3_begin 49 = .ok (.aload_n 0, 1) := by decide +kernel
theorem dX3_begin_50 : decode cX3_begin 50 = .ok (.getfield 22, 3) := by decide +kernel
theorem dX3_begin_53 : decode cX3_begin 53 = .ok (.iload_n 1, 1) := by decide +kernel
theorem dX3_begin_54 : decode cX3_begin 54 = .ok (.iload_n 2, 1) := by decide +kernel
theorem dX3_begin_55 : decode cX3_begin 55 = .ok (.invokespecial 137, 3) := by decide +kernel
theorem dX3_begin_58 : decode cX3_begin 58 = .ok (.putfield 39, 3) := by decide +kernel
theorem dX3_begin_61 : decode cX3_begin 61 = .ok (.aload_n 0, 1) := by decide +kernel
theorem dX3_begin_62 : decode cX3_begin 62 = .ok (.getfield 39, 3) := by decide +kernel
theorem dX3_begin_65 : decode cX3_begin 65 = .ok (.getfield 140, 3) := by decide +kernel
theorem dX3_begin_68 : decode cX3_begin 68 = .ok (.ireturn, 1) := by decide +kernel
set_option maxRecDepth 20000 in
theorem ggX3_step_X1_takeOne : GoodIn wsX3_step wsX1_takeOne := goodIn_r _ [7, 8, 9, 10, 11, 12, 13, 14, 15, 16, 17, 6, 18, 19, 20, 86, 87, 88, 89, 90, 91, 92, 93, 94, 95, 96, 97, 98, 99] (by decide +kernel) (by decide +kernel)
set_option maxRecDepth 20000 in
theorem gX3_step_X1_takeOne : GoodIn wsX3_step (wsV RX3 143 RX1 yX1_takeOne wsX1_takeOne) := goodIn_app (goodIn_of _ (by decide +kernel)) ggX3_step_X1_takeOne
set_option maxRecDepth 20000 in
theorem ggX3_step_X3_endMerge : GoodIn wsX3_step wsX3_endMerge := goodIn_r _ [25, 26, 27, 28, 29, 30, 31, 32, 1, 33, 34, 35, 6, 36, 37, 38, 39, 12, 8, 19, 11, 20, 40, 10, 41, 42, 43, 44, 45, 46, 47, 48, 49, 50, 51, 52, 53, 54, 55, 56, 57, 58, 59, 60, 61, 62, 63, 64, 65, 66, 67, 68, 69, 70, 71, 72, 24, 73, 74, 86, 87, 88, 89, 90, 91, 75, 76, 77, 78, 79, 80, 81, 82, 83, 84, 85, 92, 93, 94, 95, 96, 97, 98, 99] (by decide +kernel) (by decide +kernel)
set_option maxRecDepth 20000 in
theorem gX3_step_X3_endMerge : GoodIn wsX3_step (wsV RX3 146 RX3 yX3_endMerge wsX3_endMerge) := goodIn_app (goodIn_of _ (by decide +kernel)) ggX3_step_X3_endMerge
theorem dX3_step_0 : decode cX3_step 0 = .ok (.iload_n 1, 1) := by decide +kernel
theorem dX3_step_1 : decode cX3_step 1 = .ok (.ifCond .lt 10, 3) := by decide +kernel
theorem dX3_step_4 : decode cX3_step 4 = .ok (.iload_n 1, 1) := by decide +kernel
theorem dX3_step_5 : decode cX3_step 5 = .ok (.sipush 1000, 3) := by decide +kernel
theorem dX3_step_8 : decode cX3_step 8 = .ok (.if_icmp .le 6, 3) := by decide +kernel
theorem dX3_step_11 : decode cX3_step 11 = .ok (.bipush (-2), 2) := by decide +kernel
theorem dX3_step_13 : decode cX3_step 13 = .ok (.ireturn, 1) := by decide +kernel
theorem dX3_step_14 : decode cX3_step 14 = .ok (.aload_n 0, 1) := by decide +kernel
theorem dX3_step_15 : decode cX3_step 15 = .ok (.getfield 39, 3) := by decide +kernel
theorem dX3_step_18 : decode cX3_step 18 = .ok (.ifnonnull 6, 3) := by decide +kernel
theorem dX3_step_21 : decode cX3_step 21 = .ok (.bipush (-3), 2) := by decide +kernel
theorem dX3_step_23 : decode cX3_step 23 = .ok (.ireturn, 1) := by decide +kernel
theorem dX3_step_24 : decode cX3_step 24 = .ok (.iconst 0, 1) := by decide +kernel
theorem dX3_step_25 : decode cX3_step 25 = .ok (.istore_n 2, 1) := by decide +kernel
theorem dX3_step_26 : decode cX3_step 26 = .ok (.iload_n 2, 1) := by decide +kernel
theorem dX3_step_27 : decode cX3_step 27 = .ok (.iload_n 1, 1) := by decide +kernel
theorem dX3_step_28 : decode cX3_step 28 = .ok (.if_icmp .ge 26, 3) := by decide +kernel
theorem dX3_step_31 : decode cX3_step 31 = .ok (.aload_n 0, 1) := by decide +kernel
theorem dX3_step_32 : decode cX3_step 32 = .ok (.getfield 39, 3) := by decide +kernel
theorem dX3_step_35 : decode cX3_step 35 = .ok (.getfield 140, 3) := by decide +kernel
theorem dX3_step_38 : decode cX3_step 38 = .ok (.ifCond .le 16, 3) := by decide +kernel
theorem dX3_step_41 : decode cX3_step 41 = .ok (.aload_n 0, 1) := by decide +kernel
theorem dX3_step_42 : decode cX3_step 42 = .ok (.getfield 39, 3) := by decide +kernel
theorem dX3_step_45 : decode cX3_step 45 = .ok (.invokevirtual 143, 3) := by decide +kernel
theorem dX3_step_48 : decode cX3_step 48 = .ok (.iinc 2 1, 3) := by decide +kernel
theorem dX3_step_51 : decode cX3_step 51 = .ok (.goto (-25), 3) := by decide +kernel
theorem dX3_step_54 : decode cX3_step 54 = .ok (.aload_n 0, 1) := by decide +kernel
theorem dX3_step_55 : decode cX3_step 55 = .ok (.getfield 39, 3) := by decide +kernel
theorem dX3_step_58 : decode cX3_step 58 = .ok (.getfield 140, 3) := by decide +kernel
theorem dX3_step_61 : decode cX3_step 61 = .ok (.ifCond .ne 11, 3) := by decide +kernel
theorem dX3_step_64 : decode cX3_step 64 = .ok (.aload_n 0, 1) := by decide +kernel
theorem dX3_step_65 : decode cX3_step 65 = .ok (.aload_n 0, 1) := by decide +kernel
theorem dX3_step_66 : decode cX3_step 66 = .ok (.getfield 39, 3) := by decide +kernel
theorem dX3_step_69 : decode cX3_step 69 = .ok (.invokevirtual 146, 3) := by decide +kernel
theorem dX3_step_72 : decode cX3_step 72 = .ok (.iload_n 2, 1) := by decide +kernel
theorem dX3_step_73 : decode cX3_step 73 = .ok (.ireturn, 1) := by decide +kernel
theorem dX3_stop_0 : decode cX3_stop 0 = .ok (.aload_n 0, 1) := by decide +kernel
theorem dX3_stop_1 : decode cX3_stop 1 = .ok (.getfield 39, 3) := by decide +kernel
theorem dX3_stop_4 : decode cX3_stop 4 = .ok (.ifnonnull 6, 3) := by decide +kernel
theorem dX3_stop_7 : decode cX3_stop 7 = .ok (.bipush (-3), 2) := by decide +kernel
theorem dX3_stop_9 : decode cX3_stop 9 = .ok (.ireturn, 1) := by decide +kernel
theorem dX3_stop_10 : decode cX3_stop 10 = .ok (.aload_n 0, 1) := by decide +kernel
theorem dX3_stop_11 : decode cX3_stop 11 = .ok (.getfield 39, 3) := by decide +kernel
theorem dX3_stop_14 : decode cX3_stop 14 = .ok (.getfield 150, 3) := by decide +kernel
theorem dX3_stop_17 : decode cX3_stop 17 = .ok (.istore_n 1, 1) := by decide +kernel
theorem dX3_stop_18 : decode cX3_stop 18 = .ok (.aload_n 0, 1) := by decide +kernel
theorem dX3_stop_19 : decode cX3_stop 19 = .ok (.dup, 1) := by decide +kernel
theorem dX3_stop_20 : decode cX3_stop 20 = .ok (.getfield 33, 3) := by decide +kernel
theorem dX3_stop_23 : decode cX3_stop 23 = .ok (.aload_n 0, 1) := by decide +kernel
theorem dX3_stop_24 : decode cX3_stop 24 = .ok (.getfield 39, 3) := by decide +kernel
theorem dX3_stop_27 : decode cX3_stop 27 = .ok (.getfield 153, 3) := by decide +kernel
theorem dX3_stop_30 : decode cX3_stop 30 = .ok (.iadd, 1) := by decide +kernel
theorem dX3_stop_31 : decode cX3_stop 31 = .ok (.putfield 33, 3) := by decide +kernel
theorem dX3_stop_34 : decode cX3_stop 34 = .ok (.aload_n 0, 1) := by decide +kernel
theorem dX3_stop_35 : decode cX3_stop 35 = .ok (.aconst_null, 1) := by decide +kernel
theorem dX3_stop_36 : decode cX3_stop 36 = .ok (.putfield 39, 3) := by decide +kernel
theorem dX3_stop_39 : decode cX3_stop 39 = .ok (.iload_n 1, 1) := by decide +kernel
theorem dX3_stop_40 : decode cX3_stop 40 = .ok (.ireturn, 1) := by decide +kernel
theorem dX3_merging_0 : decode cX3_merging 0 = .ok (.iload_n 1, 1) := by decide +kernel
theorem dX3_merging_1 : decode cX3_merging 1 = .ok (.ifCond .lt 8, 3) := by decide +kernel
theorem dX3_merging_4 : decode cX3_merging 4 = .ok (.iload_n 1, 1) := by decide +kernel
theorem dX3_merging_5 : decode cX3_merging 5 = .ok (.iconst 3, 1) := by decide +kernel
theorem dX3_merging_6 : decode cX3_merging 6 = .ok (.if_icmp .le 6, 3) := by decide +kernel
theorem dX3_merging_9 : decode cX3_merging 9 = .ok (.bipush (-2), 2) := by decide +kernel
theorem dX3_merging_11 : decode cX3_merging 11 = .ok (.ireturn, 1) := by decide +kernel
theorem dX3_merging_12 : decode cX3_merging 12 = .ok (.aload_n 0, 1) := by decide +kernel
theorem dX3_merging_13 : decode cX3_merging 13 = .ok (.getfield 39, 3) := by decide +kernel
theorem dX3_merging_16 : decode cX3_merging 16 = .ok (.ifnonnull 6, 3) := by decide +kernel
theorem dX3_merging_19 : decode cX3_merging 19 = .ok (.bipush (-3), 2) := by decide +kernel
theorem dX3_merging_21 : decode cX3_merging 21 = .ok (.ireturn, 1) := by decide +kernel
theorem dX3_merging_22 : decode cX3_merging 22 = .ok (.iload_n 1, 1) := by decide +kernel
theorem dX3_merging_23 : decode cX3_merging 23 = .ok (.tableswitch 49 0 2 #[25, 33, 41], 25) := by decide +kernel
theorem dX3_merging_48 : decode cX3_merging 48 = .ok (.aload_n 0, 1) := by decide +kernel
theorem dX3_merging_49 : decode cX3_merging 49 = .ok (.getfield 39, 3) := by decide +kernel
theorem dX3_merging_52 : decode cX3_merging 52 = .ok (.getfield 150, 3) := by decide +kernel
theorem dX3_merging_55 : decode cX3_merging 55 = .ok (.ireturn, 1) := by decide +kernel
theorem dX3_merging_56 : decode cX3_merging 56 = .ok (.aload_n 0, 1) := by decide +kernel
theorem dX3_merging_57 : decode cX3_merging 57 = .ok (.getfield 39, 3) := by decide +kernel
theorem dX3_merging_60 : decode cX3_merging 60 = .ok (.getfield 153, 3) := by decide +kernel
theorem dX3_merging_63 : decode cX3_merging 63 = .ok (.ireturn, 1) := by decide +kernel
theorem dX3_merging_64 : decode cX3_merging 64 = .ok (.aload_n 0, 1) := by decide +kernel
theorem dX3_merging_65 : decode cX3_merging 65 = .ok (.getfield 39, 3) := by decide +kernel
theorem dX3_merging_68 : decode cX3_merging 68 = .ok (.getfield 140, 3) := by decide +kernel
theorem dX3_merging_71 : decode cX3_merging 71 = .ok (.ireturn, 1) := by decide +kernel
theorem dX3_merging_72 : decode cX3_merging 72 = .ok (.aload_n 0, 1) := by decide +kernel
theorem dX3_merging_73 : decode cX3_merging 73 = .ok (.getfield 39, 3) := by decide +kernel
theorem dX3_merging_76 : decode cX3_merging 76 = .ok (.getfield 156, 3) := by decide +kernel
theorem dX3_merging_79 : decode cX3_merging 79 = .ok (.ireturn, 1) := by decide +kernel
set_option maxRecDepth 20000 in
theorem ggX3_moved_X1_sourceOf : GoodIn wsX3_moved wsX1_sourceOf := goodIn_r _ [7, 8, 9, 35, 36, 37, 38, 39, 40, 27, 28, 29, 30, 31, 32, 33, 34] (by decide +kernel) (by decide +kernel)
set_option maxRecDepth 20000 in
theorem gX3_moved_X1_sourceOf : GoodIn wsX3_moved (wsV RX3 159 RX1 yX1_sourceOf wsX1_sourceOf) := goodIn_app (goodIn_of _ (by decide +kernel)) ggX3_moved_X1_sourceOf
set_option maxRecDepth 20000 in
theorem ggX3_moved_X2_hasRow : GoodIn wsX3_moved wsX2_hasRow := goodIn_r _ [14, 15, 27, 28, 29, 30, 31, 32, 33, 34] (by decide +kernel) (by decide +kernel)
set_option maxRecDepth 20000 in
theorem gX3_moved_X2_hasRow : GoodIn wsX3_moved (wsV RX3 116 RX2 yX2_hasRow wsX2_hasRow) := goodIn_app (goodIn_of _ (by decide +kernel)) ggX3_moved_X2_hasRow
theorem dX3_moved_0 : decode cX3_moved 0 = .ok (.aload_n 0, 1) := by decide +kernel
theorem dX3_moved_1 : decode cX3_moved 1 = .ok (.getfield 43, 3) := by decide +kernel
theorem dX3_moved_4 : decode cX3_moved 4 = .ok (.ifnonnull 7, 3) := by decide +kernel
theorem dX3_moved_7 : decode cX3_moved 7 = .ok (.aconst_null, 1) := by decide +kernel
theorem dX3_moved_8 : decode cX3_moved 8 = .ok (.goto 11, 3) := by decide +kernel
theorem dX3_moved_11 : decode cX3_moved 11 = .ok (.aload_n 0, 1) := by decide +kernel
theorem dX3_moved_12 : decode cX3_moved 12 = .ok (.getfield 43, 3) := by decide +kernel
theorem dX3_moved_15 : decode cX3_moved 15 = .ok (.iload_n 1, 1) := by decide +kernel
theorem dX3_moved_16 : decode cX3_moved 16 = .ok (.invokevirtual 159, 3) := by decide +kernel
theorem dX3_moved_19 : decode cX3_moved 19 = .ok (.astore_n 3, 1) := by decide +kernel
theorem dX3_moved_20 : decode cX3_moved 20 = .ok (.aload_n 3, 1) := by decide +kernel
theorem dX3_moved_21 : decode cX3_moved 21 = .ok (.ifnull 11, 3) := by decide +kernel
theorem dX3_moved_24 : decode cX3_moved 24 = .ok (.aload_n 3, 1) := by decide +kernel
theorem dX3_moved_25 : decode cX3_moved 25 = .ok (.iload_n 2, 1) := by decide +kernel
theorem dX3_moved_26 : decode cX3_moved 26 = .ok (.invokevirtual 116, 3) := by decide +kernel
theorem dX3_moved_29 : decode cX3_moved 29 = .ok (.ifCond .ne 5, 3) := by decide +kernel
theorem dX3_moved_32 : decode cX3_moved 32 = .ok (.iconst (-1), 1) := by decide +kernel
theorem dX3_moved_33 : decode cX3_moved 33 = .ok (.ireturn, 1) := by decide +kernel
theorem dX3_moved_34 : decode cX3_moved 34 = .ok (.aload_n 3, 1) := by decide +kernel
theorem dX3_moved_35 : decode cX3_moved 35 = .ok (.getfield 162, 3) := by decide +kernel
theorem dX3_moved_38 : decode cX3_moved 38 = .ok (.iload_n 2, 1) := by decide +kernel
theorem dX3_moved_39 : decode cX3_moved 39 = .ok (.iaload, 1) := by decide +kernel
theorem dX3_moved_40 : decode cX3_moved 40 = .ok (.iconst (-1), 1) := by decide +kernel
theorem dX3_moved_41 : decode cX3_moved 41 = .ok (.if_icmp .ne 8, 3) := by decide +kernel
theorem dX3_moved_44 : decode cX3_moved 44 = .ok (.bipush (-3), 2) := by decide +kernel
theorem dX3_moved_46 : decode cX3_moved 46 = .ok (.goto 9, 3) := by decide +kernel
theorem dX3_moved_49 : decode cX3_moved 49 = .ok (.aload_n 3, 1) := by decide +kernel
theorem dX3_moved_50 : decode cX3_moved 50 = .ok (.getfield 162, 3) := by decide +kernel
theorem dX3_moved_53 : decode cX3_moved 53 = .ok (.iload_n 2, 1) := by decide +kernel
theorem dX3_moved_54 : decode cX3_moved 54 = .ok (.iaload, 1) := by decide +kernel
theorem dX3_moved_55 : decode cX3_moved 55 = .ok (.ireturn, 1) := by decide +kernel
theorem dX3_view_0 : decode cX3_view 0 = .ok (.iconst 0, 1) := by decide +kernel
theorem dX3_view_1 : decode cX3_view 1 = .ok (.istore_n 1, 1) := by decide +kernel
theorem dX3_view_2 : decode cX3_view 2 = .ok (.iload_n 1, 1) := by decide +kernel
theorem dX3_view_3 : decode cX3_view 3 = .ok (.iconst 4, 1) := by decide +kernel
theorem dX3_view_4 : decode cX3_view 4 = .ok (.if_icmp .ge 44, 3) := by decide +kernel
theorem dX3_view_7 : decode cX3_view 7 = .ok (.aload_n 0, 1) := by decide +kernel
theorem dX3_view_8 : decode cX3_view 8 = .ok (.getfield 51, 3) := by decide +kernel
theorem dX3_view_11 : decode cX3_view 11 = .ok (.iload_n 1, 1) := by decide +kernel
theorem dX3_view_12 : decode cX3_view 12 = .ok (.baload, 1) := by decide +kernel
theorem dX3_view_13 : decode cX3_view 13 = .ok (.ifCond .ne 29, 3) := by decide +kernel
theorem dX3_view_16 : decode cX3_view 16 = .ok (.aload_n 0, 1) := by decide +kernel
theorem dX3_view_17 : decode cX3_view 17 = .ok (.getfield 51, 3) := by decide +kernel
theorem dX3_view_20 : decode cX3_view 20 = .ok (.iload_n 1, 1) := by decide +kernel
theorem dX3_view_21 : decode cX3_view 21 = .ok (.iconst 1, 1) := by decide +kernel
theorem dX3_view_22 : decode cX3_view 22 = .ok (.bastore, 1) := by decide +kernel
theorem dX3_view_23 : decode cX3_view 23 = .ok (.aload_n 0, 1) := by decide +kernel
theorem dX3_view_24 : decode cX3_view 24 = .ok (.getfield 9, 3) := by decide +kernel
theorem dX3_view_27 : decode cX3_view 27 = .ok (.iconst 0, 1) := by decide +kernel
theorem dX3_view_28 : decode cX3_view 28 = .ok (.aload_n 0, 1) := by decide +kernel
theorem dX3_view_29 : decode cX3_view 29 = .ok (.getfield 48, 3) := by decide +kernel
theorem dX3_view_32 : decode cX3_view 32 = .ok (.iload_n 1, 1) := by decide +kernel
theorem dX3_view_33 : decode cX3_view 33 = .ok (.aaload, 1) := by decide +kernel
theorem dX3_view_34 : decode cX3_view 34 = .ok (.iconst 0, 1) := by decide +kernel
theorem dX3_view_35 : decode cX3_view 35 = .ok (.bipush 100, 2) := by decide +kernel
theorem dX3_view_37 : decode cX3_view 37 = .ok (.invokestatic 165, 3) := by decide +kernel
theorem dX3_view_40 : decode cX3_view 40 = .ok (.iload_n 1, 1) := by decide +kernel
theorem dX3_view_41 : decode cX3_view 41 = .ok (.ireturn, 1) := by decide +kernel
theorem dX3_view_42 : decode cX3_view 42 = .ok (.iinc 1 1, 3) := by decide +kernel
theorem dX3_view_45 : decode cX3_view 45 = .ok (.goto (-43), 3) := by decide +kernel
theorem dX3_view_48 : decode cX3_view 48 = .ok (.bipush (-4), 2) := by decide +kernel
theorem dX3_view_50 : decode cX3_view 50 = .ok (.ireturn, 1) := by decide +kernel
set_option maxRecDepth 20000 in
theorem ggX3_seen_X3_isOpenView : GoodIn wsX3_seen wsX3_isOpenView := goodIn_r _ [6, 7, 11, 12, 13, 14, 15, 16, 17, 18, 19, 20, 21] (by decide +kernel) (by decide +kernel)
set_option maxRecDepth 20000 in
theorem gX3_seen_X3_isOpenView : GoodIn wsX3_seen (wsV RX3 171 RX3 yX3_isOpenView wsX3_isOpenView) := goodIn_app (goodIn_of _ (by decide +kernel)) ggX3_seen_X3_isOpenView
set_option maxRecDepth 20000 in
theorem ggX3_seen_X3_isKey : GoodIn wsX3_seen wsX3_isKey := goodIn_r _ [10] (by decide +kernel) (by decide +kernel)
set_option maxRecDepth 20000 in
theorem gX3_seen_X3_isKey : GoodIn wsX3_seen (va_wsS RX3 61 yX3_isKey wsX3_isKey) := goodIn_app (goodIn_of _ (by decide +kernel)) ggX3_seen_X3_isKey
theorem dX3_seen_0 : decode cX3_seen 0 = .ok (.aload_n 0, 1) := by decide +kernel
theorem dX3_seen_1 : decode cX3_seen 1 = .ok (.iload_n 1, 1) := by decide +kernel
theorem dX3_seen_2 : decode cX3_seen 2 = .ok (.invokevirtual 171, 3) := by decide +kernel
theorem dX3_seen_5 : decode cX3_seen 5 = .ok (.ifCond .eq 10, 3) := by decide +kernel
theorem dX3_seen_8 : decode cX3_seen 8 = .ok (.iload_n 2, 1) := by decide +kernel
theorem dX3_seen_9 : decode cX3_seen 9 = .ok (.invokestatic 61, 3) := by decide +kernel
theorem dX3_seen_12 : decode cX3_seen 12 = .ok (.ifCond .ne 5, 3) := by decide +kernel
theorem dX3_seen_15 : decode cX3_seen 15 = .ok (.iconst (-1), 1) := by decide +kernel
theorem dX3_seen_16 : decode cX3_seen 16 = .ok (.ireturn, 1) := by decide +kernel
theorem dX3_seen_17 : decode cX3_seen 17 = .ok (.aload_n 0, 1) := by decide +kernel
theorem dX3_seen_18 : decode cX3_seen 18 = .ok (.getfield 48, 3) := by decide +kernel
theorem dX3_seen_21 : decode cX3_seen 21 = .ok (.iload_n 1, 1) := by decide +kernel
theorem dX3_seen_22 : decode cX3_seen 22 = .ok (.aaload, 1) := by decide +kernel
theorem dX3_seen_23 : decode cX3_seen 23 = .ok (.iload_n 2, 1) := by decide +kernel
theorem dX3_seen_24 : decode cX3_seen 24 = .ok (.iaload, 1) := by decide +kernel
theorem dX3_seen_25 : decode cX3_seen 25 = .ok (.istore_n 3, 1) := by decide +kernel
theorem dX3_seen_26 : decode cX3_seen 26 = .ok (.iload_n 3, 1) := by decide +kernel
theorem dX3_seen_27 : decode cX3_seen 27 = .ok (.iconst (-1), 1) := by decide +kernel
theorem dX3_seen_28 : decode cX3_seen 28 = .ok (.if_icmp .ne 8, 3) := by decide +kernel
theorem dX3_seen_31 : decode cX3_seen 31 = .ok (.bipush (-3), 2) := by decide +kernel
theorem dX3_seen_33 : decode cX3_seen 33 = .ok (.goto 4, 3) := by decide +kernel
theorem dX3_seen_36 : decode cX3_seen 36 = .ok (.iload_n 3, 1) := by decide +kernel
theorem dX3_seen_37 : decode cX3_seen 37 = .ok (.ireturn, 1) := by decide +kernel
set_option maxRecDepth 20000 in
theorem ggX3_shut_X3_isOpenView : GoodIn wsX3_shut wsX3_isOpenView := goodIn_r _ [8, 3, 9, 10, 11, 12, 13, 14, 15, 16, 17, 18, 19] (by decide +kernel) (by decide +kernel)
set_option maxRecDepth 20000 in
theorem gX3_shut_X3_isOpenView : GoodIn wsX3_shut (wsV RX3 171 RX3 yX3_isOpenView wsX3_isOpenView) := goodIn_app (goodIn_of _ (by decide +kernel)) ggX3_shut_X3_isOpenView
theorem dX3_shut_0 : decode cX3_shut 0 = .ok (.aload_n 0, 1) := by decide +kernel
theorem dX3_shut_1 : decode cX3_shut 1 = .ok (.iload_n 1, 1) := by decide +kernel
theorem dX3_shut_2 : decode cX3_shut 2 = .ok (.invokevirtual 171, 3) := by decide +kernel
theorem dX3_shut_5 : decode cX3_shut 5 = .ok (.ifCond .ne 5, 3) := by decide +kernel
theorem dX3_shut_8 : decode cX3_shut 8 = .ok (.iconst (-1), 1) := by decide +kernel
theorem dX3_shut_9 : decode cX3_shut 9 = .ok (.ireturn, 1) := by decide +kernel
theorem dX3_shut_10 : decode cX3_shut 10 = .ok (.iconst 0, 1) := by decide +kernel
theorem dX3_shut_11 : decode cX3_shut 11 = .ok (.istore_n 2, 1) := by decide +kernel
theorem dX3_shut_12 : decode cX3_shut 12 = .ok (.iconst 0, 1) := by decide +kernel
theorem dX3_shut_13 : decode cX3_shut 13 = .ok (.istore_n 3, 1) := by decide +kernel
theorem dX3_shut_14 : decode cX3_shut 14 = .ok (.iload_n 3, 1) := by decide +kernel
theorem dX3_shut_15 : decode cX3_shut 15 = .ok (.bipush 100, 2) := by decide +kernel
theorem dX3_shut_17 : decode cX3_shut 17 = .ok (.if_icmp .ge 29, 3) := by decide +kernel
theorem dX3_shut_20 : decode cX3_shut 20 = .ok (.aload_n 0, 1) := by decide +kernel
theorem dX3_shut_21 : decode cX3_shut 21 = .ok (.getfield 48, 3) := by decide +kernel
theorem dX3_shut_24 : decode cX3_shut 24 = .ok (.iload_n 1, 1) := by decide +kernel
theorem dX3_shut_25 : decode cX3_shut 25 = .ok (.aaload, 1) := by decide +kernel
theorem dX3_shut_26 : decode cX3_shut 26 = .ok (.iload_n 3, 1) := by decide +kernel
theorem dX3_shut_27 : decode cX3_shut 27 = .ok (.iaload, 1) := by decide +kernel
theorem dX3_shut_28 : decode cX3_shut 28 = .ok (.aload_n 0, 1) := by decide +kernel
theorem dX3_shut_29 : decode cX3_shut 29 = .ok (.getfield 9, 3) := by decide +kernel
theorem dX3_shut_32 : decode cX3_shut 32 = .ok (.iload_n 3, 1) := by decide +kernel
theorem dX3_shut_33 : decode cX3_shut 33 = .ok (.iaload, 1) := by decide +kernel
theorem dX3_shut_34 : decode cX3_shut 34 = .ok (.if_icmp .eq 6, 3) := by decide +kernel
theorem dX3_shut_37 : decode cX3_shut 37 = .ok (.iinc 2 1, 3) := by decide +kernel
theorem dX3_shut_40 : decode cX3_shut 40 = .ok (.iinc 3 1, 3) := by decide +kernel
theorem dX3_shut_43 : decode cX3_shut 43 = .ok (.goto (-29), 3) := by decide +kernel
theorem dX3_shut_46 : decode cX3_shut 46 = .ok (.aload_n 0, 1) := by decide +kernel
theorem dX3_shut_47 : decode cX3_shut 47 = .ok (.getfield 51, 3) := by decide +kernel
theorem dX3_shut_50 : decode cX3_shut 50 = .ok (.iload_n 1, 1) := by decide +kernel
theorem dX3_shut_51 : decode cX3_shut 51 = .ok (.iconst 0, 1) := by decide +kernel
theorem dX3_shut_52 : decode cX3_shut 52 = .ok (.bastore, 1) := by decide +kernel
theorem dX3_shut_53 : decode cX3_shut 53 = .ok (.iload_n 2, 1) := by decide +kernel
theorem dX3_shut_54 : decode cX3_shut 54 = .ok (.ireturn, 1) := by decide +kernel
set_option maxRecDepth 20000 in
theorem ggX3_share_X3_rowsInSegments : GoodIn wsX3_share wsX3_rowsInSegments := goodIn_r _ [8, 3, 9, 10, 16, 17, 18, 19, 20, 21, 22, 23, 24, 25, 26, 27, 28, 29, 30, 31, 32, 33, 34] (by decide +kernel) (by decide +kernel)
set_option maxRecDepth 20000 in
theorem gX3_share_X3_rowsInSegments : GoodIn wsX3_share (wsV RX3 94 RX3 yX3_rowsInSegments wsX3_rowsInSegments) := goodIn_app (goodIn_of _ (by decide +kernel)) ggX3_share_X3_rowsInSegments
set_option maxRecDepth 20000 in
theorem ggX3_share_X3_livingFrom : GoodIn wsX3_share wsX3_livingFrom := goodIn_r _ [14, 9, 15, 16, 17, 18, 19, 20, 21, 22, 23, 24, 25, 26, 27, 28, 29, 30, 31, 32, 33, 34] (by decide +kernel) (by decide +kernel)
set_option maxRecDepth 20000 in
theorem gX3_share_X3_livingFrom : GoodIn wsX3_share (wsV RX3 98 RX3 yX3_livingFrom wsX3_livingFrom) := goodIn_app (goodIn_of _ (by decide +kernel)) ggX3_share_X3_livingFrom
theorem dX3_share_0 : decode cX3_share 0 = .ok (.aload_n 0, 1) := by decide +kernel
theorem dX3_share_1 : decode cX3_share 1 = .ok (.invokevirtual 94, 3) := by decide +kernel
theorem dX3_share_4 : decode cX3_share 4 = .ok (.istore_n 1, 1) := by decide +kernel
theorem dX3_share_5 : decode cX3_share 5 = .ok (.iload_n 1, 1) := by decide +kernel
theorem dX3_share_6 : decode cX3_share 6 = .ok (.ifCond .ne 13, 3) := by decide +kernel
theorem dX3_share_9 : decode cX3_share 9 = .ok (.new 174, 3) := by decide +kernel
theorem dX3_share_12 : decode cX3_share 12 = .ok (.dup, 1) := by decide +kernel
theorem dX3_share_13 : decode cX3_share 13 = .ok (.ldc 176, 2) := by decide +kernel
theorem dX3_share_15 : decode cX3_share 15 = .ok (.invokespecial 178, 3) := by decide +kernel
theorem dX3_share_18 : decode cX3_share 18 = .ok (.athrow, 1) := by decide +kernel
theorem dX3_share_19 : decode cX3_share 19 = .ok (.sipush 1000, 3) := by decide +kernel
theorem dX3_share_22 : decode cX3_share 22 = .ok (.aload_n 0, 1) := by decide +kernel
theorem dX3_share_23 : decode cX3_share 23 = .ok (.iconst 0, 1) := by decide +kernel
theorem dX3_share_24 : decode cX3_share 24 = .ok (.aload_n 0, 1) := by decide +kernel
theorem dX3_share_25 : decode cX3_share 25 = .ok (.getfield 26, 3) := by decide +kernel
theorem dX3_share_28 : decode cX3_share 28 = .ok (.invokevirtual 98, 3) := by decide +kernel
theorem dX3_share_31 : decode cX3_share 31 = .ok (.imul, 1) := by decide +kernel
theorem dX3_share_32 : decode cX3_share 32 = .ok (.iload_n 1, 1) := by decide +kernel
theorem dX3_share_33 : decode cX3_share 33 = .ok (.idiv, 1) := by decide +kernel
theorem dX3_share_34 : decode cX3_share 34 = .ok (.ireturn, 1) := by decide +kernel
theorem dX3_isKey_0 : decode cX3_isKey 0 = .ok (.iload_n 0, 1) := by decide +kernel
theorem dX3_isKey_1 : decode cX3_isKey 1 = .ok (.ifCond .lt 13, 3) := by decide +kernel
theorem dX3_isKey_4 : decode cX3_isKey 4 = .ok (.iload_n 0, 1) := by decide +kernel
theorem dX3_isKey_5 : decode cX3_isKey 5 = .ok (.bipush 100, 2) := by decide +kernel
theorem dX3_isKey_7 : decode cX3_isKey 7 = .ok (.if_icmp .ge 7, 3) := by decide +kernel
theorem dX3_isKey_10 : decode cX3_isKey 10 = .ok (.iconst 1, 1) := by decide +kernel
theorem dX3_isKey_11 : decode cX3_isKey 11 = .ok (.goto 4, 3) := by decide +kernel
theorem dX3_isKey_14 : decode cX3_isKey 14 = .ok (.iconst 0, 1) := by decide +kernel
theorem dX3_isKey_15 : decode cX3_isKey 15 = .ok (.ireturn, 1) := by decide +kernel
theorem dX3_canBeMerged_0 : decode cX3_canBeMerged 0 = .ok (.iload_n 0, 1) := by decide +kernel
theorem dX3_canBeMerged_1 : decode cX3_canBeMerged 1 = .ok (.iconst 2, 1) := by decide +kernel
theorem dX3_canBeMerged_2 : decode cX3_canBeMerged 2 = .ok (.if_icmp .lt 13, 3) := by decide +kernel
theorem dX3_canBeMerged_5 : decode cX3_canBeMerged 5 = .ok (.iload_n 0, 1) := by decide +kernel
theorem dX3_canBeMerged_6 : decode cX3_canBeMerged 6 = .ok (.bipush 6, 2) := by decide +kernel
theorem dX3_canBeMerged_8 : decode cX3_canBeMerged 8 = .ok (.if_icmp .gt 7, 3) := by decide +kernel
theorem dX3_canBeMerged_11 : decode cX3_canBeMerged 11 = .ok (.iconst 1, 1) := by decide +kernel
theorem dX3_canBeMerged_12 : decode cX3_canBeMerged 12 = .ok (.goto 4, 3) := by decide +kernel
theorem dX3_canBeMerged_15 : decode cX3_canBeMerged 15 = .ok (.iconst 0, 1) := by decide +kernel
theorem dX3_canBeMerged_16 : decode cX3_canBeMerged 16 = .ok (.ireturn, 1) := by decide +kernel
theorem dX3_isPlace_0 : decode cX3_isPlace 0 = .ok (.iload_n 1, 1) := by decide +kernel
theorem dX3_isPlace_1 : decode cX3_isPlace 1 = .ok (.ifCond .lt 15, 3) := by decide +kernel
theorem dX3_isPlace_4 : decode cX3_isPlace 4 = .ok (.iload_n 1, 1) := by decide +kernel
theorem dX3_isPlace_5 : decode cX3_isPlace 5 = .ok (.aload_n 0, 1) := by decide +kernel
theorem dX3_isPlace_6 : decode cX3_isPlace 6 = .ok (.getfield 26, 3) := by decide +kernel
theorem dX3_isPlace_9 : decode cX3_isPlace 9 = .ok (.if_icmp .ge 7, 3) := by decide +kernel
theorem dX3_isPlace_12 : decode cX3_isPlace 12 = .ok (.iconst 1, 1) := by decide +kernel
theorem dX3_isPlace_13 : decode cX3_isPlace 13 = .ok (.goto 4, 3) := by decide +kernel
theorem dX3_isPlace_16 : decode cX3_isPlace 16 = .ok (.iconst 0, 1) := by decide +kernel
theorem dX3_isPlace_17 : decode cX3_isPlace 17 = .ok (.ireturn, 1) := by decide +kernel
theorem dX3_isOpenView_0 : decode cX3_isOpenView 0 = .ok (.iload_n 1, 1) := by decide +kernel
theorem dX3_isOpenView_1 : decode cX3_isOpenView 1 = .ok (.ifCond .lt 21, 3) := by decide +kernel
theorem dX3_isOpenView_4 : decode cX3_isOpenView 4 = .ok (.iload_n 1, 1) := by decide +kernel
theorem dX3_isOpenView_5 : decode cX3_isOpenView 5 = .ok (.iconst 4, 1) := by decide +kernel
theorem dX3_isOpenView_6 : decode cX3_isOpenView 6 = .ok (.if_icmp .ge 16, 3) := by decide +kernel
theorem dX3_isOpenView_9 : decode cX3_isOpenView 9 = .ok (.aload_n 0, 1) := by decide +kernel
theorem dX3_isOpenView_10 : decode cX3_isOpenView 10 = .ok (.getfield 51, 3) := by decide +kernel
theorem dX3_isOpenView_13 : decode cX3_isOpenView 13 = .ok (.iload_n 1, 1) := by decide +kernel
