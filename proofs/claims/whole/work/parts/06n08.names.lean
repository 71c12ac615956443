theorem dX4_keyAt_7 : decode cX4_keyAt 7 = .ok (.iload_n 1, 1) := by decide +kernel
theorem dX4_keyAt_8 : decode cX4_keyAt 8 = .ok (.invokevirtual 145, 3) := by decide +kernel
theorem dX4_keyAt_11 : decode cX4_keyAt 11 = .ok (.imul, 1) := by decide +kernel
theorem dX4_keyAt_12 : decode cX4_keyAt 12 = .ok (.aload_n 0, 1) := by decide +kernel
theorem dX4_keyAt_13 : decode cX4_keyAt 13 = .ok (.getfield 54, 3) := by decide +kernel
theorem dX4_keyAt_16 : decode cX4_keyAt 16 = .ok (.iload_n 1, 1) := by decide +kernel
theorem dX4_keyAt_17 : decode cX4_keyAt 17 = .ok (.iaload, 1) := by decide +kernel
theorem dX4_keyAt_18 : decode cX4_keyAt 18 = .ok (.iadd, 1) := by decide +kernel
theorem dX4_keyAt_19 : decode cX4_keyAt 19 = .ok (.iaload, 1) := by decide +kernel
theorem dX4_keyAt_20 : decode cX4_keyAt 20 = .ok (.ireturn, 1) := by decide +kernel
set_option maxRecDepth 20000 in
theorem ggX4_step_X4_in : GoodIn wsX4_step wsX4_in := goodIn_r _ [6] (by decide +kernel) (by decide +kernel)
set_option maxRecDepth 20000 in
theorem gX4_step_X4_in : GoodIn wsX4_step (va_wsS RX4 90 yX4_in wsX4_in) := goodIn_app (goodIn_of _ (by decide +kernel)) ggX4_step_X4_in
set_option maxRecDepth 20000 in
theorem ggX4_step_X4_left : GoodIn wsX4_step wsX4_left := goodIn_r _ [10, 2, 11, 12, 13, 14, 15, 5, 16, 17, 18, 61, 62, 63, 64, 65, 66, 67, 68, 69, 70, 71, 72, 73, 74, 75, 76, 77, 78, 79, 80, 81, 82, 83, 84, 85, 86, 87, 88, 89, 90, 91, 92, 93, 94] (by decide +kernel) (by decide +kernel)
set_option maxRecDepth 20000 in
theorem gX4_step_X4_left : GoodIn wsX4_step (wsV RX4 142 RX4 yX4_left wsX4_left) := goodIn_app (goodIn_of _ (by decide +kernel)) ggX4_step_X4_left
set_option maxRecDepth 20000 in
theorem ggX4_step_X4_takeOne : GoodIn wsX4_step wsX4_takeOne := goodIn_r _ [22, 2, 12, 11, 23, 24, 25, 26, 27, 28, 29, 30, 31, 32, 13, 14, 15, 5, 16, 17, 18, 33, 34, 35, 36, 61, 62, 63, 64, 65, 66, 67, 68, 69, 70, 71, 72, 73, 74, 75, 76, 77, 78, 79, 80, 81, 82, 83, 84, 85, 86, 87, 88, 89, 90, 91, 92, 93, 94] (by decide +kernel) (by decide +kernel)
set_option maxRecDepth 20000 in
theorem gX4_step_X4_takeOne : GoodIn wsX4_step (wsV RX4 151 RX4 yX4_takeOne wsX4_takeOne) := goodIn_app (goodIn_of _ (by decide +kernel)) ggX4_step_X4_takeOne
set_option maxRecDepth 20000 in
theorem ggX4_step_X4_end : GoodIn wsX4_step wsX4_end := goodIn_r _ [40, 2, 41, 42, 25, 43, 44, 45, 11, 46, 23, 47, 48, 18, 17, 49, 50, 26, 28, 31, 30, 13, 14, 15, 5, 16, 51, 52, 53, 54, 55, 56, 57, 58, 27, 29, 24, 59, 60, 61, 62, 63, 64, 65, 66, 67, 68, 69, 70, 71, 72, 73, 74, 75, 76, 77, 78, 79, 80, 81, 82, 83, 84, 85, 86, 87, 88, 89, 90, 91, 92, 93, 94] (by decide +kernel) (by decide +kernel)
set_option maxRecDepth 20000 in
theorem gX4_step_X4_end : GoodIn wsX4_step (wsV RX4 154 RX4 yX4_end wsX4_end) := goodIn_app (goodIn_of _ (by decide +kernel)) ggX4_step_X4_end
theorem dX4_step_0 : decode cX4_step 0 = .ok (.aload_n 0, 1) := by decide +kernel
theorem dX4_step_1 : decode cX4_step 1 = .ok (.iconst 0, 1) := by decide +kernel
theorem dX4_step_2 : decode cX4_step 2 = .ok (.putfield 84, 3) := by decide +kernel
theorem dX4_step_5 : decode cX4_step 5 = .ok (.iload_n 1, 1) := by decide +kernel
theorem dX4_step_6 : decode cX4_step 6 = .ok (.iconst 0, 1) := by decide +kernel
theorem dX4_step_7 : decode cX4_step 7 = .ok (.sipush 1000, 3) := by decide +kernel
theorem dX4_step_10 : decode cX4_step 10 = .ok (.invokestatic 90, 3) := by decide +kernel
theorem dX4_step_13 : decode cX4_step 13 = .ok (.ifCond .ne 6, 3) := by decide +kernel
theorem dX4_step_16 : decode cX4_step 16 = .ok (.bipush (-2), 2) := by decide +kernel
theorem dX4_step_18 : decode cX4_step 18 = .ok (.ireturn, 1) := by decide +kernel
theorem dX4_step_19 : decode cX4_step 19 = .ok (.aload_n 0, 1) := by decide +kernel
theorem dX4_step_20 : decode cX4_step 20 = .ok (.getfield 130, 3) := by decide +kernel
theorem dX4_step_23 : decode cX4_step 23 = .ok (.ifCond .ne 6, 3) := by decide +kernel
theorem dX4_step_26 : decode cX4_step 26 = .ok (.bipush (-3), 2) := by decide +kernel
theorem dX4_step_28 : decode cX4_step 28 = .ok (.ireturn, 1) := by decide +kernel
theorem dX4_step_29 : decode cX4_step 29 = .ok (.iconst 0, 1) := by decide +kernel
theorem dX4_step_30 : decode cX4_step 30 = .ok (.istore_n 2, 1) := by decide +kernel
theorem dX4_step_31 : decode cX4_step 31 = .ok (.iload_n 2, 1) := by decide +kernel
theorem dX4_step_32 : decode cX4_step 32 = .ok (.iload_n 1, 1) := by decide +kernel
theorem dX4_step_33 : decode cX4_step 33 = .ok (.if_icmp .ge 20, 3) := by decide +kernel
theorem dX4_step_36 : decode cX4_step 36 = .ok (.aload_n 0, 1) := by decide +kernel
theorem dX4_step_37 : decode cX4_step 37 = .ok (.invokevirtual 142, 3) := by decide +kernel
theorem dX4_step_40 : decode cX4_step 40 = .ok (.ifCond .le 13, 3) := by decide +kernel
theorem dX4_step_43 : decode cX4_step 43 = .ok (.aload_n 0, 1) := by decide +kernel
theorem dX4_step_44 : decode cX4_step 44 = .ok (.invokevirtual 151, 3) := by decide +kernel
theorem dX4_step_47 : decode cX4_step 47 = .ok (.iinc 2 1, 3) := by decide +kernel
theorem dX4_step_50 : decode cX4_step 50 = .ok (.goto (-19), 3) := by decide +kernel
theorem dX4_step_53 : decode cX4_step 53 = .ok (.aload_n 0, 1) := by decide +kernel
theorem dX4_step_54 : decode cX4_step 54 = .ok (.invokevirtual 142, 3) := by decide +kernel
theorem dX4_step_57 : decode cX4_step 57 = .ok (.ifCond .ne 7, 3) := by decide +kernel
theorem dX4_step_60 : decode cX4_step 60 = .ok (.aload_n 0, 1) := by decide +kernel
theorem dX4_step_61 : decode cX4_step 61 = .ok (.invokevirtual 154, 3) := by decide +kernel
theorem dX4_step_64 : decode cX4_step 64 = .ok (.iload_n 2, 1) := by decide +kernel
theorem dX4_step_65 : decode cX4_step 65 = .ok (.ireturn, 1) := by decide +kernel
set_option maxRecDepth 20000 in
theorem ggX4_end_X4_slotOf : GoodIn wsX4_end wsX4_slotOf := goodIn_r _ [25, 14, 13, 39, 40, 41, 42, 43, 44, 45, 46, 47, 48, 49, 50, 51, 52, 53, 54, 55, 56, 57, 58, 59, 60, 61, 62, 63, 64, 65, 66, 67, 68, 69, 70, 71, 72] (by decide +kernel) (by decide +kernel)
set_option maxRecDepth 20000 in
theorem gX4_end_X4_slotOf : GoodIn wsX4_end (wsV RX4 145 RX4 yX4_slotOf wsX4_slotOf) := goodIn_app (goodIn_of _ (by decide +kernel)) ggX4_end_X4_slotOf
set_option maxRecDepth 20000 in
theorem ggX4_end_X4_freeSlot : GoodIn wsX4_end wsX4_freeSlot := goodIn_r _ [29, 12, 8, 39, 40, 41, 42, 43, 44, 45, 46, 47, 48, 49, 50, 51, 52, 53, 54, 55, 56, 57, 58, 59, 60, 61, 62, 63, 64, 65, 66, 67, 68, 69, 70, 71, 72] (by decide +kernel) (by decide +kernel)
set_option maxRecDepth 20000 in
theorem gX4_end_X4_freeSlot : GoodIn wsX4_end (wsV RX4 105 RX4 yX4_freeSlot wsX4_freeSlot) := goodIn_app (goodIn_of _ (by decide +kernel)) ggX4_end_X4_freeSlot
set_option maxRecDepth 20000 in
theorem ggX4_end_X4_lay : GoodIn wsX4_end wsX4_lay := goodIn_r _ [33, 8, 34, 35, 36, 37, 38, 39, 40, 41, 42, 43, 44, 45, 46, 47, 48, 49, 50, 51, 52, 53, 54, 55, 56, 57, 58, 59, 60, 61, 62, 63, 64, 65, 66, 67, 68, 69, 70, 71, 72] (by decide +kernel) (by decide +kernel)
set_option maxRecDepth 20000 in
theorem gX4_end_X4_lay : GoodIn wsX4_end (wsV RX4 112 RX4 yX4_lay wsX4_lay) := goodIn_app (goodIn_of _ (by decide +kernel)) ggX4_end_X4_lay
theorem dX4_end_0 : decode cX4_end 0 = .ok (.aload_n 0, 1) := by decide +kernel
theorem dX4_end_1 : decode cX4_end 1 = .ok (.aload_n 0, 1) := by decide +kernel
theorem dX4_end_2 : decode cX4_end 2 = .ok (.getfield 130, 3) := by decide +kernel
theorem dX4_end_5 : decode cX4_end 5 = .ok (.putfield 157, 3) := by decide +kernel
theorem dX4_end_8 : decode cX4_end 8 = .ok (.aload_n 0, 1) := by decide +kernel
theorem dX4_end_9 : decode cX4_end 9 = .ok (.dup, 1) := by decide +kernel
theorem dX4_end_10 : decode cX4_end 10 = .ok (.getfield 116, 3) := by decide +kernel
theorem dX4_end_13 : decode cX4_end 13 = .ok (.aload_n 0, 1) := by decide +kernel
theorem dX4_end_14 : decode cX4_end 14 = .ok (.getfield 139, 3) := by decide +kernel
theorem dX4_end_17 : decode cX4_end 17 = .ok (.iadd, 1) := by decide +kernel
theorem dX4_end_18 : decode cX4_end 18 = .ok (.putfield 116, 3) := by decide +kernel
theorem dX4_end_21 : decode cX4_end 21 = .ok (.iconst 0, 1) := by decide +kernel
theorem dX4_end_22 : decode cX4_end 22 = .ok (.istore_n 1, 1) := by decide +kernel
theorem dX4_end_23 : decode cX4_end 23 = .ok (.iconst 0, 1) := by decide +kernel
theorem dX4_end_24 : decode cX4_end 24 = .ok (.istore_n 2, 1) := by decide +kernel
theorem dX4_end_25 : decode cX4_end 25 = .ok (.iload_n 2, 1) := by decide +kernel
theorem dX4_end_26 : decode cX4_end 26 = .ok (.aload_n 0, 1) := by decide +kernel
theorem dX4_end_27 : decode cX4_end 27 = .ok (.getfield 130, 3) := by decide +kernel
theorem dX4_end_30 : decode cX4_end 30 = .ok (.if_icmp .ge 111, 3) := by decide +kernel
theorem dX4_end_33 : decode cX4_end 33 = .ok (.aload_n 0, 1) := by decide +kernel
theorem dX4_end_34 : decode cX4_end 34 = .ok (.iload_n 2, 1) := by decide +kernel
theorem dX4_end_35 : decode cX4_end 35 = .ok (.invokevirtual 145, 3) := by decide +kernel
theorem dX4_end_38 : decode cX4_end 38 = .ok (.istore_n 3, 1) := by decide +kernel
theorem dX4_end_39 : decode cX4_end 39 = .ok (.aload_n 0, 1) := by decide +kernel
theorem dX4_end_40 : decode cX4_end 40 = .ok (.getfield 69, 3) := by decide +kernel
theorem dX4_end_43 : decode cX4_end 43 = .ok (.iload_n 2, 1) := by decide +kernel
theorem dX4_end_44 : decode cX4_end 44 = .ok (.aload_n 0, 1) := by decide +kernel
theorem dX4_end_45 : decode cX4_end 45 = .ok (.getfield 32, 3) := by decide +kernel
theorem dX4_end_48 : decode cX4_end 48 = .ok (.iload_n 3, 1) := by decide +kernel
theorem dX4_end_49 : decode cX4_end 49 = .ok (.iaload, 1) := by decide +kernel
theorem dX4_end_50 : decode cX4_end 50 = .ok (.iastore, 1) := by decide +kernel
theorem dX4_end_51 : decode cX4_end 51 = .ok (.aload_n 0, 1) := by decide +kernel
theorem dX4_end_52 : decode cX4_end 52 = .ok (.getfield 72, 3) := by decide +kernel
theorem dX4_end_55 : decode cX4_end 55 = .ok (.iload_n 2, 1) := by decide +kernel
theorem dX4_end_56 : decode cX4_end 56 = .ok (.aload_n 0, 1) := by decide +kernel
theorem dX4_end_57 : decode cX4_end 57 = .ok (.getfield 38, 3) := by decide +kernel
theorem dX4_end_60 : decode cX4_end 60 = .ok (.iload_n 3, 1) := by decide +kernel
theorem dX4_end_61 : decode cX4_end 61 = .ok (.iaload, 1) := by decide +kernel
theorem dX4_end_62 : decode cX4_end 62 = .ok (.iastore, 1) := by decide +kernel
theorem dX4_end_63 : decode cX4_end 63 = .ok (.iconst 0, 1) := by decide +kernel
theorem dX4_end_64 : decode cX4_end 64 = .ok (.istore 4, 2) := by decide +kernel
theorem dX4_end_66 : decode cX4_end 66 = .ok (.iload 4, 2) := by decide +kernel
theorem dX4_end_68 : decode cX4_end 68 = .ok (.aload_n 0, 1) := by decide +kernel
theorem dX4_end_69 : decode cX4_end 69 = .ok (.getfield 38, 3) := by decide +kernel
theorem dX4_end_72 : decode cX4_end 72 = .ok (.iload_n 3, 1) := by decide +kernel
theorem dX4_end_73 : decode cX4_end 73 = .ok (.iaload, 1) := by decide +kernel
theorem dX4_end_74 : decode cX4_end 74 = .ok (.if_icmp .ge 33, 3) := by decide +kernel
theorem dX4_end_77 : decode cX4_end 77 = .ok (.aload_n 0, 1) := by decide +kernel
theorem dX4_end_78 : decode cX4_end 78 = .ok (.getfield 75, 3) := by decide +kernel
theorem dX4_end_81 : decode cX4_end 81 = .ok (.bipush 100, 2) := by decide +kernel
theorem dX4_end_83 : decode cX4_end 83 = .ok (.iload_n 2, 1) := by decide +kernel
theorem dX4_end_84 : decode cX4_end 84 = .ok (.imul, 1) := by decide +kernel
theorem dX4_end_85 : decode cX4_end 85 = .ok (.iload 4, 2) := by decide +kernel
theorem dX4_end_87 : decode cX4_end 87 = .ok (.iadd, 1) := by decide +kernel
theorem dX4_end_88 : decode cX4_end 88 = .ok (.aload_n 0, 1) := by decide +kernel
theorem dX4_end_89 : decode cX4_end 89 = .ok (.getfield 66, 3) := by decide +kernel
theorem dX4_end_92 : decode cX4_end 92 = .ok (.bipush 100, 2) := by decide +kernel
theorem dX4_end_94 : decode cX4_end 94 = .ok (.iload_n 2, 1) := by decide +kernel
theorem dX4_end_95 : decode cX4_end 95 = .ok (.imul, 1) := by decide +kernel
theorem dX4_end_96 : decode cX4_end 96 = .ok (.iload 4, 2) := by decide +kernel
theorem dX4_end_98 : decode cX4_end 98 = .ok (.iadd, 1) := by decide +kernel
theorem dX4_end_99 : decode cX4_end 99 = .ok (.iaload, 1) := by decide +kernel
theorem dX4_end_100 : decode cX4_end 100 = .ok (.iastore, 1) := by decide +kernel
theorem dX4_end_101 : decode cX4_end 101 = .ok (.iinc 4 1, 3) := by decide +kernel
theorem dX4_end_104 : decode cX4_end 104 = .ok (.goto (-38), 3) := by decide +kernel
theorem dX4_end_107 : decode cX4_end 107 = .ok (.aload_n 0, 1) := by decide +kernel
theorem dX4_end_108 : decode cX4_end 108 = .ok (.getfield 35, 3) := by decide +kernel
theorem dX4_end_111 : decode cX4_end 111 = .ok (.iload_n 3, 1) := by decide +kernel
theorem dX4_end_112 : decode cX4_end 112 = .ok (.iaload, 1) := by decide +kernel
theorem dX4_end_113 : decode cX4_end 113 = .ok (.iload_n 1, 1) := by decide +kernel
theorem dX4_end_114 : decode cX4_end 114 = .ok (.if_icmp .le 12, 3) := by decide +kernel
theorem dX4_end_117 : decode cX4_end 117 = .ok (.aload_n 0, 1) := by decide +kernel
theorem dX4_end_118 : decode cX4_end 118 = .ok (.getfield 35, 3) := by decide +kernel
theorem dX4_end_121 : decode cX4_end 121 = .ok (.iload_n 3, 1) := by decide +kernel
theorem dX4_end_122 : decode cX4_end 122 = .ok (.iaload, 1) := by decide +kernel
theorem dX4_end_123 : decode cX4_end 123 = .ok (.goto 4, 3) := by decide +kernel
theorem dX4_end_126 : decode cX4_end 126 = .ok (.iload_n 1, 1) := by decide +kernel
theorem dX4_end_127 : decode cX4_end 127 = .ok (.istore_n 1, 1) := by decide +kernel
theorem dX4_end_128 : decode cX4_end 128 = .ok (.aload_n 0, 1) := by decide +kernel
theorem dX4_end_129 : decode cX4_end 129 = .ok (.getfield 28, 3) := by decide +kernel
theorem dX4_end_132 : decode cX4_end 132 = .ok (.iload_n 3, 1) := by decide +kernel
theorem dX4_end_133 : decode cX4_end 133 = .ok (.iconst 0, 1) := by decide +kernel
theorem dX4_end_134 : decode cX4_end 134 = .ok (.bastore, 1) := by decide +kernel
theorem dX4_end_135 : decode cX4_end 135 = .ok (.iinc 2 1, 3) := by decide +kernel
theorem dX4_end_138 : decode cX4_end 138 = .ok (.goto (-113), 3) := by decide +kernel
theorem dX4_end_141 : decode cX4_end 141 = .ok (.aload_n 0, 1) := by decide +kernel
theorem dX4_end_142 : decode cX4_end 142 = .ok (.getfield 139, 3) := by decide +kernel
theorem dX4_end_145 : decode cX4_end 145 = .ok (.ifCond .le 7, 3) := by decide +kernel
theorem dX4_end_148 : decode cX4_end 148 = .ok (.iconst 1, 1) := by decide +kernel
theorem dX4_end_149 : decode cX4_end 149 = .ok (.goto 4, 3) := by decide +kernel
theorem dX4_end_152 : decode cX4_end 152 = .ok (.iconst 0, 1) := by decide +kernel
theorem dX4_end_153 : decode cX4_end 153 = .ok (.istore_n 2, 1) := by decide +kernel
theorem dX4_end_154 : decode cX4_end 154 = .ok (.aload_n 0, 1) := by decide +kernel
theorem dX4_end_155 : decode cX4_end 155 = .ok (.getfield 130, 3) := by decide +kernel
theorem dX4_end_158 : decode cX4_end 158 = .ok (.iload_n 2, 1) := by decide +kernel
theorem dX4_end_159 : decode cX4_end 159 = .ok (.isub, 1) := by decide +kernel
theorem dX4_end_160 : decode cX4_end 160 = .ok (.istore_n 3, 1) := by decide +kernel
theorem dX4_end_161 : decode cX4_end 161 = .ok (.aload_n 0, 1) := by decide +kernel
theorem dX4_end_162 : decode cX4_end 162 = .ok (.getfield 133, 3) := by decide +kernel
theorem dX4_end_165 : decode cX4_end 165 = .ok (.aload_n 0, 1) := by decide +kernel
theorem dX4_end_166 : decode cX4_end 166 = .ok (.getfield 130, 3) := by decide +kernel
theorem dX4_end_169 : decode cX4_end 169 = .ok (.iadd, 1) := by decide +kernel
theorem dX4_end_170 : decode cX4_end 170 = .ok (.istore 4, 2) := by decide +kernel
theorem dX4_end_172 : decode cX4_end 172 = .ok (.iload_n 2, 1) := by decide +kernel
theorem dX4_end_173 : decode cX4_end 173 = .ok (.iconst 1, 1) := by decide +kernel
theorem dX4_end_174 : decode cX4_end 174 = .ok (.if_icmp .ne 10, 3) := by decide +kernel
theorem dX4_end_177 : decode cX4_end 177 = .ok (.aload_n 0, 1) := by decide +kernel
theorem dX4_end_178 : decode cX4_end 178 = .ok (.invokevirtual 105, 3) := by decide +kernel
theorem dX4_end_181 : decode cX4_end 181 = .ok (.goto 4, 3) := by decide +kernel
theorem dX4_end_184 : decode cX4_end 184 = .ok (.iconst 0, 1) := by decide +kernel
theorem dX4_end_185 : decode cX4_end 185 = .ok (.istore 5, 2) := by decide +kernel
theorem dX4_end_187 : decode cX4_end 187 = .ok (.aload_n 0, 1) := by decide +kernel
theorem dX4_end_188 : decode cX4_end 188 = .ok (.getfield 25, 3) := by decide +kernel
theorem dX4_end_191 : decode cX4_end 191 = .ok (.aload_n 0, 1) := by decide +kernel
theorem dX4_end_192 : decode cX4_end 192 = .ok (.getfield 133, 3) := by decide +kernel
theorem dX4_end_195 : decode cX4_end 195 = .ok (.iload_n 2, 1) := by decide +kernel
theorem dX4_end_196 : decode cX4_end 196 = .ok (.iconst 1, 1) := by decide +kernel
theorem dX4_end_197 : decode cX4_end 197 = .ok (.if_icmp .ne 8, 3) := by decide +kernel
theorem dX4_end_200 : decode cX4_end 200 = .ok (.iload 5, 2) := by decide +kernel
theorem dX4_end_202 : decode cX4_end 202 = .ok (.goto 12, 3) := by decide +kernel
theorem dX4_end_205 : decode cX4_end 205 = .ok (.aload_n 0, 1) := by decide +kernel
theorem dX4_end_206 : decode cX4_end 206 = .ok (.getfield 25, 3) := by decide +kernel
theorem dX4_end_209 : decode cX4_end 209 = .ok (.aload_n 0, 1) := by decide +kernel
theorem dX4_end_210 : decode cX4_end 210 = .ok (.getfield 133, 3) := by decide +kernel
theorem dX4_end_213 : decode cX4_end 213 = .ok (.iaload, 1) := by decide +kernel
theorem dX4_end_214 : decode cX4_end 214 = .ok (.iastore, 1) := by decide +kernel
theorem dX4_end_215 : decode cX4_end 215 = .ok (.iload 4, 2) := by decide +kernel
theorem dX4_end_217 : decode cX4_end 217 = .ok (.istore 6, 2) := by decide +kernel
theorem dX4_end_219 : decode cX4_end 219 = .ok (.iload 6, 2) := by decide +kernel
theorem dX4_end_221 : decode cX4_end 221 = .ok (.aload_n 0, 1) := by decide +kernel
theorem dX4_end_222 : decode cX4_end 222 = .ok (.getfield 102, 3) := by decide +kernel
theorem dX4_end_225 : decode cX4_end 225 = .ok (.if_icmp .ge 25, 3) := by decide +kernel
theorem dX4_end_228 : decode cX4_end 228 = .ok (.aload_n 0, 1) := by decide +kernel
theorem dX4_end_229 : decode cX4_end 229 = .ok (.getfield 25, 3) := by decide +kernel
theorem dX4_end_232 : decode cX4_end 232 = .ok (.iload 6, 2) := by decide +kernel
theorem dX4_end_234 : decode cX4_end 234 = .ok (.iload_n 3, 1) := by decide +kernel
theorem dX4_end_235 : decode cX4_end 235 = .ok (.isub, 1) := by decide +kernel
theorem dX4_end_236 : decode cX4_end 236 = .ok (.aload_n 0, 1) := by decide +kernel
theorem dX4_end_237 : decode cX4_end 237 = .ok (.getfield 25, 3) := by decide +kernel
theorem dX4_end_240 : decode cX4_end 240 = .ok (.iload 6, 2) := by decide +kernel
theorem dX4_end_242 : decode cX4_end 242 = .ok (.iaload, 1) := by decide +kernel
theorem dX4_end_243 : decode cX4_end 243 = .ok (.iastore, 1) := by decide +kernel
theorem dX4_end_244 : decode cX4_end 244 = .ok (.iinc 6 1, 3) := by decide +kernel
theorem dX4_end_247 : decode cX4_end 247 = .ok (.goto (-28), 3) := by decide +kernel
theorem dX4_end_250 : decode cX4_end 250 = .ok (.aload_n 0, 1) := by decide +kernel
theorem dX4_end_251 : decode cX4_end 251 = .ok (.dup, 1) := by decide +kernel
theorem dX4_end_252 : decode cX4_end 252 = .ok (.getfield 102, 3) := by decide +kernel
theorem dX4_end_255 : decode cX4_end 255 = .ok (.iload_n 3, 1) := by decide +kernel
theorem dX4_end_256 : decode cX4_end 256 = .ok (.isub, 1) := by decide +kernel
theorem dX4_end_257 : decode cX4_end 257 = .ok (.putfield 102, 3) := by decide +kernel
theorem dX4_end_260 : decode cX4_end 260 = .ok (.iload_n 2, 1) := by decide +kernel
theorem dX4_end_261 : decode cX4_end 261 = .ok (.iconst 1, 1) := by decide +kernel
theorem dX4_end_262 : decode cX4_end 262 = .ok (.if_icmp .ne 99, 3) := by decide +kernel
theorem dX4_end_265 : decode cX4_end 265 = .ok (.aload_n 0, 1) := by decide +kernel
theorem dX4_end_266 : decode cX4_end 266 = .ok (.getfield 35, 3) := by decide +kernel
theorem dX4_end_269 : decode cX4_end 269 = .ok (.iload 5, 2) := by decide +kernel
theorem dX4_end_271 : decode cX4_end 271 = .ok (.iload_n 1, 1) := by decide +kernel
theorem dX4_end_272 : decode cX4_end 272 = .ok (.iconst 1, 1) := by decide +kernel
theorem dX4_end_273 : decode cX4_end 273 = .ok (.iadd, 1) := by decide +kernel
theorem dX4_end_274 : decode cX4_end 274 = .ok (.iastore, 1) := by decide +kernel
theorem dX4_end_275 : decode cX4_end 275 = .ok (.aload_n 0, 1) := by decide +kernel
theorem dX4_end_276 : decode cX4_end 276 = .ok (.getfield 32, 3) := by decide +kernel
theorem dX4_end_279 : decode cX4_end 279 = .ok (.iload 5, 2) := by decide +kernel
theorem dX4_end_281 : decode cX4_end 281 = .ok (.aload_n 0, 1) := by decide +kernel
theorem dX4_end_282 : decode cX4_end 282 = .ok (.getfield 109, 3) := by decide +kernel
theorem dX4_end_285 : decode cX4_end 285 = .ok (.iastore, 1) := by decide +kernel
theorem dX4_end_286 : decode cX4_end 286 = .ok (.aload_n 0, 1) := by decide +kernel
theorem dX4_end_287 : decode cX4_end 287 = .ok (.dup, 1) := by decide +kernel
theorem dX4_end_288 : decode cX4_end 288 = .ok (.getfield 109, 3) := by decide +kernel
theorem dX4_end_291 : decode cX4_end 291 = .ok (.iconst 1, 1) := by decide +kernel
theorem dX4_end_292 : decode cX4_end 292 = .ok (.iadd, 1) := by decide +kernel
theorem dX4_end_293 : decode cX4_end 293 = .ok (.putfield 109, 3) := by decide +kernel
theorem dX4_end_296 : decode cX4_end 296 = .ok (.iconst 0, 1) := by decide +kernel
theorem dX4_end_297 : decode cX4_end 297 = .ok (.istore 6, 2) := by decide +kernel
theorem dX4_end_299 : decode cX4_end 299 = .ok (.iload 6, 2) := by decide +kernel
theorem dX4_end_301 : decode cX4_end 301 = .ok (.aload_n 0, 1) := by decide +kernel
theorem dX4_end_302 : decode cX4_end 302 = .ok (.getfield 139, 3) := by decide +kernel
theorem dX4_end_305 : decode cX4_end 305 = .ok (.if_icmp .ge 56, 3) := by decide +kernel
theorem dX4_end_308 : decode cX4_end 308 = .ok (.aload_n 0, 1) := by decide +kernel
theorem dX4_end_309 : decode cX4_end 309 = .ok (.iload 5, 2) := by decide +kernel
theorem dX4_end_311 : decode cX4_end 311 = .ok (.aload_n 0, 1) := by decide +kernel
theorem dX4_end_312 : decode cX4_end 312 = .ok (.getfield 57, 3) := by decide +kernel
theorem dX4_end_315 : decode cX4_end 315 = .ok (.iload 6, 2) := by decide +kernel
theorem dX4_end_317 : decode cX4_end 317 = .ok (.iaload, 1) := by decide +kernel
theorem dX4_end_318 : decode cX4_end 318 = .ok (.aload_n 0, 1) := by decide +kernel
theorem dX4_end_319 : decode cX4_end 319 = .ok (.getfield 60, 3) := by decide +kernel
theorem dX4_end_322 : decode cX4_end 322 = .ok (.iload 6, 2) := by decide +kernel
theorem dX4_end_324 : decode cX4_end 324 = .ok (.iaload, 1) := by decide +kernel
theorem dX4_end_325 : decode cX4_end 325 = .ok (.aload_n 0, 1) := by decide +kernel
theorem dX4_end_326 : decode cX4_end 326 = .ok (.getfield 13, 3) := by decide +kernel
theorem dX4_end_329 : decode cX4_end 329 = .ok (.aload_n 0, 1) := by decide +kernel
theorem dX4_end_330 : decode cX4_end 330 = .ok (.getfield 57, 3) := by decide +kernel
theorem dX4_end_333 : decode cX4_end 333 = .ok (.iload 6, 2) := by decide +kernel
theorem dX4_end_335 : decode cX4_end 335 = .ok (.iaload, 1) := by decide +kernel
theorem dX4_end_336 : decode cX4_end 336 = .ok (.iaload, 1) := by decide +kernel
theorem dX4_end_337 : decode cX4_end 337 = .ok (.aload_n 0, 1) := by decide +kernel
theorem dX4_end_338 : decode cX4_end 338 = .ok (.getfield 63, 3) := by decide +kernel
theorem dX4_end_341 : decode cX4_end 341 = .ok (.iload 6, 2) := by decide +kernel
theorem dX4_end_343 : decode cX4_end 343 = .ok (.iaload, 1) := by decide +kernel
theorem dX4_end_344 : decode cX4_end 344 = .ok (.if_icmp .ne 7, 3) := by decide +kernel
theorem dX4_end_347 : decode cX4_end 347 = .ok (.iconst 1, 1) := by decide +kernel
theorem dX4_end_348 : decode cX4_end 348 = .ok (.goto 4, 3) := by decide +kernel
theorem dX4_end_351 : decode cX4_end 351 = .ok (.iconst 0, 1) := by decide +kernel
theorem dX4_end_352 : decode cX4_end 352 = .ok (.invokevirtual 112, 3) := by decide +kernel
theorem dX4_end_355 : decode cX4_end 355 = .ok (.iinc 6 1, 3) := by decide +kernel
theorem dX4_end_358 : decode cX4_end 358 = .ok (.goto (-59), 3) := by decide +kernel
theorem dX4_end_361 : decode cX4_end 361 = .ok (.aload_n 0, 1) := by decide +kernel
theorem dX4_end_362 : decode cX4_end 362 = .ok (.iconst 0, 1) := by decide +kernel
theorem dX4_end_363 : decode cX4_end 363 = .ok (.putfield 130, 3) := by decide +kernel
theorem dX4_end_366 : decode cX4_end 366 = .ok (.return_, 1) := by decide +kernel
theorem dX4_stop_0 : decode cX4_stop 0 = .ok (.aload_n 0, 1) := by decide +kernel
theorem dX4_stop_1 : decode cX4_stop 1 = .ok (.iconst 0, 1) := by decide +kernel
theorem dX4_stop_2 : decode cX4_stop 2 = .ok (.putfield 84, 3) := by decide +kernel
theorem dX4_stop_5 : decode cX4_stop 5 = .ok (.aload_n 0, 1) := by decide +kernel
theorem dX4_stop_6 : decode cX4_stop 6 = .ok (.getfield 130, 3) := by decide +kernel
theorem dX4_stop_9 : decode cX4_stop 9 = .ok (.ifCond .ne 6, 3) := by decide +kernel
theorem dX4_stop_12 : decode cX4_stop 12 = .ok (.bipush (-3), 2) := by decide +kernel
theorem dX4_stop_14 : decode cX4_stop 14 = .ok (.ireturn, 1) := by decide +kernel
theorem dX4_stop_15 : decode cX4_stop 15 = .ok (.aload_n 0, 1) := by decide +kernel
theorem dX4_stop_16 : decode cX4_stop 16 = .ok (.iconst 0, 1) := by decide +kernel
theorem dX4_stop_17 : decode cX4_stop 17 = .ok (.putfield 130, 3) := by decide +kernel
theorem dX4_stop_20 : decode cX4_stop 20 = .ok (.aload_n 0, 1) := by decide +kernel
theorem dX4_stop_21 : decode cX4_stop 21 = .ok (.dup, 1) := by decide +kernel
theorem dX4_stop_22 : decode cX4_stop 22 = .ok (.getfield 116, 3) := by decide +kernel
theorem dX4_stop_25 : decode cX4_stop 25 = .ok (.aload_n 0, 1) := by decide +kernel
theorem dX4_stop_26 : decode cX4_stop 26 = .ok (.getfield 139, 3) := by decide +kernel
theorem dX4_stop_29 : decode cX4_stop 29 = .ok (.iadd, 1) := by decide +kernel
theorem dX4_stop_30 : decode cX4_stop 30 = .ok (.putfield 116, 3) := by decide +kernel
theorem dX4_stop_33 : decode cX4_stop 33 = .ok (.aload_n 0, 1) := by decide +kernel
theorem dX4_stop_34 : decode cX4_stop 34 = .ok (.getfield 136, 3) := by decide +kernel
theorem dX4_stop_37 : decode cX4_stop 37 = .ok (.ireturn, 1) := by decide +kernel
set_option maxRecDepth 20000 in
theorem ggX4_merging_X4_in : GoodIn wsX4_merging wsX4_in := goodIn_r _ [9] (by decide +kernel) (by decide +kernel)
set_option maxRecDepth 20000 in
theorem gX4_merging_X4_in : GoodIn wsX4_merging (va_wsS RX4 90 yX4_in wsX4_in) := goodIn_app (goodIn_of _ (by decide +kernel)) ggX4_merging_X4_in
set_option maxRecDepth 20000 in
theorem ggX4_merging_X4_left : GoodIn wsX4_merging wsX4_left := goodIn_r _ [13, 2, 14, 15, 16, 17, 18, 8, 19, 20, 5, 21, 22, 23, 24, 25, 26, 27, 28, 29, 30, 31, 32, 33, 34, 35, 36, 37, 38, 39, 40, 41, 42, 43, 44, 45, 46, 47, 48, 49, 50, 51, 52, 53, 54] (by decide +kernel) (by decide +kernel)
set_option maxRecDepth 20000 in
theorem gX4_merging_X4_left : GoodIn wsX4_merging (wsV RX4 142 RX4 yX4_left wsX4_left) := goodIn_app (goodIn_of _ (by decide +kernel)) ggX4_merging_X4_left
theorem dX4_merging_0 : decode cX4_merging 0 = .ok (.aload_n 0, 1) := by decide +kernel
theorem dX4_merging_1 : decode cX4_merging 1 = .ok (.iconst 0, 1) := by decide +kernel
theorem dX4_merging_2 : decode cX4_merging 2 = .ok (.putfield 84, 3) := by decide +kernel
theorem dX4_merging_5 : decode cX4_merging 5 = .ok (.iload_n 1, 1) := by decide +kernel
theorem dX4_merging_6 : decode cX4_merging 6 = .ok (.iconst 0, 1) := by decide +kernel
theorem dX4_merging_7 : decode cX4_merging 7 = .ok (.iconst 3, 1) := by decide +kernel
theorem dX4_merging_8 : decode cX4_merging 8 = .ok (.invokestatic 90, 3) := by decide +kernel
theorem dX4_merging_11 : decode cX4_merging 11 = .ok (.ifCond .ne 6, 3) := by decide +kernel
theorem dX4_merging_14 : decode cX4_merging 14 = .ok (.bipush (-2), 2) := by decide +kernel
theorem dX4_merging_16 : decode cX4_merging 16 = .ok (.ireturn, 1) := by decide +kernel
theorem dX4_merging_17 : decode cX4_merging 17 = .ok (.aload_n 0, 1) := by decide +kernel
theorem dX4_merging_18 : decode cX4_merging 18 = .ok (.getfield 130, 3) := by decide +kernel
theorem dX4_merging_21 : decode cX4_merging 21 = .ok (.ifCond .ne 8, 3) := by decide +kernel
theorem dX4_merging_24 : decode cX4_merging 24 = .ok (.bipush (-3), 2) := by decide +kernel
theorem dX4_merging_26 : decode cX4_merging 26 = .ok (.goto 42, 3) := by decide +kernel
theorem dX4_merging_29 : decode cX4_merging 29 = .ok (.iload_n 1, 1) := by decide +kernel
theorem dX4_merging_30 : decode cX4_merging 30 = .ok (.ifCond .ne 10, 3) := by decide +kernel
theorem dX4_merging_33 : decode cX4_merging 33 = .ok (.aload_n 0, 1) := by decide +kernel
theorem dX4_merging_34 : decode cX4_merging 34 = .ok (.getfield 136, 3) := by decide +kernel
theorem dX4_merging_37 : decode cX4_merging 37 = .ok (.goto 31, 3) := by decide +kernel
theorem dX4_merging_40 : decode cX4_merging 40 = .ok (.iload_n 1, 1) := by decide +kernel
theorem dX4_merging_41 : decode cX4_merging 41 = .ok (.iconst 1, 1) := by decide +kernel
theorem dX4_merging_42 : decode cX4_merging 42 = .ok (.if_icmp .ne 10, 3) := by decide +kernel
theorem dX4_merging_45 : decode cX4_merging 45 = .ok (.aload_n 0, 1) := by decide +kernel
theorem dX4_merging_46 : decode cX4_merging 46 = .ok (.getfield 139, 3) := by decide +kernel
theorem dX4_merging_49 : decode cX4_merging 49 = .ok (.goto 19, 3) := by decide +kernel
theorem dX4_merging_52 : decode cX4_merging 52 = .ok (.iload_n 1, 1) := by decide +kernel
theorem dX4_merging_53 : decode cX4_merging 53 = .ok (.iconst 2, 1) := by decide +kernel
theorem dX4_merging_54 : decode cX4_merging 54 = .ok (.if_icmp .ne 10, 3) := by decide +kernel
theorem dX4_merging_57 : decode cX4_merging 57 = .ok (.aload_n 0, 1) := by decide +kernel
theorem dX4_merging_58 : decode cX4_merging 58 = .ok (.invokevirtual 142, 3) := by decide +kernel
theorem dX4_merging_61 : decode cX4_merging 61 = .ok (.goto 7, 3) := by decide +kernel
theorem dX4_merging_64 : decode cX4_merging 64 = .ok (.aload_n 0, 1) := by decide +kernel
theorem dX4_merging_65 : decode cX4_merging 65 = .ok (.getfield 133, 3) := by decide +kernel
theorem dX4_merging_68 : decode cX4_merging 68 = .ok (.ireturn, 1) := by decide +kernel
set_option maxRecDepth 20000 in
theorem ggX4_moved_X4_in : GoodIn wsX4_moved wsX4_in := goodIn_r _ [9] (by decide +kernel) (by decide +kernel)
set_option maxRecDepth 20000 in
theorem gX4_moved_X4_in : GoodIn wsX4_moved (va_wsS RX4 90 yX4_in wsX4_in) := goodIn_app (goodIn_of _ (by decide +kernel)) ggX4_moved_X4_in
theorem dX4_moved_0 : decode cX4_moved 0 = .ok (.aload_n 0, 1) := by decide +kernel
theorem dX4_moved_1 : decode cX4_moved 1 = .ok (.iconst 0, 1) := by decide +kernel
theorem dX4_moved_2 : decode cX4_moved 2 = .ok (.putfield 84, 3) := by decide +kernel
theorem dX4_moved_5 : decode cX4_moved 5 = .ok (.iconst 0, 1) := by decide +kernel
theorem dX4_moved_6 : decode cX4_moved 6 = .ok (.istore_n 3, 1) := by decide +kernel
theorem dX4_moved_7 : decode cX4_moved 7 = .ok (.iload_n 3, 1) := by decide +kernel
theorem dX4_moved_8 : decode cX4_moved 8 = .ok (.aload_n 0, 1) := by decide +kernel
theorem dX4_moved_9 : decode cX4_moved 9 = .ok (.getfield 157, 3) := by decide +kernel
theorem dX4_moved_12 : decode cX4_moved 12 = .ok (.if_icmp .ge 66, 3) := by decide +kernel
theorem dX4_moved_15 : decode cX4_moved 15 = .ok (.aload_n 0, 1) := by decide +kernel
theorem dX4_moved_16 : decode cX4_moved 16 = .ok (.getfield 69, 3) := by decide +kernel
theorem dX4_moved_19 : decode cX4_moved 19 = .ok (.iload_n 3, 1) := by decide +kernel
theorem dX4_moved_20 : decode cX4_moved 20 = .ok (.iaload, 1) := by decide +kernel
theorem dX4_moved_21 : decode cX4_moved 21 = .ok (.iload_n 1, 1) := by decide +kernel
theorem dX4_moved_22 : decode cX4_moved 22 = .ok (.if_icmp .ne 50, 3) := by decide +kernel
theorem dX4_moved_25 : decode cX4_moved 25 = .ok (.iload_n 2, 1) := by decide +kernel
theorem dX4_moved_26 : decode cX4_moved 26 = .ok (.iconst 0, 1) := by decide +kernel
theorem dX4_moved_27 : decode cX4_moved 27 = .ok (.aload_n 0, 1) := by decide +kernel
theorem dX4_moved_28 : decode cX4_moved 28 = .ok (.getfield 72, 3) := by decide +kernel
theorem dX4_moved_31 : decode cX4_moved 31 = .ok (.iload_n 3, 1) := by decide +kernel
