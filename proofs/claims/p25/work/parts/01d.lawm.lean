theorem dL_room_0 : decode cL_room 0 = .ok (.aload_n 0, 1) := by decide +kernel
theorem dL_room_1 : decode cL_room 1 = .ok (.bipush 6, 2) := by decide +kernel
theorem dL_room_3 : decode cL_room 3 = .ok (.iload_n 1, 1) := by decide +kernel
theorem dL_room_4 : decode cL_room 4 = .ok (.imul, 1) := by decide +kernel
theorem dL_room_5 : decode cL_room 5 = .ok (.iaload, 1) := by decide +kernel
theorem dL_room_6 : decode cL_room 6 = .ok (.aload_n 0, 1) := by decide +kernel
theorem dL_room_7 : decode cL_room 7 = .ok (.bipush 6, 2) := by decide +kernel
theorem dL_room_9 : decode cL_room 9 = .ok (.iload_n 1, 1) := by decide +kernel
theorem dL_room_10 : decode cL_room 10 = .ok (.imul, 1) := by decide +kernel
theorem dL_room_11 : decode cL_room 11 = .ok (.iconst 4, 1) := by decide +kernel
theorem dL_room_12 : decode cL_room 12 = .ok (.iadd, 1) := by decide +kernel
theorem dL_room_13 : decode cL_room 13 = .ok (.iaload, 1) := by decide +kernel
theorem dL_room_14 : decode cL_room 14 = .ok (.iadd, 1) := by decide +kernel
theorem dL_room_15 : decode cL_room 15 = .ok (.aload_n 0, 1) := by decide +kernel
theorem dL_room_16 : decode cL_room 16 = .ok (.bipush 6, 2) := by decide +kernel
theorem dL_room_18 : decode cL_room 18 = .ok (.iload_n 1, 1) := by decide +kernel
theorem dL_room_19 : decode cL_room 19 = .ok (.imul, 1) := by decide +kernel
theorem dL_room_20 : decode cL_room 20 = .ok (.iconst 5, 1) := by decide +kernel
theorem dL_room_21 : decode cL_room 21 = .ok (.iadd, 1) := by decide +kernel
theorem dL_room_22 : decode cL_room 22 = .ok (.iaload, 1) := by decide +kernel
theorem dL_room_23 : decode cL_room 23 = .ok (.isub, 1) := by decide +kernel
theorem dL_room_24 : decode cL_room 24 = .ok (.ireturn, 1) := by decide +kernel
theorem dL_fits_0 : decode cL_fits 0 = .ok (.aload_n 2, 1) := by decide +kernel
theorem dL_fits_1 : decode cL_fits 1 = .ok (.iload_n 3, 1) := by decide +kernel
theorem dL_fits_2 : decode cL_fits 2 = .ok (.iaload, 1) := by decide +kernel
theorem dL_fits_3 : decode cL_fits 3 = .ok (.bipush 100, 2) := by decide +kernel
theorem dL_fits_5 : decode cL_fits 5 = .ok (.if_icmp .ge 39, 3) := by decide +kernel
theorem dL_fits_8 : decode cL_fits 8 = .ok (.aload_n 1, 1) := by decide +kernel
theorem dL_fits_9 : decode cL_fits 9 = .ok (.iload_n 3, 1) := by decide +kernel
theorem dL_fits_10 : decode cL_fits 10 = .ok (.iaload, 1) := by decide +kernel
theorem dL_fits_11 : decode cL_fits 11 = .ok (.aload_n 0, 1) := by decide +kernel
theorem dL_fits_12 : decode cL_fits 12 = .ok (.bipush 6, 2) := by decide +kernel
theorem dL_fits_14 : decode cL_fits 14 = .ok (.aload_n 2, 1) := by decide +kernel
theorem dL_fits_15 : decode cL_fits 15 = .ok (.iload_n 3, 1) := by decide +kernel
theorem dL_fits_16 : decode cL_fits 16 = .ok (.iaload, 1) := by decide +kernel
theorem dL_fits_17 : decode cL_fits 17 = .ok (.imul, 1) := by decide +kernel
theorem dL_fits_18 : decode cL_fits 18 = .ok (.iconst 1, 1) := by decide +kernel
theorem dL_fits_19 : decode cL_fits 19 = .ok (.iadd, 1) := by decide +kernel
theorem dL_fits_20 : decode cL_fits 20 = .ok (.iaload, 1) := by decide +kernel
theorem dL_fits_21 : decode cL_fits 21 = .ok (.if_icmp .lt 23, 3) := by decide +kernel
theorem dL_fits_24 : decode cL_fits 24 = .ok (.aload_n 1, 1) := by decide +kernel
theorem dL_fits_25 : decode cL_fits 25 = .ok (.iload_n 3, 1) := by decide +kernel
theorem dL_fits_26 : decode cL_fits 26 = .ok (.iaload, 1) := by decide +kernel
theorem dL_fits_27 : decode cL_fits 27 = .ok (.aload_n 0, 1) := by decide +kernel
theorem dL_fits_28 : decode cL_fits 28 = .ok (.bipush 6, 2) := by decide +kernel
theorem dL_fits_30 : decode cL_fits 30 = .ok (.aload_n 2, 1) := by decide +kernel
theorem dL_fits_31 : decode cL_fits 31 = .ok (.iload_n 3, 1) := by decide +kernel
theorem dL_fits_32 : decode cL_fits 32 = .ok (.iaload, 1) := by decide +kernel
theorem dL_fits_33 : decode cL_fits 33 = .ok (.imul, 1) := by decide +kernel
theorem dL_fits_34 : decode cL_fits 34 = .ok (.iconst 2, 1) := by decide +kernel
theorem dL_fits_35 : decode cL_fits 35 = .ok (.iadd, 1) := by decide +kernel
theorem dL_fits_36 : decode cL_fits 36 = .ok (.iaload, 1) := by decide +kernel
theorem dL_fits_37 : decode cL_fits 37 = .ok (.if_icmp .gt 7, 3) := by decide +kernel
theorem dL_fits_40 : decode cL_fits 40 = .ok (.iconst 1, 1) := by decide +kernel
theorem dL_fits_41 : decode cL_fits 41 = .ok (.goto 4, 3) := by decide +kernel
theorem dL_fits_44 : decode cL_fits 44 = .ok (.iconst 0, 1) := by decide +kernel
theorem dL_fits_45 : decode cL_fits 45 = .ok (.ireturn, 1) := by decide +kernel
set_option maxRecDepth 20000 in
theorem ggL_eligible_L_fits : GoodIn wsL_eligible wsL_fits := goodIn_r _ [4] (by decide +kernel) (by decide +kernel)
set_option maxRecDepth 20000 in
theorem gL_eligible_L_fits : GoodIn wsL_eligible (va_wsS RL 7 yL_fits wsL_fits) := goodIn_app (goodIn_of _ (by decide +kernel)) ggL_eligible_L_fits
set_option maxRecDepth 20000 in
theorem ggL_eligible_L_room : GoodIn wsL_eligible wsL_room := goodIn_r _ [7] (by decide +kernel) (by decide +kernel)
set_option maxRecDepth 20000 in
theorem gL_eligible_L_room : GoodIn wsL_eligible (va_wsS RL 13 yL_room wsL_room) := goodIn_app (goodIn_of _ (by decide +kernel)) ggL_eligible_L_room
theorem dL_eligible_0 : decode cL_eligible 0 = .ok (.aload_n 1, 1) := by decide +kernel
theorem dL_eligible_1 : decode cL_eligible 1 = .ok (.aload_n 2, 1) := by decide +kernel
theorem dL_eligible_2 : decode cL_eligible 2 = .ok (.aload 4, 2) := by decide +kernel
theorem dL_eligible_4 : decode cL_eligible 4 = .ok (.iload 5, 2) := by decide +kernel
theorem dL_eligible_6 : decode cL_eligible 6 = .ok (.invokestatic 7, 3) := by decide +kernel
theorem dL_eligible_9 : decode cL_eligible 9 = .ok (.ifCond .ne 5, 3) := by decide +kernel
theorem dL_eligible_12 : decode cL_eligible 12 = .ok (.iconst 0, 1) := by decide +kernel
theorem dL_eligible_13 : decode cL_eligible 13 = .ok (.ireturn, 1) := by decide +kernel
theorem dL_eligible_14 : decode cL_eligible 14 = .ok (.lconst 0, 1) := by decide +kernel
theorem dL_eligible_15 : decode cL_eligible 15 = .ok (.lstore 6, 2) := by decide +kernel
theorem dL_eligible_17 : decode cL_eligible 17 = .ok (.iconst 0, 1) := by decide +kernel
theorem dL_eligible_18 : decode cL_eligible 18 = .ok (.istore 8, 2) := by decide +kernel
theorem dL_eligible_20 : decode cL_eligible 20 = .ok (.iload 8, 2) := by decide +kernel
theorem dL_eligible_22 : decode cL_eligible 22 = .ok (.aload_n 0, 1) := by decide +kernel
theorem dL_eligible_23 : decode cL_eligible 23 = .ok (.iconst 5, 1) := by decide +kernel
theorem dL_eligible_24 : decode cL_eligible 24 = .ok (.iaload, 1) := by decide +kernel
theorem dL_eligible_25 : decode cL_eligible 25 = .ok (.if_icmp .ge 89, 3) := by decide +kernel
theorem dL_eligible_28 : decode cL_eligible 28 = .ok (.aload_n 2, 1) := by decide +kernel
theorem dL_eligible_29 : decode cL_eligible 29 = .ok (.iload 8, 2) := by decide +kernel
theorem dL_eligible_31 : decode cL_eligible 31 = .ok (.iaload, 1) := by decide +kernel
theorem dL_eligible_32 : decode cL_eligible 32 = .ok (.aload_n 2, 1) := by decide +kernel
theorem dL_eligible_33 : decode cL_eligible 33 = .ok (.iload 5, 2) := by decide +kernel
theorem dL_eligible_35 : decode cL_eligible 35 = .ok (.iaload, 1) := by decide +kernel
theorem dL_eligible_36 : decode cL_eligible 36 = .ok (.if_icmp .lt 21, 3) := by decide +kernel
theorem dL_eligible_39 : decode cL_eligible 39 = .ok (.aload_n 2, 1) := by decide +kernel
theorem dL_eligible_40 : decode cL_eligible 40 = .ok (.iload 8, 2) := by decide +kernel
theorem dL_eligible_42 : decode cL_eligible 42 = .ok (.iaload, 1) := by decide +kernel
theorem dL_eligible_43 : decode cL_eligible 43 = .ok (.aload_n 2, 1) := by decide +kernel
theorem dL_eligible_44 : decode cL_eligible 44 = .ok (.iload 5, 2) := by decide +kernel
theorem dL_eligible_46 : decode cL_eligible 46 = .ok (.iaload, 1) := by decide +kernel
theorem dL_eligible_47 : decode cL_eligible 47 = .ok (.if_icmp .ne 14, 3) := by decide +kernel
theorem dL_eligible_50 : decode cL_eligible 50 = .ok (.iload 8, 2) := by decide +kernel
theorem dL_eligible_52 : decode cL_eligible 52 = .ok (.iload 5, 2) := by decide +kernel
theorem dL_eligible_54 : decode cL_eligible 54 = .ok (.if_icmp .ge 7, 3) := by decide +kernel
theorem dL_eligible_57 : decode cL_eligible 57 = .ok (.iconst 1, 1) := by decide +kernel
theorem dL_eligible_58 : decode cL_eligible 58 = .ok (.goto 4, 3) := by decide +kernel
theorem dL_eligible_61 : decode cL_eligible 61 = .ok (.iconst 0, 1) := by decide +kernel
theorem dL_eligible_62 : decode cL_eligible 62 = .ok (.istore 9, 2) := by decide +kernel
theorem dL_eligible_64 : decode cL_eligible 64 = .ok (.lload 6, 2) := by decide +kernel
theorem dL_eligible_66 : decode cL_eligible 66 = .ok (.iload 9, 2) := by decide +kernel
theorem dL_eligible_68 : decode cL_eligible 68 = .ok (.ifCond .eq 36, 3) := by decide +kernel
theorem dL_eligible_71 : decode cL_eligible 71 = .ok (.aload 4, 2) := by decide +kernel
theorem dL_eligible_73 : decode cL_eligible 73 = .ok (.iload 8, 2) := by decide +kernel
theorem dL_eligible_75 : decode cL_eligible 75 = .ok (.iaload, 1) := by decide +kernel
theorem dL_eligible_76 : decode cL_eligible 76 = .ok (.aload 4, 2) := by decide +kernel
theorem dL_eligible_78 : decode cL_eligible 78 = .ok (.iload 5, 2) := by decide +kernel
theorem dL_eligible_80 : decode cL_eligible 80 = .ok (.iaload, 1) := by decide +kernel
theorem dL_eligible_81 : decode cL_eligible 81 = .ok (.if_icmp .ne 23, 3) := by decide +kernel
theorem dL_eligible_84 : decode cL_eligible 84 = .ok (.aload_n 1, 1) := by decide +kernel
theorem dL_eligible_85 : decode cL_eligible 85 = .ok (.aload_n 2, 1) := by decide +kernel
theorem dL_eligible_86 : decode cL_eligible 86 = .ok (.aload 4, 2) := by decide +kernel
theorem dL_eligible_88 : decode cL_eligible 88 = .ok (.iload 8, 2) := by decide +kernel
theorem dL_eligible_90 : decode cL_eligible 90 = .ok (.invokestatic 7, 3) := by decide +kernel
theorem dL_eligible_93 : decode cL_eligible 93 = .ok (.ifCond .eq 11, 3) := by decide +kernel
theorem dL_eligible_96 : decode cL_eligible 96 = .ok (.aload_n 3, 1) := by decide +kernel
theorem dL_eligible_97 : decode cL_eligible 97 = .ok (.iload 8, 2) := by decide +kernel
theorem dL_eligible_99 : decode cL_eligible 99 = .ok (.iaload, 1) := by decide +kernel
theorem dL_eligible_100 : decode cL_eligible 100 = .ok (.i2l, 1) := by decide +kernel
theorem dL_eligible_101 : decode cL_eligible 101 = .ok (.goto 4, 3) := by decide +kernel
theorem dL_eligible_104 : decode cL_eligible 104 = .ok (.lconst 0, 1) := by decide +kernel
theorem dL_eligible_105 : decode cL_eligible 105 = .ok (.ladd, 1) := by decide +kernel
theorem dL_eligible_106 : decode cL_eligible 106 = .ok (.lstore 6, 2) := by decide +kernel
theorem dL_eligible_108 : decode cL_eligible 108 = .ok (.iinc 8 1, 3) := by decide +kernel
theorem dL_eligible_111 : decode cL_eligible 111 = .ok (.goto (-91), 3) := by decide +kernel
theorem dL_eligible_114 : decode cL_eligible 114 = .ok (.aload_n 1, 1) := by decide +kernel
theorem dL_eligible_115 : decode cL_eligible 115 = .ok (.aload 4, 2) := by decide +kernel
theorem dL_eligible_117 : decode cL_eligible 117 = .ok (.iload 5, 2) := by decide +kernel
theorem dL_eligible_119 : decode cL_eligible 119 = .ok (.iaload, 1) := by decide +kernel
theorem dL_eligible_120 : decode cL_eligible 120 = .ok (.invokestatic 13, 3) := by decide +kernel
theorem dL_eligible_123 : decode cL_eligible 123 = .ok (.i2l, 1) := by decide +kernel
theorem dL_eligible_124 : decode cL_eligible 124 = .ok (.lstore 8, 2) := by decide +kernel
theorem dL_eligible_126 : decode cL_eligible 126 = .ok (.lload 6, 2) := by decide +kernel
theorem dL_eligible_128 : decode cL_eligible 128 = .ok (.lload 8, 2) := by decide +kernel
theorem dL_eligible_130 : decode cL_eligible 130 = .ok (.lcmp, 1) := by decide +kernel
theorem dL_eligible_131 : decode cL_eligible 131 = .ok (.ifCond .ge 8, 3) := by decide +kernel
theorem dL_eligible_134 : decode cL_eligible 134 = .ok (.lload 6, 2) := by decide +kernel
theorem dL_eligible_136 : decode cL_eligible 136 = .ok (.goto 5, 3) := by decide +kernel
theorem dL_eligible_139 : decode cL_eligible 139 = .ok (.lload 8, 2) := by decide +kernel
theorem dL_eligible_141 : decode cL_eligible 141 = .ok (.lstore 10, 2) := by decide +kernel
theorem dL_eligible_143 : decode cL_eligible 143 = .ok (.lload 6, 2) := by decide +kernel
theorem dL_eligible_145 : decode cL_eligible 145 = .ok (.aload_n 3, 1) := by decide +kernel
theorem dL_eligible_146 : decode cL_eligible 146 = .ok (.iload 5, 2) := by decide +kernel
theorem dL_eligible_148 : decode cL_eligible 148 = .ok (.iaload, 1) := by decide +kernel
theorem dL_eligible_149 : decode cL_eligible 149 = .ok (.i2l, 1) := by decide +kernel
theorem dL_eligible_150 : decode cL_eligible 150 = .ok (.ladd, 1) := by decide +kernel
theorem dL_eligible_151 : decode cL_eligible 151 = .ok (.lload 8, 2) := by decide +kernel
theorem dL_eligible_153 : decode cL_eligible 153 = .ok (.lcmp, 1) := by decide +kernel
theorem dL_eligible_154 : decode cL_eligible 154 = .ok (.ifCond .ge 14, 3) := by decide +kernel
theorem dL_eligible_157 : decode cL_eligible 157 = .ok (.lload 6, 2) := by decide +kernel
theorem dL_eligible_159 : decode cL_eligible 159 = .ok (.aload_n 3, 1) := by decide +kernel
theorem dL_eligible_160 : decode cL_eligible 160 = .ok (.iload 5, 2) := by decide +kernel
theorem dL_eligible_162 : decode cL_eligible 162 = .ok (.iaload, 1) := by decide +kernel
theorem dL_eligible_163 : decode cL_eligible 163 = .ok (.i2l, 1) := by decide +kernel
theorem dL_eligible_164 : decode cL_eligible 164 = .ok (.ladd, 1) := by decide +kernel
theorem dL_eligible_165 : decode cL_eligible 165 = .ok (.goto 5, 3) := by decide +kernel
theorem dL_eligible_168 : decode cL_eligible 168 = .ok (.lload 8, 2) := by decide +kernel
theorem dL_eligible_170 : decode cL_eligible 170 = .ok (.lstore 12, 2) := by decide +kernel
theorem dL_eligible_172 : decode cL_eligible 172 = .ok (.lload 12, 2) := by decide +kernel
theorem dL_eligible_174 : decode cL_eligible 174 = .ok (.lload 10, 2) := by decide +kernel
theorem dL_eligible_176 : decode cL_eligible 176 = .ok (.lsub, 1) := by decide +kernel
theorem dL_eligible_177 : decode cL_eligible 177 = .ok (.l2i, 1) := by decide +kernel
theorem dL_eligible_178 : decode cL_eligible 178 = .ok (.ireturn, 1) := by decide +kernel
set_option maxRecDepth 20000 in
theorem ggL_sum_L_eligible : GoodIn wsL_sum wsL_eligible := goodIn_r _ [4, 5, 6, 3, 7, 8, 9, 10] (by decide +kernel) (by decide +kernel)
set_option maxRecDepth 20000 in
theorem gL_sum_L_eligible : GoodIn wsL_sum (va_wsS RL 17 yL_eligible wsL_eligible) := goodIn_app (goodIn_of _ (by decide +kernel)) ggL_sum_L_eligible
theorem dL_sum_0 : decode cL_sum 0 = .ok (.iconst 0, 1) := by decide +kernel
theorem dL_sum_1 : decode cL_sum 1 = .ok (.istore 7, 2) := by decide +kernel
theorem dL_sum_3 : decode cL_sum 3 = .ok (.iconst 0, 1) := by decide +kernel
theorem dL_sum_4 : decode cL_sum 4 = .ok (.istore 8, 2) := by decide +kernel
theorem dL_sum_6 : decode cL_sum 6 = .ok (.iload 8, 2) := by decide +kernel
theorem dL_sum_8 : decode cL_sum 8 = .ok (.aload_n 0, 1) := by decide +kernel
theorem dL_sum_9 : decode cL_sum 9 = .ok (.iconst 5, 1) := by decide +kernel
theorem dL_sum_10 : decode cL_sum 10 = .ok (.iaload, 1) := by decide +kernel
theorem dL_sum_11 : decode cL_sum 11 = .ok (.if_icmp .ge 62, 3) := by decide +kernel
theorem dL_sum_14 : decode cL_sum 14 = .ok (.iload 7, 2) := by decide +kernel
theorem dL_sum_16 : decode cL_sum 16 = .ok (.aload_n 2, 1) := by decide +kernel
theorem dL_sum_17 : decode cL_sum 17 = .ok (.iload 8, 2) := by decide +kernel
theorem dL_sum_19 : decode cL_sum 19 = .ok (.iaload, 1) := by decide +kernel
theorem dL_sum_20 : decode cL_sum 20 = .ok (.iload 5, 2) := by decide +kernel
theorem dL_sum_22 : decode cL_sum 22 = .ok (.if_icmp .gt 41, 3) := by decide +kernel
theorem dL_sum_25 : decode cL_sum 25 = .ok (.iload 6, 2) := by decide +kernel
theorem dL_sum_27 : decode cL_sum 27 = .ok (.ifCond .eq 22, 3) := by decide +kernel
theorem dL_sum_30 : decode cL_sum 30 = .ok (.aload_n 1, 1) := by decide +kernel
theorem dL_sum_31 : decode cL_sum 31 = .ok (.bipush 6, 2) := by decide +kernel
theorem dL_sum_33 : decode cL_sum 33 = .ok (.aload 4, 2) := by decide +kernel
theorem dL_sum_35 : decode cL_sum 35 = .ok (.iload 8, 2) := by decide +kernel
theorem dL_sum_37 : decode cL_sum 37 = .ok (.iaload, 1) := by decide +kernel
theorem dL_sum_38 : decode cL_sum 38 = .ok (.bipush 100, 2) := by decide +kernel
theorem dL_sum_40 : decode cL_sum 40 = .ok (.irem, 1) := by decide +kernel
theorem dL_sum_41 : decode cL_sum 41 = .ok (.imul, 1) := by decide +kernel
theorem dL_sum_42 : decode cL_sum 42 = .ok (.iconst 3, 1) := by decide +kernel
theorem dL_sum_43 : decode cL_sum 43 = .ok (.iadd, 1) := by decide +kernel
theorem dL_sum_44 : decode cL_sum 44 = .ok (.iaload, 1) := by decide +kernel
theorem dL_sum_45 : decode cL_sum 45 = .ok (.iconst 1, 1) := by decide +kernel
theorem dL_sum_46 : decode cL_sum 46 = .ok (.if_icmp .ne 17, 3) := by decide +kernel
theorem dL_sum_49 : decode cL_sum 49 = .ok (.aload_n 0, 1) := by decide +kernel
theorem dL_sum_50 : decode cL_sum 50 = .ok (.aload_n 1, 1) := by decide +kernel
theorem dL_sum_51 : decode cL_sum 51 = .ok (.aload_n 2, 1) := by decide +kernel
theorem dL_sum_52 : decode cL_sum 52 = .ok (.aload_n 3, 1) := by decide +kernel
theorem dL_sum_53 : decode cL_sum 53 = .ok (.aload 4, 2) := by decide +kernel
theorem dL_sum_55 : decode cL_sum 55 = .ok (.iload 8, 2) := by decide +kernel
theorem dL_sum_57 : decode cL_sum 57 = .ok (.invokestatic 17, 3) := by decide +kernel
theorem dL_sum_60 : decode cL_sum 60 = .ok (.goto 4, 3) := by decide +kernel
theorem dL_sum_63 : decode cL_sum 63 = .ok (.iconst 0, 1) := by decide +kernel
theorem dL_sum_64 : decode cL_sum 64 = .ok (.iadd, 1) := by decide +kernel
theorem dL_sum_65 : decode cL_sum 65 = .ok (.istore 7, 2) := by decide +kernel
theorem dL_sum_67 : decode cL_sum 67 = .ok (.iinc 8 1, 3) := by decide +kernel
theorem dL_sum_70 : decode cL_sum 70 = .ok (.goto (-64), 3) := by decide +kernel
theorem dL_sum_73 : decode cL_sum 73 = .ok (.iload 7, 2) := by decide +kernel
theorem dL_sum_75 : decode cL_sum 75 = .ok (.ireturn, 1) := by decide +kernel
set_option maxRecDepth 20000 in
theorem ggL_overhead_L_sum : GoodIn wsL_overhead wsL_sum := goodIn_r _ [5, 6, 7, 4, 8, 9, 10, 11, 12, 13, 14] (by decide +kernel) (by decide +kernel)
set_option maxRecDepth 20000 in
theorem gL_overhead_L_sum : GoodIn wsL_overhead (va_wsS RL 21 yL_sum wsL_sum) := goodIn_app (goodIn_of _ (by decide +kernel)) ggL_overhead_L_sum
theorem dL_overhead_0 : decode cL_overhead 0 = .ok (.aload_n 0, 1) := by decide +kernel
theorem dL_overhead_1 : decode cL_overhead 1 = .ok (.aload_n 1, 1) := by decide +kernel
theorem dL_overhead_2 : decode cL_overhead 2 = .ok (.aload_n 2, 1) := by decide +kernel
theorem dL_overhead_3 : decode cL_overhead 3 = .ok (.aload_n 3, 1) := by decide +kernel
theorem dL_overhead_4 : decode cL_overhead 4 = .ok (.aload 4, 2) := by decide +kernel
theorem dL_overhead_6 : decode cL_overhead 6 = .ok (.iload 5, 2) := by decide +kernel
theorem dL_overhead_8 : decode cL_overhead 8 = .ok (.iconst 1, 1) := by decide +kernel
theorem dL_overhead_9 : decode cL_overhead 9 = .ok (.invokestatic 21, 3) := by decide +kernel
theorem dL_overhead_12 : decode cL_overhead 12 = .ok (.i2l, 1) := by decide +kernel
theorem dL_overhead_13 : decode cL_overhead 13 = .ok (.aload_n 0, 1) := by decide +kernel
theorem dL_overhead_14 : decode cL_overhead 14 = .ok (.iconst 2, 1) := by decide +kernel
theorem dL_overhead_15 : decode cL_overhead 15 = .ok (.iaload, 1) := by decide +kernel
theorem dL_overhead_16 : decode cL_overhead 16 = .ok (.i2l, 1) := by decide +kernel
theorem dL_overhead_17 : decode cL_overhead 17 = .ok (.lmul, 1) := by decide +kernel
theorem dL_overhead_18 : decode cL_overhead 18 = .ok (.ldc2_w 25, 3) := by decide +kernel
theorem dL_overhead_21 : decode cL_overhead 21 = .ok (.ldiv, 1) := by decide +kernel
theorem dL_overhead_22 : decode cL_overhead 22 = .ok (.lstore 6, 2) := by decide +kernel
theorem dL_overhead_24 : decode cL_overhead 24 = .ok (.lload 6, 2) := by decide +kernel
theorem dL_overhead_26 : decode cL_overhead 26 = .ok (.aload_n 0, 1) := by decide +kernel
theorem dL_overhead_27 : decode cL_overhead 27 = .ok (.iconst 3, 1) := by decide +kernel
theorem dL_overhead_28 : decode cL_overhead 28 = .ok (.iaload, 1) := by decide +kernel
theorem dL_overhead_29 : decode cL_overhead 29 = .ok (.i2l, 1) := by decide +kernel
theorem dL_overhead_30 : decode cL_overhead 30 = .ok (.lcmp, 1) := by decide +kernel
theorem dL_overhead_31 : decode cL_overhead 31 = .ok (.ifCond .ge 9, 3) := by decide +kernel
theorem dL_overhead_34 : decode cL_overhead 34 = .ok (.lload 6, 2) := by decide +kernel
theorem dL_overhead_36 : decode cL_overhead 36 = .ok (.l2i, 1) := by decide +kernel
theorem dL_overhead_37 : decode cL_overhead 37 = .ok (.goto 6, 3) := by decide +kernel
theorem dL_overhead_40 : decode cL_overhead 40 = .ok (.aload_n 0, 1) := by decide +kernel
theorem dL_overhead_41 : decode cL_overhead 41 = .ok (.iconst 3, 1) := by decide +kernel
theorem dL_overhead_42 : decode cL_overhead 42 = .ok (.iaload, 1) := by decide +kernel
theorem dL_overhead_43 : decode cL_overhead 43 = .ok (.ireturn, 1) := by decide +kernel
set_option maxRecDepth 20000 in
theorem ggL_earned_L_sum : GoodIn wsL_earned wsL_sum := goodIn_r _ [5, 6, 7, 4, 8, 9, 10, 11, 12, 13, 14] (by decide +kernel) (by decide +kernel)
set_option maxRecDepth 20000 in
theorem gL_earned_L_sum : GoodIn wsL_earned (va_wsS RL 21 yL_sum wsL_sum) := goodIn_app (goodIn_of _ (by decide +kernel)) ggL_earned_L_sum
set_option maxRecDepth 20000 in
theorem ggL_earned_L_overhead : GoodIn wsL_earned wsL_overhead := goodIn_r _ [17, 1, 2, 3, 4, 5, 6, 7, 8, 9, 10, 11, 12, 13, 14] (by decide +kernel) (by decide +kernel)
set_option maxRecDepth 20000 in
theorem gL_earned_L_overhead : GoodIn wsL_earned (va_wsS RL 27 yL_overhead wsL_overhead) := goodIn_app (goodIn_of _ (by decide +kernel)) ggL_earned_L_overhead
theorem dL_earned_0 : decode cL_earned 0 = .ok (.aload_n 0, 1) := by decide +kernel
theorem dL_earned_1 : decode cL_earned 1 = .ok (.aload_n 1, 1) := by decide +kernel
theorem dL_earned_2 : decode cL_earned 2 = .ok (.aload_n 2, 1) := by decide +kernel
theorem dL_earned_3 : decode cL_earned 3 = .ok (.aload_n 3, 1) := by decide +kernel
theorem dL_earned_4 : decode cL_earned 4 = .ok (.aload 4, 2) := by decide +kernel
theorem dL_earned_6 : decode cL_earned 6 = .ok (.iload 5, 2) := by decide +kernel
theorem dL_earned_8 : decode cL_earned 8 = .ok (.iconst 0, 1) := by decide +kernel
theorem dL_earned_9 : decode cL_earned 9 = .ok (.invokestatic 21, 3) := by decide +kernel
theorem dL_earned_12 : decode cL_earned 12 = .ok (.i2l, 1) := by decide +kernel
theorem dL_earned_13 : decode cL_earned 13 = .ok (.aload_n 0, 1) := by decide +kernel
theorem dL_earned_14 : decode cL_earned 14 = .ok (.aload_n 1, 1) := by decide +kernel
theorem dL_earned_15 : decode cL_earned 15 = .ok (.aload_n 2, 1) := by decide +kernel
theorem dL_earned_16 : decode cL_earned 16 = .ok (.aload_n 3, 1) := by decide +kernel
theorem dL_earned_17 : decode cL_earned 17 = .ok (.aload 4, 2) := by decide +kernel
theorem dL_earned_19 : decode cL_earned 19 = .ok (.iload 5, 2) := by decide +kernel
theorem dL_earned_21 : decode cL_earned 21 = .ok (.invokestatic 27, 3) := by decide +kernel
theorem dL_earned_24 : decode cL_earned 24 = .ok (.i2l, 1) := by decide +kernel
theorem dL_earned_25 : decode cL_earned 25 = .ok (.ladd, 1) := by decide +kernel
theorem dL_earned_26 : decode cL_earned 26 = .ok (.aload_n 0, 1) := by decide +kernel
theorem dL_earned_27 : decode cL_earned 27 = .ok (.iconst 1, 1) := by decide +kernel
theorem dL_earned_28 : decode cL_earned 28 = .ok (.iaload, 1) := by decide +kernel
theorem dL_earned_29 : decode cL_earned 29 = .ok (.i2l, 1) := by decide +kernel
theorem dL_earned_30 : decode cL_earned 30 = .ok (.lmul, 1) := by decide +kernel
theorem dL_earned_31 : decode cL_earned 31 = .ok (.ldc2_w 25, 3) := by decide +kernel
theorem dL_earned_34 : decode cL_earned 34 = .ok (.ldiv, 1) := by decide +kernel
theorem dL_earned_35 : decode cL_earned 35 = .ok (.lstore 8, 2) := by decide +kernel
theorem dL_earned_37 : decode cL_earned 37 = .ok (.lload 8, 2) := by decide +kernel
theorem dL_earned_39 : decode cL_earned 39 = .ok (.aload_n 0, 1) := by decide +kernel
theorem dL_earned_40 : decode cL_earned 40 = .ok (.iconst 0, 1) := by decide +kernel
theorem dL_earned_41 : decode cL_earned 41 = .ok (.iaload, 1) := by decide +kernel
theorem dL_earned_42 : decode cL_earned 42 = .ok (.i2l, 1) := by decide +kernel
theorem dL_earned_43 : decode cL_earned 43 = .ok (.lcmp, 1) := by decide +kernel
theorem dL_earned_44 : decode cL_earned 44 = .ok (.ifCond .ge 8, 3) := by decide +kernel
theorem dL_earned_47 : decode cL_earned 47 = .ok (.lload 8, 2) := by decide +kernel
theorem dL_earned_49 : decode cL_earned 49 = .ok (.goto 7, 3) := by decide +kernel
theorem dL_earned_52 : decode cL_earned 52 = .ok (.aload_n 0, 1) := by decide +kernel
theorem dL_earned_53 : decode cL_earned 53 = .ok (.iconst 0, 1) := by decide +kernel
theorem dL_earned_54 : decode cL_earned 54 = .ok (.iaload, 1) := by decide +kernel
theorem dL_earned_55 : decode cL_earned 55 = .ok (.i2l, 1) := by decide +kernel
theorem dL_earned_56 : decode cL_earned 56 = .ok (.lstore 8, 2) := by decide +kernel
theorem dL_earned_58 : decode cL_earned 58 = .ok (.aload_n 0, 1) := by decide +kernel
theorem dL_earned_59 : decode cL_earned 59 = .ok (.iconst 1, 1) := by decide +kernel
theorem dL_earned_60 : decode cL_earned 60 = .ok (.iaload, 1) := by decide +kernel
theorem dL_earned_61 : decode cL_earned 61 = .ok (.bipush 100, 2) := by decide +kernel
theorem dL_earned_63 : decode cL_earned 63 = .ok (.if_icmp .ne 8, 3) := by decide +kernel
theorem dL_earned_66 : decode cL_earned 66 = .ok (.lload 8, 2) := by decide +kernel
theorem dL_earned_68 : decode cL_earned 68 = .ok (.goto 18, 3) := by decide +kernel
theorem dL_earned_71 : decode cL_earned 71 = .ok (.lload 6, 2) := by decide +kernel
theorem dL_earned_73 : decode cL_earned 73 = .ok (.aload_n 0, 1) := by decide +kernel
theorem dL_earned_74 : decode cL_earned 74 = .ok (.iconst 1, 1) := by decide +kernel
theorem dL_earned_75 : decode cL_earned 75 = .ok (.iaload, 1) := by decide +kernel
theorem dL_earned_76 : decode cL_earned 76 = .ok (.i2l, 1) := by decide +kernel
theorem dL_earned_77 : decode cL_earned 77 = .ok (.lmul, 1) := by decide +kernel
theorem dL_earned_78 : decode cL_earned 78 = .ok (.bipush 100, 2) := by decide +kernel
theorem dL_earned_80 : decode cL_earned 80 = .ok (.aload_n 0, 1) := by decide +kernel
theorem dL_earned_81 : decode cL_earned 81 = .ok (.iconst 1, 1) := by decide +kernel
theorem dL_earned_82 : decode cL_earned 82 = .ok (.iaload, 1) := by decide +kernel
theorem dL_earned_83 : decode cL_earned 83 = .ok (.isub, 1) := by decide +kernel
theorem dL_earned_84 : decode cL_earned 84 = .ok (.i2l, 1) := by decide +kernel
theorem dL_earned_85 : decode cL_earned 85 = .ok (.ldiv, 1) := by decide +kernel
theorem dL_earned_86 : decode cL_earned 86 = .ok (.lstore 10, 2) := by decide +kernel
theorem dL_earned_88 : decode cL_earned 88 = .ok (.lload 8, 2) := by decide +kernel
theorem dL_earned_90 : decode cL_earned 90 = .ok (.lload 10, 2) := by decide +kernel
theorem dL_earned_92 : decode cL_earned 92 = .ok (.lcmp, 1) := by decide +kernel
theorem dL_earned_93 : decode cL_earned 93 = .ok (.ifCond .ge 8, 3) := by decide +kernel
theorem dL_earned_96 : decode cL_earned 96 = .ok (.lload 8, 2) := by decide +kernel
theorem dL_earned_98 : decode cL_earned 98 = .ok (.goto 5, 3) := by decide +kernel
theorem dL_earned_101 : decode cL_earned 101 = .ok (.lload 10, 2) := by decide +kernel
theorem dL_earned_103 : decode cL_earned 103 = .ok (.l2i, 1) := by decide +kernel
theorem dL_earned_104 : decode cL_earned 104 = .ok (.ireturn, 1) := by decide +kernel
set_option maxRecDepth 20000 in
theorem ggL_does_X2_move : GoodIn wsL_does wsX2_move := goodIn_ca (goodIn_ca (goodIn_ca (goodIn_r _ [9, 10, 11, 12, 13, 14, 15, 16, 17, 18, 19, 20, 8, 21, 22, 23, 24, 25, 26, 27, 28, 29, 30, 31, 32, 33, 34, 35, 36, 37, 38, 39, 40, 41, 42, 43, 44, 45, 46, 47, 48, 49, 50, 51, 52, 53, 54, 55, 56, 127, 128, 129, 130, 131, 132, 133, 134, 135, 136, 137, 138, 139, 140, 141, 142, 143, 144, 145, 146, 147, 148, 149, 150, 151, 152] (by decide +kernel) (by decide +kernel)) (goodIn_sub (fun _ h => List.mem_cons_of_mem _ (List.mem_append_left _ (List.mem_append_left _ (List.mem_append_right _ h)))) (by decide +kernel))) (goodIn_sub (fun _ h => List.mem_cons_of_mem _ (List.mem_append_left _ (List.mem_append_right _ h))) (by decide +kernel))) (goodIn_sub (fun _ h => List.mem_cons_of_mem _ (List.mem_append_right _ h)) (by decide +kernel))
set_option maxRecDepth 20000 in
theorem gL_does_X2_move : GoodIn wsL_does (wsV RL 30 RX2 yX2_move wsX2_move) := goodIn_app (goodIn_of _ (by decide +kernel)) ggL_does_X2_move
set_option maxRecDepth 20000 in
theorem ggL_does_X2_refuse : GoodIn wsL_does wsX2_refuse := goodIn_ca (goodIn_ca (goodIn_r _ [60, 12, 13, 61, 62, 63, 64, 8, 65, 22, 23, 66, 67, 68, 69, 70, 71, 72, 73, 31, 74, 33, 53, 39, 40, 28, 29, 30, 32, 34, 35, 36, 37, 38, 41, 42, 43, 44, 45, 46, 47, 48, 49, 50, 51, 52, 54, 55, 147, 148, 149, 150, 151, 152, 134, 135, 136, 137, 138, 139, 140, 141, 142, 143, 144, 145, 146, 127, 128, 129, 130, 131, 132, 133] (by decide +kernel) (by decide +kernel)) (goodIn_sub (fun _ h => List.mem_cons_of_mem _ (List.mem_append_left _ (List.mem_append_right _ h))) (by decide +kernel))) (goodIn_sub (fun _ h => List.mem_cons_of_mem _ (List.mem_append_right _ h)) (by decide +kernel))
set_option maxRecDepth 20000 in
theorem gL_does_X2_refuse : GoodIn wsL_does (wsV RL 36 RX2 yX2_refuse wsX2_refuse) := goodIn_app (goodIn_of _ (by decide +kernel)) ggL_does_X2_refuse
set_option maxRecDepth 20000 in
theorem ggL_does_X2_admit : GoodIn wsL_does wsX2_admit := goodIn_ca (goodIn_ca (goodIn_r _ [78, 12, 13, 61, 62, 63, 64, 8, 65, 22, 23, 66, 67, 68, 69, 70, 71, 72, 73, 31, 74, 33, 53, 39, 40, 28, 29, 30, 32, 34, 35, 36, 37, 38, 41, 42, 43, 44, 45, 46, 47, 48, 49, 50, 51, 52, 54, 55, 147, 148, 149, 150, 151, 152, 134, 135, 136, 137, 138, 139, 140, 141, 142, 143, 144, 145, 146, 127, 128, 129, 130, 131, 132, 133] (by decide +kernel) (by decide +kernel)) (goodIn_sub (fun _ h => List.mem_cons_of_mem _ (List.mem_append_left _ (List.mem_append_right _ h))) (by decide +kernel))) (goodIn_sub (fun _ h => List.mem_cons_of_mem _ (List.mem_append_right _ h)) (by decide +kernel))
set_option maxRecDepth 20000 in
theorem gL_does_X2_admit : GoodIn wsL_does (wsV RL 40 RX2 yX2_admit wsX2_admit) := goodIn_app (goodIn_of _ (by decide +kernel)) ggL_does_X2_admit
set_option maxRecDepth 20000 in
theorem ggL_does_X2_match : GoodIn wsL_does wsX2_match := goodIn_ca (goodIn_ca (goodIn_r _ [82, 12, 13, 14, 83, 84, 25, 26, 8, 27, 10, 11, 134, 135, 136, 137, 138, 139, 140, 141, 142, 143, 144, 145, 146] (by decide +kernel) (by decide +kernel)) (goodIn_sub (fun _ h => List.mem_cons_of_mem _ (List.mem_append_left _ (List.mem_append_right _ h))) (by decide +kernel))) (goodIn_sub (fun _ h => List.mem_cons_of_mem _ (List.mem_append_left _ (List.mem_append_left _ (List.mem_append_right _ h)))) (by decide +kernel))
set_option maxRecDepth 20000 in
theorem gL_does_X2_match : GoodIn wsL_does (wsV RL 43 RX2 yX2_match wsX2_match) := goodIn_app (goodIn_of _ (by decide +kernel)) ggL_does_X2_match
set_option maxRecDepth 20000 in
theorem ggL_does_X2_claim : GoodIn wsL_does wsX2_claim := goodIn_ca (goodIn_ca (goodIn_r _ [88, 12, 13, 89, 90, 91, 92, 25, 26, 8, 27, 10, 11, 93, 94, 95, 96, 97, 83, 98, 99, 37, 100, 101, 102, 103, 104, 105, 106, 107, 108, 109, 110, 111, 112, 113, 114, 24, 115, 71, 72, 73, 31, 74, 33, 53, 39, 40, 116, 117, 118, 119, 120, 121, 134, 135, 136, 137, 138, 139, 140, 141, 142, 143, 144, 145, 146, 127, 128, 129, 130, 131, 132, 133, 147, 148, 149, 150, 151, 152] (by decide +kernel) (by decide +kernel)) (goodIn_sub (fun _ h => List.mem_cons_of_mem _ (List.mem_append_left _ (List.mem_append_right _ h))) (by decide +kernel))) (goodIn_sub (fun _ h => List.mem_cons_of_mem _ (List.mem_append_left _ (List.mem_append_left _ (List.mem_append_right _ h)))) (by decide +kernel))
set_option maxRecDepth 20000 in
theorem gL_does_X2_claim : GoodIn wsL_does (wsV RL 46 RX2 yX2_claim wsX2_claim) := goodIn_app (goodIn_of _ (by decide +kernel)) ggL_does_X2_claim
set_option maxRecDepth 20000 in
theorem ggL_does_X2_extend : GoodIn wsL_does wsX2_extend := goodIn_ca (goodIn_ca (goodIn_r _ [125, 126, 18, 19, 20, 8, 21, 22, 23, 24, 25, 26, 27, 10, 11, 28, 29, 30, 31, 32, 33, 34, 35, 36, 37, 38, 39, 40, 41, 42, 43, 44, 45, 46, 47, 48, 49, 50, 51, 52, 53, 54, 55, 127, 128, 129, 130, 131, 132, 133, 134, 135, 136, 137, 138, 139, 140, 141, 142, 143, 144, 145, 146, 147, 148, 149, 150, 151, 152] (by decide +kernel) (by decide +kernel)) (goodIn_sub (fun _ h => List.mem_cons_of_mem _ (List.mem_append_right _ h)) (by decide +kernel))) (goodIn_sub (fun _ h => List.mem_cons_of_mem _ (List.mem_append_left _ (List.mem_append_left _ (List.mem_append_right _ h)))) (by decide +kernel))
set_option maxRecDepth 20000 in
theorem gL_does_X2_extend : GoodIn wsL_does (wsV RL 49 RX2 yX2_extend wsX2_extend) := goodIn_app (goodIn_of _ (by decide +kernel)) ggL_does_X2_extend
theorem dL_does_0 : decode cL_does 0 = .ok (.iload_n 1, 1) := by decide +kernel
theorem dL_does_1 : decode cL_does 1 = .ok (.ifCond .ne 14, 3) := by decide +kernel
theorem dL_does_4 : decode cL_does 4 = .ok (.aload_n 0, 1) := by decide +kernel
theorem dL_does_5 : decode cL_does 5 = .ok (.iload_n 2, 1) := by decide +kernel
theorem dL_does_6 : decode cL_does 6 = .ok (.iload_n 3, 1) := by decide +kernel
theorem dL_does_7 : decode cL_does 7 = .ok (.iload 4, 2) := by decide +kernel
theorem dL_does_9 : decode cL_does 9 = .ok (.invokevirtual 30, 3) := by decide +kernel
theorem dL_does_12 : decode cL_does 12 = .ok (.goto 61, 3) := by decide +kernel
theorem dL_does_15 : decode cL_does 15 = .ok (.iload_n 1, 1) := by decide +kernel
theorem dL_does_16 : decode cL_does 16 = .ok (.iconst 1, 1) := by decide +kernel
theorem dL_does_17 : decode cL_does 17 = .ok (.if_icmp .ne 11, 3) := by decide +kernel
theorem dL_does_20 : decode cL_does 20 = .ok (.aload_n 0, 1) := by decide +kernel
theorem dL_does_21 : decode cL_does 21 = .ok (.iload_n 2, 1) := by decide +kernel
theorem dL_does_22 : decode cL_does 22 = .ok (.invokevirtual 36, 3) := by decide +kernel
theorem dL_does_25 : decode cL_does 25 = .ok (.goto 48, 3) := by decide +kernel
theorem dL_does_28 : decode cL_does 28 = .ok (.iload_n 1, 1) := by decide +kernel
theorem dL_does_29 : decode cL_does 29 = .ok (.iconst 2, 1) := by decide +kernel
theorem dL_does_30 : decode cL_does 30 = .ok (.if_icmp .ne 11, 3) := by decide +kernel
theorem dL_does_33 : decode cL_does 33 = .ok (.aload_n 0, 1) := by decide +kernel
theorem dL_does_34 : decode cL_does 34 = .ok (.iload_n 2, 1) := by decide +kernel
theorem dL_does_35 : decode cL_does 35 = .ok (.invokevirtual 40, 3) := by decide +kernel
theorem dL_does_38 : decode cL_does 38 = .ok (.goto 35, 3) := by decide +kernel
theorem dL_does_41 : decode cL_does 41 = .ok (.iload_n 1, 1) := by decide +kernel
theorem dL_does_42 : decode cL_does 42 = .ok (.iconst 3, 1) := by decide +kernel
theorem dL_does_43 : decode cL_does 43 = .ok (.if_icmp .ne 11, 3) := by decide +kernel
theorem dL_does_46 : decode cL_does 46 = .ok (.aload_n 0, 1) := by decide +kernel
theorem dL_does_47 : decode cL_does 47 = .ok (.iload_n 2, 1) := by decide +kernel
theorem dL_does_48 : decode cL_does 48 = .ok (.invokevirtual 43, 3) := by decide +kernel
theorem dL_does_51 : decode cL_does 51 = .ok (.goto 22, 3) := by decide +kernel
theorem dL_does_54 : decode cL_does 54 = .ok (.iload_n 1, 1) := by decide +kernel
theorem dL_does_55 : decode cL_does 55 = .ok (.iconst 4, 1) := by decide +kernel
theorem dL_does_56 : decode cL_does 56 = .ok (.if_icmp .ne 11, 3) := by decide +kernel
theorem dL_does_59 : decode cL_does 59 = .ok (.aload_n 0, 1) := by decide +kernel
theorem dL_does_60 : decode cL_does 60 = .ok (.iload_n 2, 1) := by decide +kernel
theorem dL_does_61 : decode cL_does 61 = .ok (.invokevirtual 46, 3) := by decide +kernel
theorem dL_does_64 : decode cL_does 64 = .ok (.goto 9, 3) := by decide +kernel
theorem dL_does_67 : decode cL_does 67 = .ok (.aload_n 0, 1) := by decide +kernel
theorem dL_does_68 : decode cL_does 68 = .ok (.iload_n 2, 1) := by decide +kernel
theorem dL_does_69 : decode cL_does 69 = .ok (.iload_n 3, 1) := by decide +kernel
theorem dL_does_70 : decode cL_does 70 = .ok (.invokevirtual 49, 3) := by decide +kernel
theorem dL_does_73 : decode cL_does 73 = .ok (.ireturn, 1) := by decide +kernel
theorem dL_does_74 : decode cL_does 74 = .ok (.astore 5, 2) := by decide +kernel
theorem dL_does_76 : decode cL_does 76 = .ok (.ldc 55, 2) := by decide +kernel
theorem dL_does_78 : decode cL_does 78 = .ok (.ireturn, 1) := by decide +kernel
theorem dL_does_79 : decode cL_does 79 = .ok (.astore 5, 2) := by decide +kernel
theorem dL_does_81 : decode cL_does 81 = .ok (.ldc 58, 2) := by decide +kernel
theorem dL_does_83 : decode cL_does 83 = .ok (.ireturn, 1) := by decide +kernel
set_option maxRecDepth 20000 in
theorem ggL_isSet_X2_setGrant : GoodIn wsL_isSet wsX2_setGrant := goodIn_ca (goodIn_ca (goodIn_r _ [6, 7, 8, 9, 10, 11, 12, 13, 14, 15, 16, 5, 17, 18, 19, 20, 21, 22, 23, 24, 25, 26, 27, 28, 29, 30, 31, 32] (by decide +kernel) (by decide +kernel)) (goodIn_sub (fun _ h => List.mem_cons_of_mem _ (List.mem_append_left _ (List.mem_append_right _ h))) (by decide +kernel))) (goodIn_sub (fun _ h => List.mem_cons_of_mem _ (List.mem_append_right _ h)) (by decide +kernel))
set_option maxRecDepth 20000 in
theorem gL_isSet_X2_setGrant : GoodIn wsL_isSet (wsV RL 59 RX2 yX2_setGrant wsX2_setGrant) := goodIn_app (goodIn_of _ (by decide +kernel)) ggL_isSet_X2_setGrant
theorem dL_isSet_0 : decode cL_isSet 0 = .ok (.aload_n 0, 1) := by decide +kernel
theorem dL_isSet_1 : decode cL_isSet 1 = .ok (.iload_n 1, 1) := by decide +kernel
theorem dL_isSet_2 : decode cL_isSet 2 = .ok (.iload_n 2, 1) := by decide +kernel
theorem dL_isSet_3 : decode cL_isSet 3 = .ok (.iload_n 3, 1) := by decide +kernel
theorem dL_isSet_4 : decode cL_isSet 4 = .ok (.iload 4, 2) := by decide +kernel
theorem dL_isSet_6 : decode cL_isSet 6 = .ok (.invokevirtual 59, 3) := by decide +kernel
theorem dL_isSet_9 : decode cL_isSet 9 = .ok (.iconst 1, 1) := by decide +kernel
theorem dL_isSet_10 : decode cL_isSet 10 = .ok (.ireturn, 1) := by decide +kernel
theorem dL_isSet_11 : decode cL_isSet 11 = .ok (.astore 5, 2) := by decide +kernel
theorem dL_isSet_13 : decode cL_isSet 13 = .ok (.iconst 0, 1) := by decide +kernel
theorem dL_isSet_14 : decode cL_isSet 14 = .ok (.ireturn, 1) := by decide +kernel
set_option maxRecDepth 20000 in
theorem ggL_isBook_X2_lines : GoodIn wsL_isBook wsX2_lines := goodIn_r _ [9, 10, 167, 168, 169, 170, 171, 172, 173, 174, 175, 176, 177, 178, 179] (by decide +kernel) (by decide +kernel)
set_option maxRecDepth 20000 in
theorem gL_isBook_X2_lines : GoodIn wsL_isBook (wsV RL 63 RX2 yX2_lines wsX2_lines) := goodIn_app (goodIn_of _ (by decide +kernel)) ggL_isBook_X2_lines
set_option maxRecDepth 20000 in
theorem ggL_isBook_X2_vouchers : GoodIn wsL_isBook wsX2_vouchers := goodIn_r _ [14, 15, 167, 168, 169, 170, 171, 172, 173, 174, 175, 176, 177, 178, 179] (by decide +kernel) (by decide +kernel)
set_option maxRecDepth 20000 in
theorem gL_isBook_X2_vouchers : GoodIn wsL_isBook (wsV RL 67 RX2 yX2_vouchers wsX2_vouchers) := goodIn_app (goodIn_of _ (by decide +kernel)) ggL_isBook_X2_vouchers
set_option maxRecDepth 20000 in
theorem ggL_isBook_X2_claims : GoodIn wsL_isBook wsX2_claims := goodIn_r _ [19, 20, 167, 168, 169, 170, 171, 172, 173, 174, 175, 176, 177, 178, 179] (by decide +kernel) (by decide +kernel)
set_option maxRecDepth 20000 in
theorem gL_isBook_X2_claims : GoodIn wsL_isBook (wsV RL 70 RX2 yX2_claims wsX2_claims) := goodIn_app (goodIn_of _ (by decide +kernel)) ggL_isBook_X2_claims
set_option maxRecDepth 20000 in
theorem ggL_isBook_X2_unsettled : GoodIn wsL_isBook wsX2_unsettled := goodIn_r _ [24, 20, 25, 26, 27, 28, 29, 8, 30, 31, 32, 33, 34, 35, 36, 37, 38, 39, 40, 41, 42, 43, 44, 45, 46, 47, 48, 49, 50, 51, 52, 53, 54, 55, 56, 57, 58, 59, 60, 61, 62, 63, 64, 65, 66, 67, 167, 168, 169, 170, 171, 172, 173, 174, 175, 176, 177, 178, 179, 180, 181, 182, 183, 184, 185, 186, 187, 188, 189, 190, 191, 192] (by decide +kernel) (by decide +kernel)
set_option maxRecDepth 20000 in
theorem gL_isBook_X2_unsettled : GoodIn wsL_isBook (wsV RL 73 RX2 yX2_unsettled wsX2_unsettled) := goodIn_app (goodIn_of _ (by decide +kernel)) ggL_isBook_X2_unsettled
set_option maxRecDepth 20000 in
theorem ggL_isBook_L_earned : GoodIn wsL_isBook wsL_earned := goodIn_r _ [71, 72, 73, 74, 70, 75, 76, 77, 78, 79, 80, 81, 82, 83, 84, 85, 86, 87] (by decide +kernel) (by decide +kernel)
set_option maxRecDepth 20000 in
theorem gL_isBook_L_earned : GoodIn wsL_isBook (va_wsS RL 76 yL_earned wsL_earned) := goodIn_app (goodIn_of _ (by decide +kernel)) ggL_isBook_L_earned
set_option maxRecDepth 20000 in
theorem ggL_isBook_L_eligible : GoodIn wsL_isBook wsL_eligible := goodIn_r _ [78, 79, 80, 70, 81, 82, 83, 84] (by decide +kernel) (by decide +kernel)
set_option maxRecDepth 20000 in
theorem gL_isBook_L_eligible : GoodIn wsL_isBook (va_wsS RL 17 yL_eligible wsL_eligible) := goodIn_app (goodIn_of _ (by decide +kernel)) ggL_isBook_L_eligible
set_option maxRecDepth 20000 in
theorem ggL_isBook_X2_fits : GoodIn wsL_isBook wsX2_fits := goodIn_ca (goodIn_r _ [91, 92, 93, 94, 95, 8, 96, 97, 98, 99, 100, 101, 102, 56, 103, 104, 59, 105, 106, 187, 188, 189, 190, 191, 192, 167, 168, 169, 170, 171, 172, 173, 174, 175, 176, 177, 178, 179, 180, 181, 182, 183, 184, 185, 186] (by decide +kernel) (by decide +kernel)) (goodIn_sub (fun _ h => List.mem_cons_of_mem _ (List.mem_append_left _ (List.mem_append_right _ h))) (by decide +kernel))
set_option maxRecDepth 20000 in
theorem gL_isBook_X2_fits : GoodIn wsL_isBook (wsV RL 80 RX2 yX2_fits wsX2_fits) := goodIn_app (goodIn_of _ (by decide +kernel)) ggL_isBook_X2_fits
set_option maxRecDepth 20000 in
theorem ggL_isBook_L_fits : GoodIn wsL_isBook wsL_fits := goodIn_r _ [81] (by decide +kernel) (by decide +kernel)
set_option maxRecDepth 20000 in
theorem gL_isBook_L_fits : GoodIn wsL_isBook (va_wsS RL 7 yL_fits wsL_fits) := goodIn_app (goodIn_of _ (by decide +kernel)) ggL_isBook_L_fits
set_option maxRecDepth 20000 in
theorem ggL_isBook_X2_eligible : GoodIn wsL_isBook wsX2_eligible := goodIn_ca (goodIn_r _ [110, 111, 93, 94, 95, 8, 96, 97, 98, 99, 187, 188, 189, 190, 191, 192, 167, 168, 169, 170, 171, 172, 173, 174, 175, 176, 177, 178, 179] (by decide +kernel) (by decide +kernel)) (goodIn_sub (fun _ h => List.mem_cons_of_mem _ (List.mem_append_left _ (List.mem_append_right _ h))) (by decide +kernel))
set_option maxRecDepth 20000 in
theorem gL_isBook_X2_eligible : GoodIn wsL_isBook (wsV RL 83 RX2 yX2_eligible wsX2_eligible) := goodIn_app (goodIn_of _ (by decide +kernel)) ggL_isBook_X2_eligible
set_option maxRecDepth 20000 in
theorem ggL_isBook_X2_room : GoodIn wsL_isBook wsX2_room := goodIn_ca (goodIn_r _ [115, 116, 117, 118, 8, 119, 97, 98, 51, 120, 121, 122, 56, 123, 124, 125, 126, 167, 168, 169, 170, 171, 172, 173, 174, 175, 176, 177, 178, 179, 180, 181, 182, 183, 184, 185, 186] (by decide +kernel) (by decide +kernel)) (goodIn_sub (fun _ h => List.mem_cons_of_mem _ (List.mem_append_left _ (List.mem_append_right _ h))) (by decide +kernel))
set_option maxRecDepth 20000 in
theorem gL_isBook_X2_room : GoodIn wsL_isBook (wsV RL 85 RX2 yX2_room wsX2_room) := goodIn_app (goodIn_of _ (by decide +kernel)) ggL_isBook_X2_room
set_option maxRecDepth 20000 in
theorem ggL_isBook_L_room : GoodIn wsL_isBook wsL_room := goodIn_r _ [84] (by decide +kernel) (by decide +kernel)
set_option maxRecDepth 20000 in
theorem gL_isBook_L_room : GoodIn wsL_isBook (va_wsS RL 13 yL_room wsL_room) := goodIn_app (goodIn_of _ (by decide +kernel)) ggL_isBook_L_room
set_option maxRecDepth 20000 in
theorem ggL_isBook_X2_left : GoodIn wsL_isBook wsX2_left := goodIn_ca (goodIn_r _ [130, 116, 117, 118, 8, 119, 97, 98, 51, 120, 121, 122, 56, 123, 124, 125, 126, 53, 54, 55, 57, 58, 59, 60, 61, 167, 168, 169, 170, 171, 172, 173, 174, 175, 176, 177, 178, 179, 180, 181, 182, 183, 184, 185, 186, 187, 188, 189, 190, 191, 192] (by decide +kernel) (by decide +kernel)) (goodIn_sub (fun _ h => List.mem_cons_of_mem _ (List.mem_append_left _ (List.mem_append_right _ h))) (by decide +kernel))
set_option maxRecDepth 20000 in
theorem gL_isBook_X2_left : GoodIn wsL_isBook (wsV RL 87 RX2 yX2_left wsX2_left) := goodIn_app (goodIn_of _ (by decide +kernel)) ggL_isBook_X2_left
set_option maxRecDepth 20000 in
theorem ggL_isBook_X2_paid : GoodIn wsL_isBook wsX2_paid := goodIn_ca (goodIn_r _ [134, 97, 98, 20, 135, 167, 168, 169, 170, 171, 172, 173, 174, 175, 176, 177, 178, 179] (by decide +kernel) (by decide +kernel)) (goodIn_sub (fun _ h => List.mem_cons_of_mem _ (List.mem_append_left _ (List.mem_append_right _ h))) (by decide +kernel))
set_option maxRecDepth 20000 in
theorem gL_isBook_X2_paid : GoodIn wsL_isBook (wsV RL 90 RX2 yX2_paid wsX2_paid) := goodIn_app (goodIn_of _ (by decide +kernel)) ggL_isBook_X2_paid
set_option maxRecDepth 20000 in
theorem ggL_isBook_X2_costs : GoodIn wsL_isBook wsX2_costs := goodIn_ca (goodIn_r _ [139, 140, 141, 8, 142, 143, 144, 145, 146, 147, 43, 44, 45, 46, 47, 48, 49, 50, 51, 52, 53, 54, 55, 56, 57, 58, 59, 60, 61, 167, 168, 169, 170, 171, 172, 173, 174, 175, 176, 177, 178, 179, 180, 181, 182, 183, 184, 185, 186, 187, 188, 189, 190, 191, 192] (by decide +kernel) (by decide +kernel)) (goodIn_sub (fun _ h => List.mem_cons_of_mem _ (List.mem_append_right _ h)) (by decide +kernel))
set_option maxRecDepth 20000 in
theorem gL_isBook_X2_costs : GoodIn wsL_isBook (wsV RL 99 RX2 yX2_costs wsX2_costs) := goodIn_app (goodIn_of _ (by decide +kernel)) ggL_isBook_X2_costs
set_option maxRecDepth 20000 in
theorem ggL_isBook_L_sum : GoodIn wsL_isBook wsL_sum := goodIn_r _ [75, 76, 77, 70, 78, 79, 80, 81, 82, 83, 84] (by decide +kernel) (by decide +kernel)
set_option maxRecDepth 20000 in
theorem gL_isBook_L_sum : GoodIn wsL_isBook (va_wsS RL 21 yL_sum wsL_sum) := goodIn_app (goodIn_of _ (by decide +kernel)) ggL_isBook_L_sum
set_option maxRecDepth 20000 in
theorem ggL_isBook_X2_overhead : GoodIn wsL_isBook wsX2_overhead := goodIn_ca (goodIn_r _ [151, 140, 141, 8, 142, 143, 144, 145, 146, 147, 62, 63, 64, 65, 66, 41, 67, 33, 34, 35, 36, 47, 48, 49, 50, 51, 52, 53, 54, 55, 56, 57, 58, 59, 60, 61, 167, 168, 169, 170, 171, 172, 173, 174, 175, 176, 177, 178, 179, 180, 181, 182, 183, 184, 185, 186, 187, 188, 189, 190, 191, 192] (by decide +kernel) (by decide +kernel)) (goodIn_sub (fun _ h => List.mem_cons_of_mem _ (List.mem_append_right _ h)) (by decide +kernel))
set_option maxRecDepth 20000 in
theorem gL_isBook_X2_overhead : GoodIn wsL_isBook (wsV RL 102 RX2 yX2_overhead wsX2_overhead) := goodIn_app (goodIn_of _ (by decide +kernel)) ggL_isBook_X2_overhead
set_option maxRecDepth 20000 in
theorem ggL_isBook_L_overhead : GoodIn wsL_isBook wsL_overhead := goodIn_r _ [87, 72, 73, 74, 70, 75, 76, 77, 78, 79, 80, 81, 82, 83, 84] (by decide +kernel) (by decide +kernel)
set_option maxRecDepth 20000 in
theorem gL_isBook_L_overhead : GoodIn wsL_isBook (va_wsS RL 27 yL_overhead wsL_overhead) := goodIn_app (goodIn_of _ (by decide +kernel)) ggL_isBook_L_overhead
set_option maxRecDepth 20000 in
theorem ggL_isBook_X2_earned : GoodIn wsL_isBook wsX2_earned := goodIn_ca (goodIn_r _ [155, 140, 141, 8, 142, 143, 144, 145, 146, 147, 27, 28, 29, 30, 31, 32, 33, 34, 35, 36, 37, 38, 39, 40, 41, 42, 43, 44, 45, 46, 47, 48, 49, 50, 51, 52, 53, 54, 55, 56, 57, 58, 59, 60, 61, 62, 63, 64, 65, 66, 67, 167, 168, 169, 170, 171, 172, 173, 174, 175, 176, 177, 178, 179, 180, 181, 182, 183, 184, 185, 186, 187, 188, 189, 190, 191, 192] (by decide +kernel) (by decide +kernel)) (goodIn_sub (fun _ h => List.mem_cons_of_mem _ (List.mem_append_right _ h)) (by decide +kernel))
set_option maxRecDepth 20000 in
theorem gL_isBook_X2_earned : GoodIn wsL_isBook (wsV RL 104 RX2 yX2_earned wsX2_earned) := goodIn_app (goodIn_of _ (by decide +kernel)) ggL_isBook_X2_earned
set_option maxRecDepth 20000 in
theorem ggL_isBook_X2_missingMatch : GoodIn wsL_isBook wsX2_missingMatch := goodIn_ca (goodIn_r _ [159, 32, 160, 161, 35, 162, 140, 141, 8, 142, 143, 144, 145, 146, 147, 37, 38, 39, 40, 31, 41, 42, 33, 34, 36, 43, 44, 45, 46, 47, 48, 49, 50, 51, 52, 53, 54, 55, 56, 57, 58, 59, 60, 61, 62, 63, 64, 65, 66, 67, 163, 164, 165, 166, 167, 168, 169, 170, 171, 172, 173, 174, 175, 176, 177, 178, 179, 180, 181, 182, 183, 184, 185, 186, 187, 188, 189, 190, 191, 192] (by decide +kernel) (by decide +kernel)) (goodIn_sub (fun _ h => List.mem_cons_of_mem _ (List.mem_append_right _ h)) (by decide +kernel))
set_option maxRecDepth 20000 in
theorem gL_isBook_X2_missingMatch : GoodIn wsL_isBook (wsV RL 106 RX2 yX2_missingMatch wsX2_missingMatch) := goodIn_app (goodIn_of _ (by decide +kernel)) ggL_isBook_X2_missingMatch
theorem dL_isBook_0 : decode cL_isBook 0 = .ok (.aload_n 0, 1) := by decide +kernel
theorem dL_isBook_1 : decode cL_isBook 1 = .ok (.invokevirtual 63, 3) := by decide +kernel
theorem dL_isBook_4 : decode cL_isBook 4 = .ok (.aload_n 1, 1) := by decide +kernel
theorem dL_isBook_5 : decode cL_isBook 5 = .ok (.iconst 4, 1) := by decide +kernel
theorem dL_isBook_6 : decode cL_isBook 6 = .ok (.iaload, 1) := by decide +kernel
theorem dL_isBook_7 : decode cL_isBook 7 = .ok (.if_icmp .ne 70, 3) := by decide +kernel
theorem dL_isBook_10 : decode cL_isBook 10 = .ok (.aload_n 0, 1) := by decide +kernel
theorem dL_isBook_11 : decode cL_isBook 11 = .ok (.invokevirtual 67, 3) := by decide +kernel
theorem dL_isBook_14 : decode cL_isBook 14 = .ok (.aload_n 1, 1) := by decide +kernel
theorem dL_isBook_15 : decode cL_isBook 15 = .ok (.iconst 5, 1) := by decide +kernel
theorem dL_isBook_16 : decode cL_isBook 16 = .ok (.iaload, 1) := by decide +kernel
theorem dL_isBook_17 : decode cL_isBook 17 = .ok (.if_icmp .ne 60, 3) := by decide +kernel
theorem dL_isBook_20 : decode cL_isBook 20 = .ok (.aload_n 0, 1) := by decide +kernel
theorem dL_isBook_21 : decode cL_isBook 21 = .ok (.invokevirtual 70, 3) := by decide +kernel
theorem dL_isBook_24 : decode cL_isBook 24 = .ok (.aload_n 1, 1) := by decide +kernel
theorem dL_isBook_25 : decode cL_isBook 25 = .ok (.bipush 7, 2) := by decide +kernel
theorem dL_isBook_27 : decode cL_isBook 27 = .ok (.iaload, 1) := by decide +kernel
theorem dL_isBook_28 : decode cL_isBook 28 = .ok (.if_icmp .ne 49, 3) := by decide +kernel
theorem dL_isBook_31 : decode cL_isBook 31 = .ok (.aload_n 0, 1) := by decide +kernel
theorem dL_isBook_32 : decode cL_isBook 32 = .ok (.invokevirtual 73, 3) := by decide +kernel
theorem dL_isBook_35 : decode cL_isBook 35 = .ok (.aload_n 1, 1) := by decide +kernel
theorem dL_isBook_36 : decode cL_isBook 36 = .ok (.bipush 7, 2) := by decide +kernel
theorem dL_isBook_38 : decode cL_isBook 38 = .ok (.iaload, 1) := by decide +kernel
theorem dL_isBook_39 : decode cL_isBook 39 = .ok (.ifCond .ne 7, 3) := by decide +kernel
theorem dL_isBook_42 : decode cL_isBook 42 = .ok (.iconst 0, 1) := by decide +kernel
theorem dL_isBook_43 : decode cL_isBook 43 = .ok (.goto 27, 3) := by decide +kernel
theorem dL_isBook_46 : decode cL_isBook 46 = .ok (.aload_n 1, 1) := by decide +kernel
theorem dL_isBook_47 : decode cL_isBook 47 = .ok (.aload_n 2, 1) := by decide +kernel
theorem dL_isBook_48 : decode cL_isBook 48 = .ok (.aload_n 3, 1) := by decide +kernel
theorem dL_isBook_49 : decode cL_isBook 49 = .ok (.aload 4, 2) := by decide +kernel
theorem dL_isBook_51 : decode cL_isBook 51 = .ok (.aload 5, 2) := by decide +kernel
theorem dL_isBook_53 : decode cL_isBook 53 = .ok (.aload_n 1, 1) := by decide +kernel
theorem dL_isBook_54 : decode cL_isBook 54 = .ok (.bipush 8, 2) := by decide +kernel
theorem dL_isBook_56 : decode cL_isBook 56 = .ok (.iaload, 1) := by decide +kernel
theorem dL_isBook_57 : decode cL_isBook 57 = .ok (.aload_n 1, 1) := by decide +kernel
theorem dL_isBook_58 : decode cL_isBook 58 = .ok (.bipush 6, 2) := by decide +kernel
theorem dL_isBook_60 : decode cL_isBook 60 = .ok (.iaload, 1) := by decide +kernel
theorem dL_isBook_61 : decode cL_isBook 61 = .ok (.i2l, 1) := by decide +kernel
theorem dL_isBook_62 : decode cL_isBook 62 = .ok (.invokestatic 76, 3) := by decide +kernel
theorem dL_isBook_65 : decode cL_isBook 65 = .ok (.aload_n 1, 1) := by decide +kernel
theorem dL_isBook_66 : decode cL_isBook 66 = .ok (.bipush 9, 2) := by decide +kernel
theorem dL_isBook_68 : decode cL_isBook 68 = .ok (.iaload, 1) := by decide +kernel
theorem dL_isBook_69 : decode cL_isBook 69 = .ok (.isub, 1) := by decide +kernel
theorem dL_isBook_70 : decode cL_isBook 70 = .ok (.if_icmp .ne 7, 3) := by decide +kernel
theorem dL_isBook_73 : decode cL_isBook 73 = .ok (.iconst 1, 1) := by decide +kernel
theorem dL_isBook_74 : decode cL_isBook 74 = .ok (.goto 4, 3) := by decide +kernel
theorem dL_isBook_77 : decode cL_isBook 77 = .ok (.iconst 0, 1) := by decide +kernel
theorem dL_isBook_78 : decode cL_isBook 78 = .ok (.istore 8, 2) := by decide +kernel
theorem dL_isBook_80 : decode cL_isBook 80 = .ok (.bipush 6, 2) := by decide +kernel
theorem dL_isBook_82 : decode cL_isBook 82 = .ok (.newarray .int, 2) := by decide +kernel
theorem dL_isBook_84 : decode cL_isBook 84 = .ok (.astore 9, 2) := by decide +kernel
theorem dL_isBook_86 : decode cL_isBook 86 = .ok (.iconst 0, 1) := by decide +kernel
theorem dL_isBook_87 : decode cL_isBook 87 = .ok (.istore 10, 2) := by decide +kernel
theorem dL_isBook_89 : decode cL_isBook 89 = .ok (.iload 10, 2) := by decide +kernel
theorem dL_isBook_91 : decode cL_isBook 91 = .ok (.aload_n 1, 1) := by decide +kernel
theorem dL_isBook_92 : decode cL_isBook 92 = .ok (.iconst 5, 1) := by decide +kernel
theorem dL_isBook_93 : decode cL_isBook 93 = .ok (.iaload, 1) := by decide +kernel
theorem dL_isBook_94 : decode cL_isBook 94 = .ok (.if_icmp .ge 80, 3) := by decide +kernel
theorem dL_isBook_97 : decode cL_isBook 97 = .ok (.iload 8, 2) := by decide +kernel
theorem dL_isBook_99 : decode cL_isBook 99 = .ok (.ifCond .eq 75, 3) := by decide +kernel
theorem dL_isBook_102 : decode cL_isBook 102 = .ok (.aload_n 1, 1) := by decide +kernel
theorem dL_isBook_103 : decode cL_isBook 103 = .ok (.aload_n 2, 1) := by decide +kernel
theorem dL_isBook_104 : decode cL_isBook 104 = .ok (.aload_n 3, 1) := by decide +kernel
theorem dL_isBook_105 : decode cL_isBook 105 = .ok (.aload 4, 2) := by decide +kernel
theorem dL_isBook_107 : decode cL_isBook 107 = .ok (.aload 5, 2) := by decide +kernel
theorem dL_isBook_109 : decode cL_isBook 109 = .ok (.iload 10, 2) := by decide +kernel
theorem dL_isBook_111 : decode cL_isBook 111 = .ok (.invokestatic 17, 3) := by decide +kernel
theorem dL_isBook_114 : decode cL_isBook 114 = .ok (.istore 11, 2) := by decide +kernel
theorem dL_isBook_116 : decode cL_isBook 116 = .ok (.aload 9, 2) := by decide +kernel
theorem dL_isBook_118 : decode cL_isBook 118 = .ok (.aload 5, 2) := by decide +kernel
theorem dL_isBook_120 : decode cL_isBook 120 = .ok (.iload 10, 2) := by decide +kernel
theorem dL_isBook_122 : decode cL_isBook 122 = .ok (.iaload, 1) := by decide +kernel
theorem dL_isBook_123 : decode cL_isBook 123 = .ok (.bipush 100, 2) := by decide +kernel
theorem dL_isBook_125 : decode cL_isBook 125 = .ok (.irem, 1) := by decide +kernel
theorem dL_isBook_126 : decode cL_isBook 126 = .ok (.dup2, 1) := by decide +kernel
theorem dL_isBook_127 : decode cL_isBook 127 = .ok (.iaload, 1) := by decide +kernel
theorem dL_isBook_128 : decode cL_isBook 128 = .ok (.iload 11, 2) := by decide +kernel
theorem dL_isBook_130 : decode cL_isBook 130 = .ok (.iadd, 1) := by decide +kernel
theorem dL_isBook_131 : decode cL_isBook 131 = .ok (.iastore, 1) := by decide +kernel
theorem dL_isBook_132 : decode cL_isBook 132 = .ok (.aload_n 0, 1) := by decide +kernel
theorem dL_isBook_133 : decode cL_isBook 133 = .ok (.iload 10, 2) := by decide +kernel
theorem dL_isBook_135 : decode cL_isBook 135 = .ok (.invokevirtual 80, 3) := by decide +kernel
theorem dL_isBook_138 : decode cL_isBook 138 = .ok (.aload_n 2, 1) := by decide +kernel
theorem dL_isBook_139 : decode cL_isBook 139 = .ok (.aload_n 3, 1) := by decide +kernel
theorem dL_isBook_140 : decode cL_isBook 140 = .ok (.aload 5, 2) := by decide +kernel
theorem dL_isBook_142 : decode cL_isBook 142 = .ok (.iload 10, 2) := by decide +kernel
theorem dL_isBook_144 : decode cL_isBook 144 = .ok (.invokestatic 7, 3) := by decide +kernel
theorem dL_isBook_147 : decode cL_isBook 147 = .ok (.if_icmp .ne 18, 3) := by decide +kernel
theorem dL_isBook_150 : decode cL_isBook 150 = .ok (.aload_n 0, 1) := by decide +kernel
theorem dL_isBook_151 : decode cL_isBook 151 = .ok (.iload 10, 2) := by decide +kernel
theorem dL_isBook_153 : decode cL_isBook 153 = .ok (.invokevirtual 83, 3) := by decide +kernel
theorem dL_isBook_156 : decode cL_isBook 156 = .ok (.iload 11, 2) := by decide +kernel
theorem dL_isBook_158 : decode cL_isBook 158 = .ok (.if_icmp .ne 7, 3) := by decide +kernel
theorem dL_isBook_161 : decode cL_isBook 161 = .ok (.iconst 1, 1) := by decide +kernel
theorem dL_isBook_162 : decode cL_isBook 162 = .ok (.goto 4, 3) := by decide +kernel
theorem dL_isBook_165 : decode cL_isBook 165 = .ok (.iconst 0, 1) := by decide +kernel
theorem dL_isBook_166 : decode cL_isBook 166 = .ok (.istore 8, 2) := by decide +kernel
theorem dL_isBook_168 : decode cL_isBook 168 = .ok (.iinc 10 1, 3) := by decide +kernel
theorem dL_isBook_171 : decode cL_isBook 171 = .ok (.goto (-82), 3) := by decide +kernel
theorem dL_isBook_174 : decode cL_isBook 174 = .ok (.iconst 0, 1) := by decide +kernel
theorem dL_isBook_175 : decode cL_isBook 175 = .ok (.istore 10, 2) := by decide +kernel
theorem dL_isBook_177 : decode cL_isBook 177 = .ok (.iload 10, 2) := by decide +kernel
theorem dL_isBook_179 : decode cL_isBook 179 = .ok (.aload_n 1, 1) := by decide +kernel
theorem dL_isBook_180 : decode cL_isBook 180 = .ok (.iconst 4, 1) := by decide +kernel
theorem dL_isBook_181 : decode cL_isBook 181 = .ok (.iaload, 1) := by decide +kernel
theorem dL_isBook_182 : decode cL_isBook 182 = .ok (.if_icmp .ge 57, 3) := by decide +kernel
theorem dL_isBook_185 : decode cL_isBook 185 = .ok (.iload 8, 2) := by decide +kernel
theorem dL_isBook_187 : decode cL_isBook 187 = .ok (.ifCond .eq 52, 3) := by decide +kernel
theorem dL_isBook_190 : decode cL_isBook 190 = .ok (.aload_n 0, 1) := by decide +kernel
theorem dL_isBook_191 : decode cL_isBook 191 = .ok (.iload 10, 2) := by decide +kernel
theorem dL_isBook_193 : decode cL_isBook 193 = .ok (.invokevirtual 85, 3) := by decide +kernel
theorem dL_isBook_196 : decode cL_isBook 196 = .ok (.aload_n 2, 1) := by decide +kernel
theorem dL_isBook_197 : decode cL_isBook 197 = .ok (.iload 10, 2) := by decide +kernel
theorem dL_isBook_199 : decode cL_isBook 199 = .ok (.invokestatic 13, 3) := by decide +kernel
theorem dL_isBook_202 : decode cL_isBook 202 = .ok (.if_icmp .ne 28, 3) := by decide +kernel
theorem dL_isBook_205 : decode cL_isBook 205 = .ok (.aload_n 0, 1) := by decide +kernel
theorem dL_isBook_206 : decode cL_isBook 206 = .ok (.iload 10, 2) := by decide +kernel
theorem dL_isBook_208 : decode cL_isBook 208 = .ok (.invokevirtual 87, 3) := by decide +kernel
theorem dL_isBook_211 : decode cL_isBook 211 = .ok (.aload_n 2, 1) := by decide +kernel
theorem dL_isBook_212 : decode cL_isBook 212 = .ok (.iload 10, 2) := by decide +kernel
theorem dL_isBook_214 : decode cL_isBook 214 = .ok (.invokestatic 13, 3) := by decide +kernel
theorem dL_isBook_217 : decode cL_isBook 217 = .ok (.aload 9, 2) := by decide +kernel
theorem dL_isBook_219 : decode cL_isBook 219 = .ok (.iload 10, 2) := by decide +kernel
theorem dL_isBook_221 : decode cL_isBook 221 = .ok (.iaload, 1) := by decide +kernel
theorem dL_isBook_222 : decode cL_isBook 222 = .ok (.isub, 1) := by decide +kernel
theorem dL_isBook_223 : decode cL_isBook 223 = .ok (.if_icmp .ne 7, 3) := by decide +kernel
theorem dL_isBook_226 : decode cL_isBook 226 = .ok (.iconst 1, 1) := by decide +kernel
theorem dL_isBook_227 : decode cL_isBook 227 = .ok (.goto 4, 3) := by decide +kernel
theorem dL_isBook_230 : decode cL_isBook 230 = .ok (.iconst 0, 1) := by decide +kernel
theorem dL_isBook_231 : decode cL_isBook 231 = .ok (.istore 8, 2) := by decide +kernel
theorem dL_isBook_233 : decode cL_isBook 233 = .ok (.iinc 10 1, 3) := by decide +kernel
theorem dL_isBook_236 : decode cL_isBook 236 = .ok (.goto (-59), 3) := by decide +kernel
theorem dL_isBook_239 : decode cL_isBook 239 = .ok (.iconst 0, 1) := by decide +kernel
theorem dL_isBook_240 : decode cL_isBook 240 = .ok (.istore 10, 2) := by decide +kernel
theorem dL_isBook_242 : decode cL_isBook 242 = .ok (.iload 10, 2) := by decide +kernel
theorem dL_isBook_244 : decode cL_isBook 244 = .ok (.aload_n 1, 1) := by decide +kernel
theorem dL_isBook_245 : decode cL_isBook 245 = .ok (.bipush 7, 2) := by decide +kernel
theorem dL_isBook_247 : decode cL_isBook 247 = .ok (.iaload, 1) := by decide +kernel
theorem dL_isBook_248 : decode cL_isBook 248 = .ok (.if_icmp .ge 35, 3) := by decide +kernel
theorem dL_isBook_251 : decode cL_isBook 251 = .ok (.iload 8, 2) := by decide +kernel
theorem dL_isBook_253 : decode cL_isBook 253 = .ok (.ifCond .eq 30, 3) := by decide +kernel
theorem dL_isBook_256 : decode cL_isBook 256 = .ok (.aload_n 0, 1) := by decide +kernel
theorem dL_isBook_257 : decode cL_isBook 257 = .ok (.iload 10, 2) := by decide +kernel
theorem dL_isBook_259 : decode cL_isBook 259 = .ok (.invokevirtual 90, 3) := by decide +kernel
theorem dL_isBook_262 : decode cL_isBook 262 = .ok (.aload 6, 2) := by decide +kernel
theorem dL_isBook_264 : decode cL_isBook 264 = .ok (.iload 10, 2) := by decide +kernel
theorem dL_isBook_266 : decode cL_isBook 266 = .ok (.iaload, 1) := by decide +kernel
theorem dL_isBook_267 : decode cL_isBook 267 = .ok (.if_icmp .ne 7, 3) := by decide +kernel
theorem dL_isBook_270 : decode cL_isBook 270 = .ok (.iconst 1, 1) := by decide +kernel
theorem dL_isBook_271 : decode cL_isBook 271 = .ok (.goto 4, 3) := by decide +kernel
theorem dL_isBook_274 : decode cL_isBook 274 = .ok (.iconst 0, 1) := by decide +kernel
theorem dL_isBook_275 : decode cL_isBook 275 = .ok (.istore 8, 2) := by decide +kernel
theorem dL_isBook_277 : decode cL_isBook 277 = .ok (.iinc 10 1, 3) := by decide +kernel
theorem dL_isBook_280 : decode cL_isBook 280 = .ok (.goto (-38), 3) := by decide +kernel
theorem dL_isBook_283 : decode cL_isBook 283 = .ok (.iload 7, 2) := by decide +kernel
theorem dL_isBook_285 : decode cL_isBook 285 = .ok (.bipush 100, 2) := by decide +kernel
theorem dL_isBook_287 : decode cL_isBook 287 = .ok (.irem, 1) := by decide +kernel
theorem dL_isBook_288 : decode cL_isBook 288 = .ok (.iconst 5, 1) := by decide +kernel
theorem dL_isBook_289 : decode cL_isBook 289 = .ok (.imul, 1) := by decide +kernel
theorem dL_isBook_290 : decode cL_isBook 290 = .ok (.istore 10, 2) := by decide +kernel
theorem dL_isBook_292 : decode cL_isBook 292 = .ok (.aload_n 1, 1) := by decide +kernel
theorem dL_isBook_293 : decode cL_isBook 293 = .ok (.aload_n 2, 1) := by decide +kernel
theorem dL_isBook_294 : decode cL_isBook 294 = .ok (.aload_n 3, 1) := by decide +kernel
theorem dL_isBook_295 : decode cL_isBook 295 = .ok (.aload 4, 2) := by decide +kernel
theorem dL_isBook_297 : decode cL_isBook 297 = .ok (.aload 5, 2) := by decide +kernel
theorem dL_isBook_299 : decode cL_isBook 299 = .ok (.iload 10, 2) := by decide +kernel
theorem dL_isBook_301 : decode cL_isBook 301 = .ok (.ldc2_w 93, 3) := by decide +kernel
theorem dL_isBook_304 : decode cL_isBook 304 = .ok (.invokestatic 76, 3) := by decide +kernel
theorem dL_isBook_307 : decode cL_isBook 307 = .ok (.istore 11, 2) := by decide +kernel
theorem dL_isBook_309 : decode cL_isBook 309 = .ok (.lconst 0, 1) := by decide +kernel
theorem dL_isBook_310 : decode cL_isBook 310 = .ok (.lstore 12, 2) := by decide +kernel
theorem dL_isBook_312 : decode cL_isBook 312 = .ok (.ldc2_w 95, 3) := by decide +kernel
theorem dL_isBook_315 : decode cL_isBook 315 = .ok (.lstore 14, 2) := by decide +kernel
theorem dL_isBook_317 : decode cL_isBook 317 = .ok (.lload 12, 2) := by decide +kernel
theorem dL_isBook_319 : decode cL_isBook 319 = .ok (.lload 14, 2) := by decide +kernel
theorem dL_isBook_321 : decode cL_isBook 321 = .ok (.lcmp, 1) := by decide +kernel
theorem dL_isBook_322 : decode cL_isBook 322 = .ok (.ifCond .ge 73, 3) := by decide +kernel
theorem dL_isBook_325 : decode cL_isBook 325 = .ok (.lload 12, 2) := by decide +kernel
theorem dL_isBook_327 : decode cL_isBook 327 = .ok (.lload 14, 2) := by decide +kernel
theorem dL_isBook_329 : decode cL_isBook 329 = .ok (.ladd, 1) := by decide +kernel
theorem dL_isBook_330 : decode cL_isBook 330 = .ok (.ldc2_w 97, 3) := by decide +kernel
theorem dL_isBook_333 : decode cL_isBook 333 = .ok (.ldiv, 1) := by decide +kernel
theorem dL_isBook_334 : decode cL_isBook 334 = .ok (.lstore 16, 2) := by decide +kernel
theorem dL_isBook_336 : decode cL_isBook 336 = .ok (.aload_n 1, 1) := by decide +kernel
theorem dL_isBook_337 : decode cL_isBook 337 = .ok (.aload_n 2, 1) := by decide +kernel
theorem dL_isBook_338 : decode cL_isBook 338 = .ok (.aload_n 3, 1) := by decide +kernel
theorem dL_isBook_339 : decode cL_isBook 339 = .ok (.aload 4, 2) := by decide +kernel
theorem dL_isBook_341 : decode cL_isBook 341 = .ok (.aload 5, 2) := by decide +kernel
theorem dL_isBook_343 : decode cL_isBook 343 = .ok (.iload 10, 2) := by decide +kernel
theorem dL_isBook_345 : decode cL_isBook 345 = .ok (.lload 16, 2) := by decide +kernel
theorem dL_isBook_347 : decode cL_isBook 347 = .ok (.invokestatic 76, 3) := by decide +kernel
theorem dL_isBook_350 : decode cL_isBook 350 = .ok (.iload 11, 2) := by decide +kernel
theorem dL_isBook_352 : decode cL_isBook 352 = .ok (.if_icmp .ne 7, 3) := by decide +kernel
theorem dL_isBook_355 : decode cL_isBook 355 = .ok (.iconst 1, 1) := by decide +kernel
theorem dL_isBook_356 : decode cL_isBook 356 = .ok (.goto 4, 3) := by decide +kernel
theorem dL_isBook_359 : decode cL_isBook 359 = .ok (.iconst 0, 1) := by decide +kernel
theorem dL_isBook_360 : decode cL_isBook 360 = .ok (.istore 18, 2) := by decide +kernel
theorem dL_isBook_362 : decode cL_isBook 362 = .ok (.iload 18, 2) := by decide +kernel
theorem dL_isBook_364 : decode cL_isBook 364 = .ok (.ifCond .eq 8, 3) := by decide +kernel
theorem dL_isBook_367 : decode cL_isBook 367 = .ok (.lload 16, 2) := by decide +kernel
theorem dL_isBook_369 : decode cL_isBook 369 = .ok (.goto 5, 3) := by decide +kernel
theorem dL_isBook_372 : decode cL_isBook 372 = .ok (.lload 14, 2) := by decide +kernel
theorem dL_isBook_374 : decode cL_isBook 374 = .ok (.lstore 14, 2) := by decide +kernel
theorem dL_isBook_376 : decode cL_isBook 376 = .ok (.iload 18, 2) := by decide +kernel
theorem dL_isBook_378 : decode cL_isBook 378 = .ok (.ifCond .eq 8, 3) := by decide +kernel
theorem dL_isBook_381 : decode cL_isBook 381 = .ok (.lload 12, 2) := by decide +kernel
theorem dL_isBook_383 : decode cL_isBook 383 = .ok (.goto 7, 3) := by decide +kernel
theorem dL_isBook_386 : decode cL_isBook 386 = .ok (.lload 16, 2) := by decide +kernel
theorem dL_isBook_388 : decode cL_isBook 388 = .ok (.lconst 1, 1) := by decide +kernel
theorem dL_isBook_389 : decode cL_isBook 389 = .ok (.ladd, 1) := by decide +kernel
theorem dL_isBook_390 : decode cL_isBook 390 = .ok (.lstore 12, 2) := by decide +kernel
theorem dL_isBook_392 : decode cL_isBook 392 = .ok (.goto (-75), 3) := by decide +kernel
theorem dL_isBook_395 : decode cL_isBook 395 = .ok (.iload 8, 2) := by decide +kernel
theorem dL_isBook_397 : decode cL_isBook 397 = .ok (.ifCond .eq 110, 3) := by decide +kernel
theorem dL_isBook_400 : decode cL_isBook 400 = .ok (.aload_n 0, 1) := by decide +kernel
theorem dL_isBook_401 : decode cL_isBook 401 = .ok (.iload 10, 2) := by decide +kernel
theorem dL_isBook_403 : decode cL_isBook 403 = .ok (.invokevirtual 99, 3) := by decide +kernel
theorem dL_isBook_406 : decode cL_isBook 406 = .ok (.aload_n 1, 1) := by decide +kernel
theorem dL_isBook_407 : decode cL_isBook 407 = .ok (.aload_n 2, 1) := by decide +kernel
theorem dL_isBook_408 : decode cL_isBook 408 = .ok (.aload_n 3, 1) := by decide +kernel
theorem dL_isBook_409 : decode cL_isBook 409 = .ok (.aload 4, 2) := by decide +kernel
theorem dL_isBook_411 : decode cL_isBook 411 = .ok (.aload 5, 2) := by decide +kernel
theorem dL_isBook_413 : decode cL_isBook 413 = .ok (.iload 10, 2) := by decide +kernel
theorem dL_isBook_415 : decode cL_isBook 415 = .ok (.iconst 0, 1) := by decide +kernel
theorem dL_isBook_416 : decode cL_isBook 416 = .ok (.invokestatic 21, 3) := by decide +kernel
theorem dL_isBook_419 : decode cL_isBook 419 = .ok (.if_icmp .ne 88, 3) := by decide +kernel
theorem dL_isBook_422 : decode cL_isBook 422 = .ok (.aload_n 0, 1) := by decide +kernel
theorem dL_isBook_423 : decode cL_isBook 423 = .ok (.iload 10, 2) := by decide +kernel
theorem dL_isBook_425 : decode cL_isBook 425 = .ok (.invokevirtual 102, 3) := by decide +kernel
theorem dL_isBook_428 : decode cL_isBook 428 = .ok (.aload_n 1, 1) := by decide +kernel
theorem dL_isBook_429 : decode cL_isBook 429 = .ok (.aload_n 2, 1) := by decide +kernel
theorem dL_isBook_430 : decode cL_isBook 430 = .ok (.aload_n 3, 1) := by decide +kernel
theorem dL_isBook_431 : decode cL_isBook 431 = .ok (.aload 4, 2) := by decide +kernel
theorem dL_isBook_433 : decode cL_isBook 433 = .ok (.aload 5, 2) := by decide +kernel
theorem dL_isBook_435 : decode cL_isBook 435 = .ok (.iload 10, 2) := by decide +kernel
theorem dL_isBook_437 : decode cL_isBook 437 = .ok (.invokestatic 27, 3) := by decide +kernel
theorem dL_isBook_440 : decode cL_isBook 440 = .ok (.if_icmp .ne 67, 3) := by decide +kernel
theorem dL_isBook_443 : decode cL_isBook 443 = .ok (.aload_n 0, 1) := by decide +kernel
theorem dL_isBook_444 : decode cL_isBook 444 = .ok (.iload 10, 2) := by decide +kernel
theorem dL_isBook_446 : decode cL_isBook 446 = .ok (.invokevirtual 104, 3) := by decide +kernel
theorem dL_isBook_449 : decode cL_isBook 449 = .ok (.aload_n 1, 1) := by decide +kernel
theorem dL_isBook_450 : decode cL_isBook 450 = .ok (.aload_n 2, 1) := by decide +kernel
theorem dL_isBook_451 : decode cL_isBook 451 = .ok (.aload_n 3, 1) := by decide +kernel
theorem dL_isBook_452 : decode cL_isBook 452 = .ok (.aload 4, 2) := by decide +kernel
theorem dL_isBook_454 : decode cL_isBook 454 = .ok (.aload 5, 2) := by decide +kernel
theorem dL_isBook_456 : decode cL_isBook 456 = .ok (.iload 10, 2) := by decide +kernel
theorem dL_isBook_458 : decode cL_isBook 458 = .ok (.aload_n 1, 1) := by decide +kernel
theorem dL_isBook_459 : decode cL_isBook 459 = .ok (.bipush 6, 2) := by decide +kernel
theorem dL_isBook_461 : decode cL_isBook 461 = .ok (.iaload, 1) := by decide +kernel
theorem dL_isBook_462 : decode cL_isBook 462 = .ok (.i2l, 1) := by decide +kernel
theorem dL_isBook_463 : decode cL_isBook 463 = .ok (.invokestatic 76, 3) := by decide +kernel
theorem dL_isBook_466 : decode cL_isBook 466 = .ok (.if_icmp .ne 41, 3) := by decide +kernel
theorem dL_isBook_469 : decode cL_isBook 469 = .ok (.aload_n 0, 1) := by decide +kernel
theorem dL_isBook_470 : decode cL_isBook 470 = .ok (.iload 10, 2) := by decide +kernel
theorem dL_isBook_472 : decode cL_isBook 472 = .ok (.invokevirtual 106, 3) := by decide +kernel
theorem dL_isBook_475 : decode cL_isBook 475 = .ok (.i2l, 1) := by decide +kernel
theorem dL_isBook_476 : decode cL_isBook 476 = .ok (.lload 12, 2) := by decide +kernel
theorem dL_isBook_478 : decode cL_isBook 478 = .ok (.aload_n 1, 1) := by decide +kernel
theorem dL_isBook_479 : decode cL_isBook 479 = .ok (.bipush 6, 2) := by decide +kernel
theorem dL_isBook_481 : decode cL_isBook 481 = .ok (.iaload, 1) := by decide +kernel
theorem dL_isBook_482 : decode cL_isBook 482 = .ok (.i2l, 1) := by decide +kernel
theorem dL_isBook_483 : decode cL_isBook 483 = .ok (.lcmp, 1) := by decide +kernel
theorem dL_isBook_484 : decode cL_isBook 484 = .ok (.ifCond .le 14, 3) := by decide +kernel
theorem dL_isBook_487 : decode cL_isBook 487 = .ok (.lload 12, 2) := by decide +kernel
theorem dL_isBook_489 : decode cL_isBook 489 = .ok (.aload_n 1, 1) := by decide +kernel
theorem dL_isBook_490 : decode cL_isBook 490 = .ok (.bipush 6, 2) := by decide +kernel
theorem dL_isBook_492 : decode cL_isBook 492 = .ok (.iaload, 1) := by decide +kernel
theorem dL_isBook_493 : decode cL_isBook 493 = .ok (.i2l, 1) := by decide +kernel
theorem dL_isBook_494 : decode cL_isBook 494 = .ok (.lsub, 1) := by decide +kernel
theorem dL_isBook_495 : decode cL_isBook 495 = .ok (.goto 4, 3) := by decide +kernel
theorem dL_isBook_498 : decode cL_isBook 498 = .ok (.lconst 0, 1) := by decide +kernel
theorem dL_isBook_499 : decode cL_isBook 499 = .ok (.lcmp, 1) := by decide +kernel
theorem dL_isBook_500 : decode cL_isBook 500 = .ok (.ifCond .ne 7, 3) := by decide +kernel
theorem dL_isBook_503 : decode cL_isBook 503 = .ok (.iconst 1, 1) := by decide +kernel
theorem dL_isBook_504 : decode cL_isBook 504 = .ok (.goto 4, 3) := by decide +kernel
theorem dL_isBook_507 : decode cL_isBook 507 = .ok (.iconst 0, 1) := by decide +kernel
theorem dL_isBook_508 : decode cL_isBook 508 = .ok (.ireturn, 1) := by decide +kernel
set_option maxRecDepth 20000 in
theorem ggL_total_L_sum : GoodIn wsL_total wsL_sum := goodIn_r _ [4, 5, 6, 3, 7, 8, 9, 10, 11, 12, 13] (by decide +kernel) (by decide +kernel)
set_option maxRecDepth 20000 in
theorem gL_total_L_sum : GoodIn wsL_total (va_wsS RL 21 yL_sum wsL_sum) := goodIn_app (goodIn_of _ (by decide +kernel)) ggL_total_L_sum
theorem dL_total_0 : decode cL_total 0 = .ok (.aload_n 0, 1) := by decide +kernel
theorem dL_total_1 : decode cL_total 1 = .ok (.aload_n 1, 1) := by decide +kernel
theorem dL_total_2 : decode cL_total 2 = .ok (.aload_n 2, 1) := by decide +kernel
theorem dL_total_3 : decode cL_total 3 = .ok (.aload_n 3, 1) := by decide +kernel
theorem dL_total_4 : decode cL_total 4 = .ok (.aload 4, 2) := by decide +kernel
theorem dL_total_6 : decode cL_total 6 = .ok (.sipush 9999, 3) := by decide +kernel
theorem dL_total_9 : decode cL_total 9 = .ok (.iconst 0, 1) := by decide +kernel
theorem dL_total_10 : decode cL_total 10 = .ok (.invokestatic 21, 3) := by decide +kernel
theorem dL_total_13 : decode cL_total 13 = .ok (.ireturn, 1) := by decide +kernel
set_option maxRecDepth 20000 in
theorem ggL_law_X2_init : GoodIn wsL_law wsX2_init := goodIn_r _ [19, 20, 21, 22, 23, 24, 25, 26, 27, 28, 29, 30, 31, 32, 33, 34, 35, 3, 36, 37, 38, 39, 285, 286, 287, 288, 289, 290, 291, 292, 293, 294, 295, 296, 297] (by decide +kernel) (by decide +kernel)
set_option maxRecDepth 20000 in
theorem gL_law_X2_init : GoodIn wsL_law (wsX2_init) := ggL_law_X2_init
set_option maxRecDepth 20000 in
theorem ggL_law_L_isBook : GoodIn wsL_law wsL_isBook := goodIn_ca (goodIn_ca (goodIn_r _ [43, 3, 44, 45, 46, 47, 48, 49, 2, 50, 31, 51, 52, 53, 54, 34, 55, 56, 57, 58, 37, 59, 60, 61, 62, 38, 39, 63, 64, 65, 66, 25, 35, 67, 68, 69, 70, 71, 72, 73, 74, 75, 24, 76, 77, 78, 79, 80, 81, 82, 83, 30, 84, 85, 86, 87, 88, 89, 90, 91, 92, 93, 94, 95, 96, 97, 26, 28, 98, 99, 42, 100, 101, 102, 103, 104, 105, 106, 107, 108, 109, 110, 111, 112, 113, 114, 115, 116, 117, 118, 119, 120, 121, 122, 123, 124, 125, 126, 127, 33, 128, 129, 130, 131, 132, 133, 134, 135, 136, 137, 138, 139, 140, 141, 142, 143, 144, 145, 146, 147, 148, 149, 150, 151, 152, 153, 154, 155, 156, 157, 158, 159, 160, 161, 162, 36, 163, 164, 165, 166, 167, 168, 169, 170, 171, 172, 173, 174, 175, 176, 177, 178, 179, 180, 181, 182, 183, 184, 185, 186, 187, 188, 189, 190, 191, 192, 193, 285, 286, 287, 288, 289, 290, 291, 292, 293, 294, 295, 296, 297, 298, 299, 300, 301, 302, 303, 304, 305, 306, 307, 308, 309, 310] (by decide +kernel) (by decide +kernel)) (goodIn_sub (fun _ h => List.mem_append_left _ (List.mem_append_left _ (List.mem_append_right _ h))) (by decide +kernel))) (goodIn_sub (fun _ h => List.mem_append_left _ (List.mem_append_right _ h)) (by decide +kernel))
set_option maxRecDepth 20000 in
theorem gL_law_L_isBook : GoodIn wsL_law (va_wsS RL 112 yL_isBook wsL_isBook) := goodIn_app (goodIn_of _ (by decide +kernel)) ggL_law_L_isBook
set_option maxRecDepth 20000 in
theorem ggL_law_X2_addLine : GoodIn wsL_law wsX2_addLine := goodIn_ca (goodIn_ca (goodIn_r _ [197, 198, 199, 200, 31, 30, 29, 201, 88, 170, 171, 2, 172, 173, 174, 167, 168, 169, 202, 203, 204, 205, 21, 22, 153, 154, 90, 152, 133, 134, 206, 285, 286, 287, 288, 289, 290, 291, 292, 293, 294, 295, 296, 297, 298, 299, 300, 301, 302, 303, 304] (by decide +kernel) (by decide +kernel)) (goodIn_sub (fun _ h => List.mem_append_right _ h) (by decide +kernel))) (goodIn_sub (fun _ h => List.mem_append_left _ (List.mem_append_right _ h)) (by decide +kernel))
set_option maxRecDepth 20000 in
theorem gL_law_X2_addLine : GoodIn wsL_law (wsV RL 120 RX2 yX2_addLine wsX2_addLine) := goodIn_app (goodIn_of _ (by decide +kernel)) ggL_law_X2_addLine
set_option maxRecDepth 20000 in
theorem ggL_law_X2_spend : GoodIn wsL_law wsX2_spend := goodIn_ca (goodIn_ca (goodIn_ca (goodIn_r _ [210, 198, 199, 200, 34, 33, 32, 211, 212, 144, 145, 146, 2, 147, 126, 127, 30, 167, 168, 169, 170, 171, 172, 173, 174, 213, 214, 215, 216, 21, 22, 217, 218, 219, 220, 221, 222, 223, 224, 225, 88, 226, 90, 91, 93, 227, 228, 229, 230, 231, 232, 233, 69, 234, 92, 235, 149, 150, 151, 152, 153, 154, 236, 129, 130, 131, 132, 133, 134, 285, 286, 287, 288, 289, 290, 291, 292, 293, 294, 295, 296, 297, 305, 306, 307, 308, 309, 310, 298, 299, 300, 301, 302, 303, 304] (by decide +kernel) (by decide +kernel)) (goodIn_sub (fun _ h => List.mem_append_right _ h) (by decide +kernel))) (goodIn_sub (fun _ h => List.mem_append_left _ (List.mem_append_left _ (List.mem_append_right _ h))) (by decide +kernel))) (goodIn_sub (fun _ h => List.mem_append_left _ (List.mem_append_right _ h)) (by decide +kernel))
set_option maxRecDepth 20000 in
theorem gL_law_X2_spend : GoodIn wsL_law (wsV RL 126 RX2 yX2_spend wsX2_spend) := goodIn_app (goodIn_of _ (by decide +kernel)) ggL_law_X2_spend
set_option maxRecDepth 20000 in
theorem ggL_law_L_does : GoodIn wsL_law wsL_does := goodIn_ca (goodIn_ca (goodIn_ca (goodIn_r _ [239, 240, 241, 12, 13, 242, 243, 244, 2, 245, 173, 174, 198, 199, 200, 246, 247, 248, 144, 145, 146, 147, 126, 127, 30, 170, 171, 172, 227, 228, 229, 88, 230, 90, 231, 232, 233, 69, 234, 92, 93, 235, 149, 150, 151, 152, 153, 154, 236, 129, 130, 131, 132, 91, 133, 134, 148, 249, 250, 251, 252, 253, 122, 123, 124, 125, 33, 254, 255, 256, 121, 85, 86, 87, 89, 257, 258, 259, 260, 261, 262, 263, 264, 35, 265, 266, 267, 268, 269, 38, 37, 36, 39, 63, 64, 65, 66, 25, 67, 68, 70, 71, 72, 73, 74, 75, 24, 76, 77, 78, 79, 80, 81, 82, 83, 84, 94, 95, 96, 97, 26, 28, 270, 271, 272, 273, 274, 298, 299, 300, 301, 302, 303, 304, 285, 286, 287, 288, 289, 290, 291, 292, 293, 294, 295, 296, 297, 305, 306, 307, 308, 309, 310] (by decide +kernel) (by decide +kernel)) (goodIn_sub (fun _ h => List.mem_append_left _ (List.mem_append_right _ h)) (by decide +kernel))) (goodIn_sub (fun _ h => List.mem_append_right _ h) (by decide +kernel))) (goodIn_sub (fun _ h => List.mem_append_left _ (List.mem_append_left _ (List.mem_append_right _ h))) (by decide +kernel))
set_option maxRecDepth 20000 in
theorem gL_law_L_does : GoodIn wsL_law (va_wsS RL 129 yL_does wsL_does) := goodIn_app (goodIn_of _ (by decide +kernel)) ggL_law_L_does
set_option maxRecDepth 20000 in
theorem ggL_law_L_room : GoodIn wsL_law wsL_room := goodIn_r _ [113] (by decide +kernel) (by decide +kernel)
set_option maxRecDepth 20000 in
theorem gL_law_L_room : GoodIn wsL_law (va_wsS RL 13 yL_room wsL_room) := goodIn_app (goodIn_of _ (by decide +kernel)) ggL_law_L_room
set_option maxRecDepth 20000 in
theorem ggL_law_L_total : GoodIn wsL_law wsL_total := goodIn_r _ [277, 102, 103, 42, 104, 105, 106, 107, 108, 109, 110, 111, 112, 113] (by decide +kernel) (by decide +kernel)
set_option maxRecDepth 20000 in
theorem gL_law_L_total : GoodIn wsL_law (va_wsS RL 133 yL_total wsL_total) := goodIn_app (goodIn_of _ (by decide +kernel)) ggL_law_L_total
set_option maxRecDepth 20000 in
theorem ggL_law_L_earned : GoodIn wsL_law wsL_earned := goodIn_r _ [100, 101, 102, 103, 42, 104, 105, 106, 107, 108, 109, 110, 111, 112, 113, 114, 115, 116] (by decide +kernel) (by decide +kernel)
set_option maxRecDepth 20000 in
theorem gL_law_L_earned : GoodIn wsL_law (va_wsS RL 76 yL_earned wsL_earned) := goodIn_app (goodIn_of _ (by decide +kernel)) ggL_law_L_earned
set_option maxRecDepth 20000 in
theorem ggL_law_L_isSet : GoodIn wsL_law wsL_isSet := goodIn_ca (goodIn_ca (goodIn_r _ [280, 241, 281, 282, 283, 2, 284, 198, 199, 265, 37, 24, 25, 26, 28, 170, 171, 172, 173, 174, 285, 286, 287, 288, 289, 290, 291, 292, 293, 294, 295, 296, 297] (by decide +kernel) (by decide +kernel)) (goodIn_sub (fun _ h => List.mem_append_right _ h) (by decide +kernel))) (goodIn_sub (fun _ h => List.mem_append_left _ (List.mem_append_right _ h)) (by decide +kernel))
set_option maxRecDepth 20000 in
theorem gL_law_L_isSet : GoodIn wsL_law (va_wsS RL 140 yL_isSet wsL_isSet) := goodIn_app (goodIn_of _ (by decide +kernel)) ggL_law_L_isSet
