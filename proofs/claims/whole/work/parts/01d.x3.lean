theorem dX3_init_0 : decode cX3_init 0 = .ok (.aload_n 0, 1) := by decide +kernel
theorem dX3_init_1 : decode cX3_init 1 = .ok (.invokespecial 1, 3) := by decide +kernel
theorem dX3_init_4 : decode cX3_init 4 = .ok (.aload_n 0, 1) := by decide +kernel
theorem dX3_init_5 : decode cX3_init 5 = .ok (.bipush 12, 2) := by decide +kernel
theorem dX3_init_7 : decode cX3_init 7 = .ok (.newarray .int, 2) := by decide +kernel
theorem dX3_init_9 : decode cX3_init 9 = .ok (.putfield 7, 3) := by decide +kernel
theorem dX3_init_12 : decode cX3_init 12 = .ok (.aload_n 0, 1) := by decide +kernel
theorem dX3_init_13 : decode cX3_init 13 = .ok (.bipush 12, 2) := by decide +kernel
theorem dX3_init_15 : decode cX3_init 15 = .ok (.newarray .int, 2) := by decide +kernel
theorem dX3_init_17 : decode cX3_init 17 = .ok (.putfield 13, 3) := by decide +kernel
theorem dX3_init_20 : decode cX3_init 20 = .ok (.aload_n 0, 1) := by decide +kernel
theorem dX3_init_21 : decode cX3_init 21 = .ok (.bipush 12, 2) := by decide +kernel
theorem dX3_init_23 : decode cX3_init 23 = .ok (.newarray .int, 2) := by decide +kernel
theorem dX3_init_25 : decode cX3_init 25 = .ok (.putfield 16, 3) := by decide +kernel
theorem dX3_init_28 : decode cX3_init 28 = .ok (.aload_n 0, 1) := by decide +kernel
theorem dX3_init_29 : decode cX3_init 29 = .ok (.bipush 12, 2) := by decide +kernel
theorem dX3_init_31 : decode cX3_init 31 = .ok (.newarray .boolean, 2) := by decide +kernel
theorem dX3_init_33 : decode cX3_init 33 = .ok (.putfield 19, 3) := by decide +kernel
theorem dX3_init_36 : decode cX3_init 36 = .ok (.aload_n 0, 1) := by decide +kernel
theorem dX3_init_37 : decode cX3_init 37 = .ok (.bipush 12, 2) := by decide +kernel
theorem dX3_init_39 : decode cX3_init 39 = .ok (.newarray .int, 2) := by decide +kernel
theorem dX3_init_41 : decode cX3_init 41 = .ok (.putfield 23, 3) := by decide +kernel
theorem dX3_init_44 : decode cX3_init 44 = .ok (.aload_n 0, 1) := by decide +kernel
theorem dX3_init_45 : decode cX3_init 45 = .ok (.bipush 12, 2) := by decide +kernel
theorem dX3_init_47 : decode cX3_init 47 = .ok (.newarray .int, 2) := by decide +kernel
theorem dX3_init_49 : decode cX3_init 49 = .ok (.putfield 26, 3) := by decide +kernel
theorem dX3_init_52 : decode cX3_init 52 = .ok (.aload_n 0, 1) := by decide +kernel
theorem dX3_init_53 : decode cX3_init 53 = .ok (.bipush 100, 2) := by decide +kernel
theorem dX3_init_55 : decode cX3_init 55 = .ok (.newarray .int, 2) := by decide +kernel
theorem dX3_init_57 : decode cX3_init 57 = .ok (.putfield 29, 3) := by decide +kernel
theorem dX3_init_60 : decode cX3_init 60 = .ok (.aload_n 0, 1) := by decide +kernel
theorem dX3_init_61 : decode cX3_init 61 = .ok (.bipush 100, 2) := by decide +kernel
theorem dX3_init_63 : decode cX3_init 63 = .ok (.newarray .int, 2) := by decide +kernel
theorem dX3_init_65 : decode cX3_init 65 = .ok (.putfield 32, 3) := by decide +kernel
theorem dX3_init_68 : decode cX3_init 68 = .ok (.aload_n 0, 1) := by decide +kernel
theorem dX3_init_69 : decode cX3_init 69 = .ok (.bipush 100, 2) := by decide +kernel
theorem dX3_init_71 : decode cX3_init 71 = .ok (.newarray .int, 2) := by decide +kernel
theorem dX3_init_73 : decode cX3_init 73 = .ok (.putfield 35, 3) := by decide +kernel
theorem dX3_init_76 : decode cX3_init 76 = .ok (.aload_n 0, 1) := by decide +kernel
theorem dX3_init_77 : decode cX3_init 77 = .ok (.bipush 100, 2) := by decide +kernel
theorem dX3_init_79 : decode cX3_init 79 = .ok (.newarray .boolean, 2) := by decide +kernel
theorem dX3_init_81 : decode cX3_init 81 = .ok (.putfield 38, 3) := by decide +kernel
theorem dX3_init_84 : decode cX3_init 84 = .ok (.aload_n 0, 1) := by decide +kernel
theorem dX3_init_85 : decode cX3_init 85 = .ok (.bipush 100, 2) := by decide +kernel
theorem dX3_init_87 : decode cX3_init 87 = .ok (.newarray .int, 2) := by decide +kernel
theorem dX3_init_89 : decode cX3_init 89 = .ok (.putfield 41, 3) := by decide +kernel
theorem dX3_init_92 : decode cX3_init 92 = .ok (.aload_n 0, 1) := by decide +kernel
theorem dX3_init_93 : decode cX3_init 93 = .ok (.bipush 40, 2) := by decide +kernel
theorem dX3_init_95 : decode cX3_init 95 = .ok (.newarray .int, 2) := by decide +kernel
theorem dX3_init_97 : decode cX3_init 97 = .ok (.putfield 44, 3) := by decide +kernel
theorem dX3_init_100 : decode cX3_init 100 = .ok (.aload_n 0, 1) := by decide +kernel
theorem dX3_init_101 : decode cX3_init 101 = .ok (.bipush 100, 2) := by decide +kernel
theorem dX3_init_103 : decode cX3_init 103 = .ok (.newarray .int, 2) := by decide +kernel
theorem dX3_init_105 : decode cX3_init 105 = .ok (.putfield 47, 3) := by decide +kernel
theorem dX3_init_108 : decode cX3_init 108 = .ok (.aload_n 0, 1) := by decide +kernel
theorem dX3_init_109 : decode cX3_init 109 = .ok (.bipush 12, 2) := by decide +kernel
theorem dX3_init_111 : decode cX3_init 111 = .ok (.newarray .int, 2) := by decide +kernel
theorem dX3_init_113 : decode cX3_init 113 = .ok (.putfield 50, 3) := by decide +kernel
theorem dX3_init_116 : decode cX3_init 116 = .ok (.aload_n 0, 1) := by decide +kernel
theorem dX3_init_117 : decode cX3_init 117 = .ok (.ldc 53, 2) := by decide +kernel
theorem dX3_init_119 : decode cX3_init 119 = .ok (.putfield 54, 3) := by decide +kernel
theorem dX3_init_122 : decode cX3_init 122 = .ok (.aload_n 0, 1) := by decide +kernel
theorem dX3_init_123 : decode cX3_init 123 = .ok (.bipush 75, 2) := by decide +kernel
theorem dX3_init_125 : decode cX3_init 125 = .ok (.putfield 58, 3) := by decide +kernel
theorem dX3_init_128 : decode cX3_init 128 = .ok (.aload_n 0, 1) := by decide +kernel
theorem dX3_init_129 : decode cX3_init 129 = .ok (.bipush 10, 2) := by decide +kernel
theorem dX3_init_131 : decode cX3_init 131 = .ok (.putfield 61, 3) := by decide +kernel
theorem dX3_init_134 : decode cX3_init 134 = .ok (.aload_n 0, 1) := by decide +kernel
theorem dX3_init_135 : decode cX3_init 135 = .ok (.ldc 64, 2) := by decide +kernel
theorem dX3_init_137 : decode cX3_init 137 = .ok (.putfield 65, 3) := by decide +kernel
theorem dX3_init_140 : decode cX3_init 140 = .ok (.return_, 1) := by decide +kernel
theorem dX3_thrown_0 : decode cX3_thrown 0 = .ok (.aload_n 0, 1) := by decide +kernel
theorem dX3_thrown_1 : decode cX3_thrown 1 = .ok (.getfield 68, 3) := by decide +kernel
theorem dX3_thrown_4 : decode cX3_thrown 4 = .ok (.ireturn, 1) := by decide +kernel
theorem dX3_in_0 : decode cX3_in 0 = .ok (.iload_n 0, 1) := by decide +kernel
theorem dX3_in_1 : decode cX3_in 1 = .ok (.iload_n 1, 1) := by decide +kernel
theorem dX3_in_2 : decode cX3_in 2 = .ok (.if_icmp .lt 12, 3) := by decide +kernel
theorem dX3_in_5 : decode cX3_in 5 = .ok (.iload_n 0, 1) := by decide +kernel
theorem dX3_in_6 : decode cX3_in 6 = .ok (.iload_n 2, 1) := by decide +kernel
theorem dX3_in_7 : decode cX3_in 7 = .ok (.if_icmp .gt 7, 3) := by decide +kernel
theorem dX3_in_10 : decode cX3_in 10 = .ok (.iconst 1, 1) := by decide +kernel
theorem dX3_in_11 : decode cX3_in 11 = .ok (.goto 4, 3) := by decide +kernel
theorem dX3_in_14 : decode cX3_in 14 = .ok (.iconst 0, 1) := by decide +kernel
theorem dX3_in_15 : decode cX3_in 15 = .ok (.ireturn, 1) := by decide +kernel
set_option maxRecDepth 20000 in
theorem ggX3_isLine_X3_in : GoodIn wsX3_isLine wsX3_in := goodIn_r _ [5] (by decide +kernel) (by decide +kernel)
set_option maxRecDepth 20000 in
theorem gX3_isLine_X3_in : GoodIn wsX3_isLine (va_wsS RX3 74 yX3_in wsX3_in) := goodIn_app (goodIn_of _ (by decide +kernel)) ggX3_isLine_X3_in
theorem dX3_isLine_0 : decode cX3_isLine 0 = .ok (.iload_n 1, 1) := by decide +kernel
theorem dX3_isLine_1 : decode cX3_isLine 1 = .ok (.iconst 0, 1) := by decide +kernel
theorem dX3_isLine_2 : decode cX3_isLine 2 = .ok (.aload_n 0, 1) := by decide +kernel
theorem dX3_isLine_3 : decode cX3_isLine 3 = .ok (.getfield 71, 3) := by decide +kernel
theorem dX3_isLine_6 : decode cX3_isLine 6 = .ok (.iconst 1, 1) := by decide +kernel
theorem dX3_isLine_7 : decode cX3_isLine 7 = .ok (.isub, 1) := by decide +kernel
theorem dX3_isLine_8 : decode cX3_isLine 8 = .ok (.invokestatic 74, 3) := by decide +kernel
theorem dX3_isLine_11 : decode cX3_isLine 11 = .ok (.ireturn, 1) := by decide +kernel
set_option maxRecDepth 20000 in
theorem ggX3_isVoucher_X3_in : GoodIn wsX3_isVoucher wsX3_in := goodIn_r _ [5] (by decide +kernel) (by decide +kernel)
set_option maxRecDepth 20000 in
theorem gX3_isVoucher_X3_in : GoodIn wsX3_isVoucher (va_wsS RX3 74 yX3_in wsX3_in) := goodIn_app (goodIn_of _ (by decide +kernel)) ggX3_isVoucher_X3_in
theorem dX3_isVoucher_0 : decode cX3_isVoucher 0 = .ok (.iload_n 1, 1) := by decide +kernel
theorem dX3_isVoucher_1 : decode cX3_isVoucher 1 = .ok (.iconst 0, 1) := by decide +kernel
theorem dX3_isVoucher_2 : decode cX3_isVoucher 2 = .ok (.aload_n 0, 1) := by decide +kernel
theorem dX3_isVoucher_3 : decode cX3_isVoucher 3 = .ok (.getfield 78, 3) := by decide +kernel
theorem dX3_isVoucher_6 : decode cX3_isVoucher 6 = .ok (.iconst 1, 1) := by decide +kernel
theorem dX3_isVoucher_7 : decode cX3_isVoucher 7 = .ok (.isub, 1) := by decide +kernel
theorem dX3_isVoucher_8 : decode cX3_isVoucher 8 = .ok (.invokestatic 74, 3) := by decide +kernel
theorem dX3_isVoucher_11 : decode cX3_isVoucher 11 = .ok (.ireturn, 1) := by decide +kernel
set_option maxRecDepth 20000 in
theorem ggX3_setGrant_X3_in : GoodIn wsX3_setGrant wsX3_in := goodIn_r _ [11] (by decide +kernel) (by decide +kernel)
set_option maxRecDepth 20000 in
theorem gX3_setGrant_X3_in : GoodIn wsX3_setGrant (va_wsS RX3 74 yX3_in wsX3_in) := goodIn_app (goodIn_of _ (by decide +kernel)) ggX3_setGrant_X3_in
theorem dX3_setGrant_0 : decode cX3_setGrant 0 = .ok (.aload_n 0, 1) := by decide +kernel
theorem dX3_setGrant_1 : decode cX3_setGrant 1 = .ok (.iload_n 1, 1) := by decide +kernel
theorem dX3_setGrant_2 : decode cX3_setGrant 2 = .ok (.iconst 0, 1) := by decide +kernel
theorem dX3_setGrant_3 : decode cX3_setGrant 3 = .ok (.ldc 81, 2) := by decide +kernel
theorem dX3_setGrant_5 : decode cX3_setGrant 5 = .ok (.invokestatic 74, 3) := by decide +kernel
theorem dX3_setGrant_8 : decode cX3_setGrant 8 = .ok (.ifCond .eq 34, 3) := by decide +kernel
theorem dX3_setGrant_11 : decode cX3_setGrant 11 = .ok (.iload_n 2, 1) := by decide +kernel
theorem dX3_setGrant_12 : decode cX3_setGrant 12 = .ok (.iconst 1, 1) := by decide +kernel
theorem dX3_setGrant_13 : decode cX3_setGrant 13 = .ok (.bipush 100, 2) := by decide +kernel
theorem dX3_setGrant_15 : decode cX3_setGrant 15 = .ok (.invokestatic 74, 3) := by decide +kernel
theorem dX3_setGrant_18 : decode cX3_setGrant 18 = .ok (.ifCond .eq 24, 3) := by decide +kernel
theorem dX3_setGrant_21 : decode cX3_setGrant 21 = .ok (.iload_n 3, 1) := by decide +kernel
theorem dX3_setGrant_22 : decode cX3_setGrant 22 = .ok (.iconst 0, 1) := by decide +kernel
theorem dX3_setGrant_23 : decode cX3_setGrant 23 = .ok (.bipush 100, 2) := by decide +kernel
theorem dX3_setGrant_25 : decode cX3_setGrant 25 = .ok (.invokestatic 74, 3) := by decide +kernel
theorem dX3_setGrant_28 : decode cX3_setGrant 28 = .ok (.ifCond .eq 14, 3) := by decide +kernel
theorem dX3_setGrant_31 : decode cX3_setGrant 31 = .ok (.iload 4, 2) := by decide +kernel
theorem dX3_setGrant_33 : decode cX3_setGrant 33 = .ok (.iconst 0, 1) := by decide +kernel
theorem dX3_setGrant_34 : decode cX3_setGrant 34 = .ok (.ldc 81, 2) := by decide +kernel
theorem dX3_setGrant_36 : decode cX3_setGrant 36 = .ok (.invokestatic 74, 3) := by decide +kernel
theorem dX3_setGrant_39 : decode cX3_setGrant 39 = .ok (.ifCond .ne 7, 3) := by decide +kernel
theorem dX3_setGrant_42 : decode cX3_setGrant 42 = .ok (.iconst 1, 1) := by decide +kernel
theorem dX3_setGrant_43 : decode cX3_setGrant 43 = .ok (.goto 15, 3) := by decide +kernel
theorem dX3_setGrant_46 : decode cX3_setGrant 46 = .ok (.aload_n 0, 1) := by decide +kernel
theorem dX3_setGrant_47 : decode cX3_setGrant 47 = .ok (.getfield 82, 3) := by decide +kernel
theorem dX3_setGrant_50 : decode cX3_setGrant 50 = .ok (.ifCond .le 7, 3) := by decide +kernel
theorem dX3_setGrant_53 : decode cX3_setGrant 53 = .ok (.iconst 2, 1) := by decide +kernel
theorem dX3_setGrant_54 : decode cX3_setGrant 54 = .ok (.goto 4, 3) := by decide +kernel
theorem dX3_setGrant_57 : decode cX3_setGrant 57 = .ok (.iconst 0, 1) := by decide +kernel
theorem dX3_setGrant_58 : decode cX3_setGrant 58 = .ok (.putfield 68, 3) := by decide +kernel
theorem dX3_setGrant_61 : decode cX3_setGrant 61 = .ok (.aload_n 0, 1) := by decide +kernel
theorem dX3_setGrant_62 : decode cX3_setGrant 62 = .ok (.getfield 68, 3) := by decide +kernel
theorem dX3_setGrant_65 : decode cX3_setGrant 65 = .ok (.ifCond .ne 24, 3) := by decide +kernel
theorem dX3_setGrant_68 : decode cX3_setGrant 68 = .ok (.aload_n 0, 1) := by decide +kernel
theorem dX3_setGrant_69 : decode cX3_setGrant 69 = .ok (.iload_n 1, 1) := by decide +kernel
theorem dX3_setGrant_70 : decode cX3_setGrant 70 = .ok (.putfield 54, 3) := by decide +kernel
theorem dX3_setGrant_73 : decode cX3_setGrant 73 = .ok (.aload_n 0, 1) := by decide +kernel
theorem dX3_setGrant_74 : decode cX3_setGrant 74 = .ok (.iload_n 2, 1) := by decide +kernel
theorem dX3_setGrant_75 : decode cX3_setGrant 75 = .ok (.putfield 58, 3) := by decide +kernel
theorem dX3_setGrant_78 : decode cX3_setGrant 78 = .ok (.aload_n 0, 1) := by decide +kernel
theorem dX3_setGrant_79 : decode cX3_setGrant 79 = .ok (.iload_n 3, 1) := by decide +kernel
theorem dX3_setGrant_80 : decode cX3_setGrant 80 = .ok (.putfield 61, 3) := by decide +kernel
theorem dX3_setGrant_83 : decode cX3_setGrant 83 = .ok (.aload_n 0, 1) := by decide +kernel
theorem dX3_setGrant_84 : decode cX3_setGrant 84 = .ok (.iload 4, 2) := by decide +kernel
theorem dX3_setGrant_86 : decode cX3_setGrant 86 = .ok (.putfield 65, 3) := by decide +kernel
theorem dX3_setGrant_89 : decode cX3_setGrant 89 = .ok (.return_, 1) := by decide +kernel
set_option maxRecDepth 20000 in
theorem ggX3_addLine_X3_in : GoodIn wsX3_addLine wsX3_in := goodIn_r _ [11] (by decide +kernel) (by decide +kernel)
set_option maxRecDepth 20000 in
theorem gX3_addLine_X3_in : GoodIn wsX3_addLine (va_wsS RX3 74 yX3_in wsX3_in) := goodIn_app (goodIn_of _ (by decide +kernel)) ggX3_addLine_X3_in
theorem dX3_addLine_0 : decode cX3_addLine 0 = .ok (.aload_n 0, 1) := by decide +kernel
theorem dX3_addLine_1 : decode cX3_addLine 1 = .ok (.iload_n 1, 1) := by decide +kernel
theorem dX3_addLine_2 : decode cX3_addLine 2 = .ok (.iconst 0, 1) := by decide +kernel
theorem dX3_addLine_3 : decode cX3_addLine 3 = .ok (.ldc 85, 2) := by decide +kernel
theorem dX3_addLine_5 : decode cX3_addLine 5 = .ok (.invokestatic 74, 3) := by decide +kernel
theorem dX3_addLine_8 : decode cX3_addLine 8 = .ok (.ifCond .eq 25, 3) := by decide +kernel
theorem dX3_addLine_11 : decode cX3_addLine 11 = .ok (.iload_n 2, 1) := by decide +kernel
theorem dX3_addLine_12 : decode cX3_addLine 12 = .ok (.iconst 0, 1) := by decide +kernel
theorem dX3_addLine_13 : decode cX3_addLine 13 = .ok (.sipush 9999, 3) := by decide +kernel
theorem dX3_addLine_16 : decode cX3_addLine 16 = .ok (.invokestatic 74, 3) := by decide +kernel
theorem dX3_addLine_19 : decode cX3_addLine 19 = .ok (.ifCond .eq 14, 3) := by decide +kernel
theorem dX3_addLine_22 : decode cX3_addLine 22 = .ok (.iload_n 3, 1) := by decide +kernel
theorem dX3_addLine_23 : decode cX3_addLine 23 = .ok (.iload_n 2, 1) := by decide +kernel
theorem dX3_addLine_24 : decode cX3_addLine 24 = .ok (.sipush 9999, 3) := by decide +kernel
theorem dX3_addLine_27 : decode cX3_addLine 27 = .ok (.invokestatic 74, 3) := by decide +kernel
theorem dX3_addLine_30 : decode cX3_addLine 30 = .ok (.ifCond .ne 7, 3) := by decide +kernel
theorem dX3_addLine_33 : decode cX3_addLine 33 = .ok (.iconst 1, 1) := by decide +kernel
theorem dX3_addLine_34 : decode cX3_addLine 34 = .ok (.goto 17, 3) := by decide +kernel
theorem dX3_addLine_37 : decode cX3_addLine 37 = .ok (.aload_n 0, 1) := by decide +kernel
theorem dX3_addLine_38 : decode cX3_addLine 38 = .ok (.getfield 71, 3) := by decide +kernel
theorem dX3_addLine_41 : decode cX3_addLine 41 = .ok (.bipush 12, 2) := by decide +kernel
theorem dX3_addLine_43 : decode cX3_addLine 43 = .ok (.if_icmp .ne 7, 3) := by decide +kernel
theorem dX3_addLine_46 : decode cX3_addLine 46 = .ok (.iconst 2, 1) := by decide +kernel
theorem dX3_addLine_47 : decode cX3_addLine 47 = .ok (.goto 4, 3) := by decide +kernel
theorem dX3_addLine_50 : decode cX3_addLine 50 = .ok (.iconst 0, 1) := by decide +kernel
theorem dX3_addLine_51 : decode cX3_addLine 51 = .ok (.putfield 68, 3) := by decide +kernel
theorem dX3_addLine_54 : decode cX3_addLine 54 = .ok (.aload_n 0, 1) := by decide +kernel
theorem dX3_addLine_55 : decode cX3_addLine 55 = .ok (.getfield 68, 3) := by decide +kernel
theorem dX3_addLine_58 : decode cX3_addLine 58 = .ok (.ifCond .le 5, 3) := by decide +kernel
theorem dX3_addLine_61 : decode cX3_addLine 61 = .ok (.iconst 0, 1) := by decide +kernel
theorem dX3_addLine_62 : decode cX3_addLine 62 = .ok (.ireturn, 1) := by decide +kernel
theorem dX3_addLine_63 : decode cX3_addLine 63 = .ok (.aload_n 0, 1) := by decide +kernel
theorem dX3_addLine_64 : decode cX3_addLine 64 = .ok (.getfield 7, 3) := by decide +kernel
theorem dX3_addLine_67 : decode cX3_addLine 67 = .ok (.aload_n 0, 1) := by decide +kernel
theorem dX3_addLine_68 : decode cX3_addLine 68 = .ok (.getfield 71, 3) := by decide +kernel
theorem dX3_addLine_71 : decode cX3_addLine 71 = .ok (.iload_n 1, 1) := by decide +kernel
theorem dX3_addLine_72 : decode cX3_addLine 72 = .ok (.iastore, 1) := by decide +kernel
theorem dX3_addLine_73 : decode cX3_addLine 73 = .ok (.aload_n 0, 1) := by decide +kernel
theorem dX3_addLine_74 : decode cX3_addLine 74 = .ok (.getfield 13, 3) := by decide +kernel
theorem dX3_addLine_77 : decode cX3_addLine 77 = .ok (.aload_n 0, 1) := by decide +kernel
theorem dX3_addLine_78 : decode cX3_addLine 78 = .ok (.getfield 71, 3) := by decide +kernel
theorem dX3_addLine_81 : decode cX3_addLine 81 = .ok (.iload_n 2, 1) := by decide +kernel
theorem dX3_addLine_82 : decode cX3_addLine 82 = .ok (.iastore, 1) := by decide +kernel
theorem dX3_addLine_83 : decode cX3_addLine 83 = .ok (.aload_n 0, 1) := by decide +kernel
theorem dX3_addLine_84 : decode cX3_addLine 84 = .ok (.getfield 16, 3) := by decide +kernel
theorem dX3_addLine_87 : decode cX3_addLine 87 = .ok (.aload_n 0, 1) := by decide +kernel
theorem dX3_addLine_88 : decode cX3_addLine 88 = .ok (.getfield 71, 3) := by decide +kernel
theorem dX3_addLine_91 : decode cX3_addLine 91 = .ok (.iload_n 3, 1) := by decide +kernel
theorem dX3_addLine_92 : decode cX3_addLine 92 = .ok (.iastore, 1) := by decide +kernel
theorem dX3_addLine_93 : decode cX3_addLine 93 = .ok (.aload_n 0, 1) := by decide +kernel
theorem dX3_addLine_94 : decode cX3_addLine 94 = .ok (.getfield 19, 3) := by decide +kernel
theorem dX3_addLine_97 : decode cX3_addLine 97 = .ok (.aload_n 0, 1) := by decide +kernel
theorem dX3_addLine_98 : decode cX3_addLine 98 = .ok (.getfield 71, 3) := by decide +kernel
theorem dX3_addLine_101 : decode cX3_addLine 101 = .ok (.iload 4, 2) := by decide +kernel
theorem dX3_addLine_103 : decode cX3_addLine 103 = .ok (.bastore, 1) := by decide +kernel
theorem dX3_addLine_104 : decode cX3_addLine 104 = .ok (.aload_n 0, 1) := by decide +kernel
theorem dX3_addLine_105 : decode cX3_addLine 105 = .ok (.dup, 1) := by decide +kernel
theorem dX3_addLine_106 : decode cX3_addLine 106 = .ok (.getfield 71, 3) := by decide +kernel
theorem dX3_addLine_109 : decode cX3_addLine 109 = .ok (.iconst 1, 1) := by decide +kernel
theorem dX3_addLine_110 : decode cX3_addLine 110 = .ok (.iadd, 1) := by decide +kernel
theorem dX3_addLine_111 : decode cX3_addLine 111 = .ok (.putfield 71, 3) := by decide +kernel
theorem dX3_addLine_114 : decode cX3_addLine 114 = .ok (.aload_n 0, 1) := by decide +kernel
theorem dX3_addLine_115 : decode cX3_addLine 115 = .ok (.getfield 71, 3) := by decide +kernel
theorem dX3_addLine_118 : decode cX3_addLine 118 = .ok (.iconst 1, 1) := by decide +kernel
theorem dX3_addLine_119 : decode cX3_addLine 119 = .ok (.isub, 1) := by decide +kernel
theorem dX3_addLine_120 : decode cX3_addLine 120 = .ok (.ireturn, 1) := by decide +kernel
set_option maxRecDepth 20000 in
theorem ggX3_extend_X3_isLine : GoodIn wsX3_extend wsX3_isLine := goodIn_r _ [7, 8, 9, 10, 6, 11, 12, 13, 14, 15, 16, 17, 18, 19, 20, 21, 22, 23, 24, 25, 26, 27, 28, 29, 30, 31, 32, 33, 34, 35] (by decide +kernel) (by decide +kernel)
set_option maxRecDepth 20000 in
theorem gX3_extend_X3_isLine : GoodIn wsX3_extend (wsV RX3 86 RX3 yX3_isLine wsX3_isLine) := goodIn_app (goodIn_of _ (by decide +kernel)) ggX3_extend_X3_isLine
set_option maxRecDepth 20000 in
theorem ggX3_extend_X3_in : GoodIn wsX3_extend wsX3_in := goodIn_r _ [11] (by decide +kernel) (by decide +kernel)
set_option maxRecDepth 20000 in
theorem gX3_extend_X3_in : GoodIn wsX3_extend (va_wsS RX3 74 yX3_in wsX3_in) := goodIn_app (goodIn_of _ (by decide +kernel)) ggX3_extend_X3_in
theorem dX3_extend_0 : decode cX3_extend 0 = .ok (.aload_n 0, 1) := by decide +kernel
theorem dX3_extend_1 : decode cX3_extend 1 = .ok (.aload_n 0, 1) := by decide +kernel
theorem dX3_extend_2 : decode cX3_extend 2 = .ok (.iload_n 1, 1) := by decide +kernel
theorem dX3_extend_3 : decode cX3_extend 3 = .ok (.invokevirtual 86, 3) := by decide +kernel
theorem dX3_extend_6 : decode cX3_extend 6 = .ok (.ifCond .ne 7, 3) := by decide +kernel
theorem dX3_extend_9 : decode cX3_extend 9 = .ok (.iconst 1, 1) := by decide +kernel
theorem dX3_extend_10 : decode cX3_extend 10 = .ok (.goto 24, 3) := by decide +kernel
theorem dX3_extend_13 : decode cX3_extend 13 = .ok (.iload_n 2, 1) := by decide +kernel
theorem dX3_extend_14 : decode cX3_extend 14 = .ok (.aload_n 0, 1) := by decide +kernel
theorem dX3_extend_15 : decode cX3_extend 15 = .ok (.getfield 16, 3) := by decide +kernel
theorem dX3_extend_18 : decode cX3_extend 18 = .ok (.iload_n 1, 1) := by decide +kernel
theorem dX3_extend_19 : decode cX3_extend 19 = .ok (.iaload, 1) := by decide +kernel
theorem dX3_extend_20 : decode cX3_extend 20 = .ok (.sipush 9999, 3) := by decide +kernel
theorem dX3_extend_23 : decode cX3_extend 23 = .ok (.invokestatic 74, 3) := by decide +kernel
theorem dX3_extend_26 : decode cX3_extend 26 = .ok (.ifCond .ne 7, 3) := by decide +kernel
theorem dX3_extend_29 : decode cX3_extend 29 = .ok (.iconst 2, 1) := by decide +kernel
theorem dX3_extend_30 : decode cX3_extend 30 = .ok (.goto 4, 3) := by decide +kernel
theorem dX3_extend_33 : decode cX3_extend 33 = .ok (.iconst 0, 1) := by decide +kernel
theorem dX3_extend_34 : decode cX3_extend 34 = .ok (.putfield 68, 3) := by decide +kernel
theorem dX3_extend_37 : decode cX3_extend 37 = .ok (.aload_n 0, 1) := by decide +kernel
theorem dX3_extend_38 : decode cX3_extend 38 = .ok (.getfield 68, 3) := by decide +kernel
theorem dX3_extend_41 : decode cX3_extend 41 = .ok (.ifCond .le 5, 3) := by decide +kernel
theorem dX3_extend_44 : decode cX3_extend 44 = .ok (.iconst 0, 1) := by decide +kernel
theorem dX3_extend_45 : decode cX3_extend 45 = .ok (.ireturn, 1) := by decide +kernel
theorem dX3_extend_46 : decode cX3_extend 46 = .ok (.aload_n 0, 1) := by decide +kernel
theorem dX3_extend_47 : decode cX3_extend 47 = .ok (.getfield 16, 3) := by decide +kernel
theorem dX3_extend_50 : decode cX3_extend 50 = .ok (.iload_n 1, 1) := by decide +kernel
theorem dX3_extend_51 : decode cX3_extend 51 = .ok (.iaload, 1) := by decide +kernel
theorem dX3_extend_52 : decode cX3_extend 52 = .ok (.istore_n 3, 1) := by decide +kernel
theorem dX3_extend_53 : decode cX3_extend 53 = .ok (.aload_n 0, 1) := by decide +kernel
theorem dX3_extend_54 : decode cX3_extend 54 = .ok (.getfield 16, 3) := by decide +kernel
theorem dX3_extend_57 : decode cX3_extend 57 = .ok (.iload_n 1, 1) := by decide +kernel
theorem dX3_extend_58 : decode cX3_extend 58 = .ok (.iload_n 2, 1) := by decide +kernel
theorem dX3_extend_59 : decode cX3_extend 59 = .ok (.iastore, 1) := by decide +kernel
theorem dX3_extend_60 : decode cX3_extend 60 = .ok (.iload_n 3, 1) := by decide +kernel
theorem dX3_extend_61 : decode cX3_extend 61 = .ok (.ireturn, 1) := by decide +kernel
theorem dX3_roomOf_0 : decode cX3_roomOf 0 = .ok (.aload_n 0, 1) := by decide +kernel
theorem dX3_roomOf_1 : decode cX3_roomOf 1 = .ok (.getfield 7, 3) := by decide +kernel
theorem dX3_roomOf_4 : decode cX3_roomOf 4 = .ok (.iload_n 1, 1) := by decide +kernel
theorem dX3_roomOf_5 : decode cX3_roomOf 5 = .ok (.iaload, 1) := by decide +kernel
theorem dX3_roomOf_6 : decode cX3_roomOf 6 = .ok (.aload_n 0, 1) := by decide +kernel
theorem dX3_roomOf_7 : decode cX3_roomOf 7 = .ok (.getfield 23, 3) := by decide +kernel
theorem dX3_roomOf_10 : decode cX3_roomOf 10 = .ok (.iload_n 1, 1) := by decide +kernel
theorem dX3_roomOf_11 : decode cX3_roomOf 11 = .ok (.iaload, 1) := by decide +kernel
theorem dX3_roomOf_12 : decode cX3_roomOf 12 = .ok (.iadd, 1) := by decide +kernel
theorem dX3_roomOf_13 : decode cX3_roomOf 13 = .ok (.aload_n 0, 1) := by decide +kernel
theorem dX3_roomOf_14 : decode cX3_roomOf 14 = .ok (.getfield 26, 3) := by decide +kernel
theorem dX3_roomOf_17 : decode cX3_roomOf 17 = .ok (.iload_n 1, 1) := by decide +kernel
theorem dX3_roomOf_18 : decode cX3_roomOf 18 = .ok (.iaload, 1) := by decide +kernel
theorem dX3_roomOf_19 : decode cX3_roomOf 19 = .ok (.isub, 1) := by decide +kernel
theorem dX3_roomOf_20 : decode cX3_roomOf 20 = .ok (.ireturn, 1) := by decide +kernel
set_option maxRecDepth 20000 in
theorem ggX3_move_X3_isLine : GoodIn wsX3_move wsX3_isLine := goodIn_r _ [10, 11, 12, 13, 9, 14, 19, 20, 21, 22, 23, 24, 25, 26, 27, 28, 29, 30, 31, 32, 33, 34, 35, 36, 37, 38, 39, 40, 41, 42] (by decide +kernel) (by decide +kernel)
set_option maxRecDepth 20000 in
theorem gX3_move_X3_isLine : GoodIn wsX3_move (wsV RX3 86 RX3 yX3_isLine wsX3_isLine) := goodIn_app (goodIn_of _ (by decide +kernel)) ggX3_move_X3_isLine
set_option maxRecDepth 20000 in
theorem ggX3_move_X3_in : GoodIn wsX3_move wsX3_in := goodIn_r _ [14] (by decide +kernel) (by decide +kernel)
set_option maxRecDepth 20000 in
theorem gX3_move_X3_in : GoodIn wsX3_move (va_wsS RX3 74 yX3_in wsX3_in) := goodIn_app (goodIn_of _ (by decide +kernel)) ggX3_move_X3_in
set_option maxRecDepth 20000 in
theorem ggX3_move_X3_roomOf : GoodIn wsX3_move wsX3_roomOf := goodIn_r _ [18, 3, 5, 2, 19, 20, 21, 22, 23, 24, 25, 26, 27, 28, 29, 30, 31, 32, 33, 34, 35, 36, 37, 38, 39, 40, 41, 42] (by decide +kernel) (by decide +kernel)
set_option maxRecDepth 20000 in
theorem gX3_move_X3_roomOf : GoodIn wsX3_move (wsV RX3 90 RX3 yX3_roomOf wsX3_roomOf) := goodIn_app (goodIn_of _ (by decide +kernel)) ggX3_move_X3_roomOf
theorem dX3_move_0 : decode cX3_move 0 = .ok (.aload_n 0, 1) := by decide +kernel
theorem dX3_move_1 : decode cX3_move 1 = .ok (.aload_n 0, 1) := by decide +kernel
theorem dX3_move_2 : decode cX3_move 2 = .ok (.iload_n 1, 1) := by decide +kernel
theorem dX3_move_3 : decode cX3_move 3 = .ok (.invokevirtual 86, 3) := by decide +kernel
theorem dX3_move_6 : decode cX3_move 6 = .ok (.ifCond .eq 11, 3) := by decide +kernel
theorem dX3_move_9 : decode cX3_move 9 = .ok (.aload_n 0, 1) := by decide +kernel
theorem dX3_move_10 : decode cX3_move 10 = .ok (.iload_n 2, 1) := by decide +kernel
theorem dX3_move_11 : decode cX3_move 11 = .ok (.invokevirtual 86, 3) := by decide +kernel
theorem dX3_move_14 : decode cX3_move 14 = .ok (.ifCond .ne 7, 3) := by decide +kernel
theorem dX3_move_17 : decode cX3_move 17 = .ok (.iconst 1, 1) := by decide +kernel
theorem dX3_move_18 : decode cX3_move 18 = .ok (.goto 47, 3) := by decide +kernel
theorem dX3_move_21 : decode cX3_move 21 = .ok (.iload_n 3, 1) := by decide +kernel
theorem dX3_move_22 : decode cX3_move 22 = .ok (.iconst 1, 1) := by decide +kernel
theorem dX3_move_23 : decode cX3_move 23 = .ok (.ldc 85, 2) := by decide +kernel
theorem dX3_move_25 : decode cX3_move 25 = .ok (.invokestatic 74, 3) := by decide +kernel
theorem dX3_move_28 : decode cX3_move 28 = .ok (.ifCond .eq 8, 3) := by decide +kernel
theorem dX3_move_31 : decode cX3_move 31 = .ok (.iload_n 1, 1) := by decide +kernel
theorem dX3_move_32 : decode cX3_move 32 = .ok (.iload_n 2, 1) := by decide +kernel
theorem dX3_move_33 : decode cX3_move 33 = .ok (.if_icmp .ne 7, 3) := by decide +kernel
theorem dX3_move_36 : decode cX3_move 36 = .ok (.iconst 2, 1) := by decide +kernel
theorem dX3_move_37 : decode cX3_move 37 = .ok (.goto 28, 3) := by decide +kernel
theorem dX3_move_40 : decode cX3_move 40 = .ok (.aload_n 0, 1) := by decide +kernel
theorem dX3_move_41 : decode cX3_move 41 = .ok (.getfield 26, 3) := by decide +kernel
theorem dX3_move_44 : decode cX3_move 44 = .ok (.iload_n 1, 1) := by decide +kernel
theorem dX3_move_45 : decode cX3_move 45 = .ok (.iaload, 1) := by decide +kernel
theorem dX3_move_46 : decode cX3_move 46 = .ok (.iload_n 3, 1) := by decide +kernel
theorem dX3_move_47 : decode cX3_move 47 = .ok (.iadd, 1) := by decide +kernel
theorem dX3_move_48 : decode cX3_move 48 = .ok (.aload_n 0, 1) := by decide +kernel
theorem dX3_move_49 : decode cX3_move 49 = .ok (.getfield 7, 3) := by decide +kernel
theorem dX3_move_52 : decode cX3_move 52 = .ok (.iload_n 1, 1) := by decide +kernel
theorem dX3_move_53 : decode cX3_move 53 = .ok (.iaload, 1) := by decide +kernel
theorem dX3_move_54 : decode cX3_move 54 = .ok (.bipush 10, 2) := by decide +kernel
theorem dX3_move_56 : decode cX3_move 56 = .ok (.idiv, 1) := by decide +kernel
theorem dX3_move_57 : decode cX3_move 57 = .ok (.if_icmp .le 7, 3) := by decide +kernel
theorem dX3_move_60 : decode cX3_move 60 = .ok (.iconst 3, 1) := by decide +kernel
theorem dX3_move_61 : decode cX3_move 61 = .ok (.goto 4, 3) := by decide +kernel
theorem dX3_move_64 : decode cX3_move 64 = .ok (.iconst 0, 1) := by decide +kernel
theorem dX3_move_65 : decode cX3_move 65 = .ok (.putfield 68, 3) := by decide +kernel
theorem dX3_move_68 : decode cX3_move 68 = .ok (.aload_n 0, 1) := by decide +kernel
theorem dX3_move_69 : decode cX3_move 69 = .ok (.getfield 68, 3) := by decide +kernel
theorem dX3_move_72 : decode cX3_move 72 = .ok (.ifCond .le 5, 3) := by decide +kernel
theorem dX3_move_75 : decode cX3_move 75 = .ok (.iconst 0, 1) := by decide +kernel
theorem dX3_move_76 : decode cX3_move 76 = .ok (.ireturn, 1) := by decide +kernel
theorem dX3_move_77 : decode cX3_move 77 = .ok (.aload_n 0, 1) := by decide +kernel
theorem dX3_move_78 : decode cX3_move 78 = .ok (.getfield 26, 3) := by decide +kernel
theorem dX3_move_81 : decode cX3_move 81 = .ok (.iload_n 1, 1) := by decide +kernel
theorem dX3_move_82 : decode cX3_move 82 = .ok (.dup2, 1) := by decide +kernel
theorem dX3_move_83 : decode cX3_move 83 = .ok (.iaload, 1) := by decide +kernel
theorem dX3_move_84 : decode cX3_move 84 = .ok (.iload_n 3, 1) := by decide +kernel
theorem dX3_move_85 : decode cX3_move 85 = .ok (.iadd, 1) := by decide +kernel
theorem dX3_move_86 : decode cX3_move 86 = .ok (.iastore, 1) := by decide +kernel
theorem dX3_move_87 : decode cX3_move 87 = .ok (.aload_n 0, 1) := by decide +kernel
theorem dX3_move_88 : decode cX3_move 88 = .ok (.getfield 23, 3) := by decide +kernel
theorem dX3_move_91 : decode cX3_move 91 = .ok (.iload_n 2, 1) := by decide +kernel
theorem dX3_move_92 : decode cX3_move 92 = .ok (.dup2, 1) := by decide +kernel
theorem dX3_move_93 : decode cX3_move 93 = .ok (.iaload, 1) := by decide +kernel
theorem dX3_move_94 : decode cX3_move 94 = .ok (.iload_n 3, 1) := by decide +kernel
theorem dX3_move_95 : decode cX3_move 95 = .ok (.iadd, 1) := by decide +kernel
theorem dX3_move_96 : decode cX3_move 96 = .ok (.iastore, 1) := by decide +kernel
theorem dX3_move_97 : decode cX3_move 97 = .ok (.aload_n 0, 1) := by decide +kernel
theorem dX3_move_98 : decode cX3_move 98 = .ok (.iload_n 1, 1) := by decide +kernel
theorem dX3_move_99 : decode cX3_move 99 = .ok (.invokevirtual 90, 3) := by decide +kernel
theorem dX3_move_102 : decode cX3_move 102 = .ok (.ireturn, 1) := by decide +kernel
theorem dX3_lines_0 : decode cX3_lines 0 = .ok (.aload_n 0, 1) := by decide +kernel
theorem dX3_lines_1 : decode cX3_lines 1 = .ok (.iconst 0, 1) := by decide +kernel
theorem dX3_lines_2 : decode cX3_lines 2 = .ok (.putfield 68, 3) := by decide +kernel
theorem dX3_lines_5 : decode cX3_lines 5 = .ok (.aload_n 0, 1) := by decide +kernel
theorem dX3_lines_6 : decode cX3_lines 6 = .ok (.getfield 71, 3) := by decide +kernel
theorem dX3_lines_9 : decode cX3_lines 9 = .ok (.ireturn, 1) := by decide +kernel
set_option maxRecDepth 20000 in
theorem ggX3_room_X3_isLine : GoodIn wsX3_room wsX3_isLine := goodIn_r _ [6, 7, 8, 9, 5, 10, 18, 19, 20, 21, 22, 23, 24, 25, 26, 27, 28, 29, 30, 31, 32, 33, 34, 35, 36, 37, 38, 39, 40, 41] (by decide +kernel) (by decide +kernel)
set_option maxRecDepth 20000 in
theorem gX3_room_X3_isLine : GoodIn wsX3_room (wsV RX3 86 RX3 yX3_isLine wsX3_isLine) := goodIn_app (goodIn_of _ (by decide +kernel)) ggX3_room_X3_isLine
set_option maxRecDepth 20000 in
theorem ggX3_room_X3_roomOf : GoodIn wsX3_room wsX3_roomOf := goodIn_r _ [14, 15, 16, 17, 18, 19, 20, 21, 22, 23, 24, 25, 26, 27, 28, 29, 30, 31, 32, 33, 34, 35, 36, 37, 38, 39, 40, 41] (by decide +kernel) (by decide +kernel)
set_option maxRecDepth 20000 in
theorem gX3_room_X3_roomOf : GoodIn wsX3_room (wsV RX3 90 RX3 yX3_roomOf wsX3_roomOf) := goodIn_app (goodIn_of _ (by decide +kernel)) ggX3_room_X3_roomOf
theorem dX3_room_0 : decode cX3_room 0 = .ok (.aload_n 0, 1) := by decide +kernel
theorem dX3_room_1 : decode cX3_room 1 = .ok (.aload_n 0, 1) := by decide +kernel
theorem dX3_room_2 : decode cX3_room 2 = .ok (.iload_n 1, 1) := by decide +kernel
theorem dX3_room_3 : decode cX3_room 3 = .ok (.invokevirtual 86, 3) := by decide +kernel
theorem dX3_room_6 : decode cX3_room 6 = .ok (.ifCond .eq 7, 3) := by decide +kernel
theorem dX3_room_9 : decode cX3_room 9 = .ok (.iconst 0, 1) := by decide +kernel
theorem dX3_room_10 : decode cX3_room 10 = .ok (.goto 4, 3) := by decide +kernel
theorem dX3_room_13 : decode cX3_room 13 = .ok (.iconst 1, 1) := by decide +kernel
theorem dX3_room_14 : decode cX3_room 14 = .ok (.putfield 68, 3) := by decide +kernel
theorem dX3_room_17 : decode cX3_room 17 = .ok (.aload_n 0, 1) := by decide +kernel
theorem dX3_room_18 : decode cX3_room 18 = .ok (.getfield 68, 3) := by decide +kernel
theorem dX3_room_21 : decode cX3_room 21 = .ok (.ifCond .ne 11, 3) := by decide +kernel
theorem dX3_room_24 : decode cX3_room 24 = .ok (.aload_n 0, 1) := by decide +kernel
theorem dX3_room_25 : decode cX3_room 25 = .ok (.iload_n 1, 1) := by decide +kernel
theorem dX3_room_26 : decode cX3_room 26 = .ok (.invokevirtual 90, 3) := by decide +kernel
theorem dX3_room_29 : decode cX3_room 29 = .ok (.goto 4, 3) := by decide +kernel
theorem dX3_room_32 : decode cX3_room 32 = .ok (.iconst 0, 1) := by decide +kernel
theorem dX3_room_33 : decode cX3_room 33 = .ok (.ireturn, 1) := by decide +kernel
set_option maxRecDepth 20000 in
theorem ggX3_isFit_X3_in : GoodIn wsX3_isFit wsX3_in := goodIn_r _ [9] (by decide +kernel) (by decide +kernel)
set_option maxRecDepth 20000 in
theorem gX3_isFit_X3_in : GoodIn wsX3_isFit (va_wsS RX3 74 yX3_in wsX3_in) := goodIn_app (goodIn_of _ (by decide +kernel)) ggX3_isFit_X3_in
theorem dX3_isFit_0 : decode cX3_isFit 0 = .ok (.aload_n 0, 1) := by decide +kernel
theorem dX3_isFit_1 : decode cX3_isFit 1 = .ok (.getfield 29, 3) := by decide +kernel
theorem dX3_isFit_4 : decode cX3_isFit 4 = .ok (.iload_n 1, 1) := by decide +kernel
theorem dX3_isFit_5 : decode cX3_isFit 5 = .ok (.iaload, 1) := by decide +kernel
theorem dX3_isFit_6 : decode cX3_isFit 6 = .ok (.istore_n 2, 1) := by decide +kernel
theorem dX3_isFit_7 : decode cX3_isFit 7 = .ok (.aload_n 0, 1) := by decide +kernel
theorem dX3_isFit_8 : decode cX3_isFit 8 = .ok (.getfield 38, 3) := by decide +kernel
theorem dX3_isFit_11 : decode cX3_isFit 11 = .ok (.iload_n 1, 1) := by decide +kernel
theorem dX3_isFit_12 : decode cX3_isFit 12 = .ok (.baload, 1) := by decide +kernel
theorem dX3_isFit_13 : decode cX3_isFit 13 = .ok (.ifCond .ne 31, 3) := by decide +kernel
theorem dX3_isFit_16 : decode cX3_isFit 16 = .ok (.aload_n 0, 1) := by decide +kernel
theorem dX3_isFit_17 : decode cX3_isFit 17 = .ok (.getfield 32, 3) := by decide +kernel
theorem dX3_isFit_20 : decode cX3_isFit 20 = .ok (.iload_n 1, 1) := by decide +kernel
theorem dX3_isFit_21 : decode cX3_isFit 21 = .ok (.iaload, 1) := by decide +kernel
theorem dX3_isFit_22 : decode cX3_isFit 22 = .ok (.aload_n 0, 1) := by decide +kernel
theorem dX3_isFit_23 : decode cX3_isFit 23 = .ok (.getfield 13, 3) := by decide +kernel
theorem dX3_isFit_26 : decode cX3_isFit 26 = .ok (.iload_n 2, 1) := by decide +kernel
theorem dX3_isFit_27 : decode cX3_isFit 27 = .ok (.iaload, 1) := by decide +kernel
theorem dX3_isFit_28 : decode cX3_isFit 28 = .ok (.aload_n 0, 1) := by decide +kernel
theorem dX3_isFit_29 : decode cX3_isFit 29 = .ok (.getfield 16, 3) := by decide +kernel
theorem dX3_isFit_32 : decode cX3_isFit 32 = .ok (.iload_n 2, 1) := by decide +kernel
theorem dX3_isFit_33 : decode cX3_isFit 33 = .ok (.iaload, 1) := by decide +kernel
theorem dX3_isFit_34 : decode cX3_isFit 34 = .ok (.invokestatic 74, 3) := by decide +kernel
theorem dX3_isFit_37 : decode cX3_isFit 37 = .ok (.ifCond .eq 7, 3) := by decide +kernel
theorem dX3_isFit_40 : decode cX3_isFit 40 = .ok (.iconst 1, 1) := by decide +kernel
theorem dX3_isFit_41 : decode cX3_isFit 41 = .ok (.goto 4, 3) := by decide +kernel
theorem dX3_isFit_44 : decode cX3_isFit 44 = .ok (.iconst 0, 1) := by decide +kernel
theorem dX3_isFit_45 : decode cX3_isFit 45 = .ok (.ireturn, 1) := by decide +kernel
set_option maxRecDepth 20000 in
theorem ggX3_layEligibles_X3_roomOf : GoodIn wsX3_layEligibles wsX3_roomOf := goodIn_r _ [12, 13, 14, 15, 27, 28, 29, 30, 31, 32, 33, 34, 35, 36, 37, 38, 39, 40, 41, 42, 43, 44, 45, 46, 47, 48, 49, 50] (by decide +kernel) (by decide +kernel)
set_option maxRecDepth 20000 in
theorem gX3_layEligibles_X3_roomOf : GoodIn wsX3_layEligibles (wsV RX3 90 RX3 yX3_roomOf wsX3_roomOf) := goodIn_app (goodIn_of _ (by decide +kernel)) ggX3_layEligibles_X3_roomOf
set_option maxRecDepth 20000 in
theorem ggX3_layEligibles_X3_isFit : GoodIn wsX3_layEligibles wsX3_isFit := goodIn_r _ [19, 5, 20, 21, 22, 23, 24, 25, 11, 26, 27, 28, 29, 30, 31, 32, 33, 34, 35, 36, 37, 38, 39, 40, 41, 42, 43, 44, 45, 46, 47, 48, 49, 50] (by decide +kernel) (by decide +kernel)
set_option maxRecDepth 20000 in
theorem gX3_layEligibles_X3_isFit : GoodIn wsX3_layEligibles (wsV RX3 94 RX3 yX3_isFit wsX3_isFit) := goodIn_app (goodIn_of _ (by decide +kernel)) ggX3_layEligibles_X3_isFit
theorem dX3_layEligibles_0 : decode cX3_layEligibles 0 = .ok (.iconst 0, 1) := by decide +kernel
theorem dX3_layEligibles_1 : decode cX3_layEligibles 1 = .ok (.istore_n 1, 1) := by decide +kernel
theorem dX3_layEligibles_2 : decode cX3_layEligibles 2 = .ok (.iload_n 1, 1) := by decide +kernel
theorem dX3_layEligibles_3 : decode cX3_layEligibles 3 = .ok (.aload_n 0, 1) := by decide +kernel
theorem dX3_layEligibles_4 : decode cX3_layEligibles 4 = .ok (.getfield 71, 3) := by decide +kernel
theorem dX3_layEligibles_7 : decode cX3_layEligibles 7 = .ok (.if_icmp .ge 16, 3) := by decide +kernel
theorem dX3_layEligibles_10 : decode cX3_layEligibles 10 = .ok (.aload_n 0, 1) := by decide +kernel
theorem dX3_layEligibles_11 : decode cX3_layEligibles 11 = .ok (.getfield 50, 3) := by decide +kernel
theorem dX3_layEligibles_14 : decode cX3_layEligibles 14 = .ok (.iload_n 1, 1) := by decide +kernel
theorem dX3_layEligibles_15 : decode cX3_layEligibles 15 = .ok (.iconst 0, 1) := by decide +kernel
theorem dX3_layEligibles_16 : decode cX3_layEligibles 16 = .ok (.iastore, 1) := by decide +kernel
theorem dX3_layEligibles_17 : decode cX3_layEligibles 17 = .ok (.iinc 1 1, 3) := by decide +kernel
theorem dX3_layEligibles_20 : decode cX3_layEligibles 20 = .ok (.goto (-18), 3) := by decide +kernel
theorem dX3_layEligibles_23 : decode cX3_layEligibles 23 = .ok (.iconst 0, 1) := by decide +kernel
theorem dX3_layEligibles_24 : decode cX3_layEligibles 24 = .ok (.istore_n 1, 1) := by decide +kernel
theorem dX3_layEligibles_25 : decode cX3_layEligibles 25 = .ok (.iload_n 1, 1) := by decide +kernel
theorem dX3_layEligibles_26 : decode cX3_layEligibles 26 = .ok (.aload_n 0, 1) := by decide +kernel
theorem dX3_layEligibles_27 : decode cX3_layEligibles 27 = .ok (.getfield 78, 3) := by decide +kernel
theorem dX3_layEligibles_30 : decode cX3_layEligibles 30 = .ok (.if_icmp .ge 105, 3) := by decide +kernel
theorem dX3_layEligibles_33 : decode cX3_layEligibles 33 = .ok (.aload_n 0, 1) := by decide +kernel
theorem dX3_layEligibles_34 : decode cX3_layEligibles 34 = .ok (.getfield 41, 3) := by decide +kernel
theorem dX3_layEligibles_37 : decode cX3_layEligibles 37 = .ok (.iload_n 1, 1) := by decide +kernel
theorem dX3_layEligibles_38 : decode cX3_layEligibles 38 = .ok (.iaload, 1) := by decide +kernel
theorem dX3_layEligibles_39 : decode cX3_layEligibles 39 = .ok (.istore_n 2, 1) := by decide +kernel
theorem dX3_layEligibles_40 : decode cX3_layEligibles 40 = .ok (.aload_n 0, 1) := by decide +kernel
theorem dX3_layEligibles_41 : decode cX3_layEligibles 41 = .ok (.getfield 29, 3) := by decide +kernel
theorem dX3_layEligibles_44 : decode cX3_layEligibles 44 = .ok (.iload_n 2, 1) := by decide +kernel
theorem dX3_layEligibles_45 : decode cX3_layEligibles 45 = .ok (.iaload, 1) := by decide +kernel
theorem dX3_layEligibles_46 : decode cX3_layEligibles 46 = .ok (.istore_n 3, 1) := by decide +kernel
theorem dX3_layEligibles_47 : decode cX3_layEligibles 47 = .ok (.aload_n 0, 1) := by decide +kernel
theorem dX3_layEligibles_48 : decode cX3_layEligibles 48 = .ok (.iload_n 3, 1) := by decide +kernel
theorem dX3_layEligibles_49 : decode cX3_layEligibles 49 = .ok (.invokevirtual 90, 3) := by decide +kernel
theorem dX3_layEligibles_52 : decode cX3_layEligibles 52 = .ok (.aload_n 0, 1) := by decide +kernel
theorem dX3_layEligibles_53 : decode cX3_layEligibles 53 = .ok (.getfield 50, 3) := by decide +kernel
theorem dX3_layEligibles_56 : decode cX3_layEligibles 56 = .ok (.iload_n 3, 1) := by decide +kernel
theorem dX3_layEligibles_57 : decode cX3_layEligibles 57 = .ok (.iaload, 1) := by decide +kernel
theorem dX3_layEligibles_58 : decode cX3_layEligibles 58 = .ok (.isub, 1) := by decide +kernel
theorem dX3_layEligibles_59 : decode cX3_layEligibles 59 = .ok (.istore 4, 2) := by decide +kernel
theorem dX3_layEligibles_61 : decode cX3_layEligibles 61 = .ok (.iload 4, 2) := by decide +kernel
theorem dX3_layEligibles_63 : decode cX3_layEligibles 63 = .ok (.ifCond .ge 7, 3) := by decide +kernel
theorem dX3_layEligibles_66 : decode cX3_layEligibles 66 = .ok (.iconst 0, 1) := by decide +kernel
theorem dX3_layEligibles_67 : decode cX3_layEligibles 67 = .ok (.goto 5, 3) := by decide +kernel
theorem dX3_layEligibles_70 : decode cX3_layEligibles 70 = .ok (.iload 4, 2) := by decide +kernel
theorem dX3_layEligibles_72 : decode cX3_layEligibles 72 = .ok (.istore 5, 2) := by decide +kernel
theorem dX3_layEligibles_74 : decode cX3_layEligibles 74 = .ok (.aload_n 0, 1) := by decide +kernel
theorem dX3_layEligibles_75 : decode cX3_layEligibles 75 = .ok (.getfield 47, 3) := by decide +kernel
theorem dX3_layEligibles_78 : decode cX3_layEligibles 78 = .ok (.iload_n 2, 1) := by decide +kernel
theorem dX3_layEligibles_79 : decode cX3_layEligibles 79 = .ok (.aload_n 0, 1) := by decide +kernel
theorem dX3_layEligibles_80 : decode cX3_layEligibles 80 = .ok (.iload_n 2, 1) := by decide +kernel
theorem dX3_layEligibles_81 : decode cX3_layEligibles 81 = .ok (.invokevirtual 94, 3) := by decide +kernel
theorem dX3_layEligibles_84 : decode cX3_layEligibles 84 = .ok (.ifCond .ne 7, 3) := by decide +kernel
theorem dX3_layEligibles_87 : decode cX3_layEligibles 87 = .ok (.iconst 0, 1) := by decide +kernel
theorem dX3_layEligibles_88 : decode cX3_layEligibles 88 = .ok (.goto 25, 3) := by decide +kernel
theorem dX3_layEligibles_91 : decode cX3_layEligibles 91 = .ok (.aload_n 0, 1) := by decide +kernel
theorem dX3_layEligibles_92 : decode cX3_layEligibles 92 = .ok (.getfield 35, 3) := by decide +kernel
theorem dX3_layEligibles_95 : decode cX3_layEligibles 95 = .ok (.iload_n 2, 1) := by decide +kernel
theorem dX3_layEligibles_96 : decode cX3_layEligibles 96 = .ok (.iaload, 1) := by decide +kernel
theorem dX3_layEligibles_97 : decode cX3_layEligibles 97 = .ok (.iload 5, 2) := by decide +kernel
theorem dX3_layEligibles_99 : decode cX3_layEligibles 99 = .ok (.if_icmp .ge 12, 3) := by decide +kernel
theorem dX3_layEligibles_102 : decode cX3_layEligibles 102 = .ok (.aload_n 0, 1) := by decide +kernel
theorem dX3_layEligibles_103 : decode cX3_layEligibles 103 = .ok (.getfield 35, 3) := by decide +kernel
theorem dX3_layEligibles_106 : decode cX3_layEligibles 106 = .ok (.iload_n 2, 1) := by decide +kernel
theorem dX3_layEligibles_107 : decode cX3_layEligibles 107 = .ok (.iaload, 1) := by decide +kernel
theorem dX3_layEligibles_108 : decode cX3_layEligibles 108 = .ok (.goto 5, 3) := by decide +kernel
theorem dX3_layEligibles_111 : decode cX3_layEligibles 111 = .ok (.iload 5, 2) := by decide +kernel
theorem dX3_layEligibles_113 : decode cX3_layEligibles 113 = .ok (.iastore, 1) := by decide +kernel
theorem dX3_layEligibles_114 : decode cX3_layEligibles 114 = .ok (.aload_n 0, 1) := by decide +kernel
theorem dX3_layEligibles_115 : decode cX3_layEligibles 115 = .ok (.getfield 50, 3) := by decide +kernel
theorem dX3_layEligibles_118 : decode cX3_layEligibles 118 = .ok (.iload_n 3, 1) := by decide +kernel
theorem dX3_layEligibles_119 : decode cX3_layEligibles 119 = .ok (.dup2, 1) := by decide +kernel
theorem dX3_layEligibles_120 : decode cX3_layEligibles 120 = .ok (.iaload, 1) := by decide +kernel
theorem dX3_layEligibles_121 : decode cX3_layEligibles 121 = .ok (.aload_n 0, 1) := by decide +kernel
theorem dX3_layEligibles_122 : decode cX3_layEligibles 122 = .ok (.getfield 47, 3) := by decide +kernel
theorem dX3_layEligibles_125 : decode cX3_layEligibles 125 = .ok (.iload_n 2, 1) := by decide +kernel
theorem dX3_layEligibles_126 : decode cX3_layEligibles 126 = .ok (.iaload, 1) := by decide +kernel
theorem dX3_layEligibles_127 : decode cX3_layEligibles 127 = .ok (.iadd, 1) := by decide +kernel
theorem dX3_layEligibles_128 : decode cX3_layEligibles 128 = .ok (.iastore, 1) := by decide +kernel
theorem dX3_layEligibles_129 : decode cX3_layEligibles 129 = .ok (.iinc 1 1, 3) := by decide +kernel
theorem dX3_layEligibles_132 : decode cX3_layEligibles 132 = .ok (.goto (-107), 3) := by decide +kernel
theorem dX3_layEligibles_135 : decode cX3_layEligibles 135 = .ok (.return_, 1) := by decide +kernel
set_option maxRecDepth 20000 in
theorem ggX3_allEligible_X3_layEligibles : GoodIn wsX3_allEligible wsX3_layEligibles := goodIn_r _ [7, 8, 9, 1, 10, 11, 2, 12, 13, 14, 15, 6, 16, 17, 18, 19, 20, 21, 22, 23, 24, 25, 26, 27, 28, 29, 30, 31, 32, 33, 34, 35, 36, 37, 38, 39, 40, 41, 42, 43, 44, 45, 46, 47, 48, 49, 50, 51, 52, 53, 54] (by decide +kernel) (by decide +kernel)
set_option maxRecDepth 20000 in
theorem gX3_allEligible_X3_layEligibles : GoodIn wsX3_allEligible (wsV RX3 97 RX3 yX3_layEligibles wsX3_layEligibles) := goodIn_app (goodIn_of _ (by decide +kernel)) ggX3_allEligible_X3_layEligibles
theorem dX3_allEligible_0 : decode cX3_allEligible 0 = .ok (.aload_n 0, 1) := by decide +kernel
theorem dX3_allEligible_1 : decode cX3_allEligible 1 = .ok (.invokevirtual 97, 3) := by decide +kernel
theorem dX3_allEligible_4 : decode cX3_allEligible 4 = .ok (.iconst 0, 1) := by decide +kernel
theorem dX3_allEligible_5 : decode cX3_allEligible 5 = .ok (.istore_n 1, 1) := by decide +kernel
theorem dX3_allEligible_6 : decode cX3_allEligible 6 = .ok (.iconst 0, 1) := by decide +kernel
theorem dX3_allEligible_7 : decode cX3_allEligible 7 = .ok (.istore_n 2, 1) := by decide +kernel
theorem dX3_allEligible_8 : decode cX3_allEligible 8 = .ok (.iload_n 2, 1) := by decide +kernel
theorem dX3_allEligible_9 : decode cX3_allEligible 9 = .ok (.aload_n 0, 1) := by decide +kernel
theorem dX3_allEligible_10 : decode cX3_allEligible 10 = .ok (.getfield 78, 3) := by decide +kernel
theorem dX3_allEligible_13 : decode cX3_allEligible 13 = .ok (.if_icmp .ge 18, 3) := by decide +kernel
theorem dX3_allEligible_16 : decode cX3_allEligible 16 = .ok (.iload_n 1, 1) := by decide +kernel
theorem dX3_allEligible_17 : decode cX3_allEligible 17 = .ok (.aload_n 0, 1) := by decide +kernel
theorem dX3_allEligible_18 : decode cX3_allEligible 18 = .ok (.getfield 47, 3) := by decide +kernel
theorem dX3_allEligible_21 : decode cX3_allEligible 21 = .ok (.iload_n 2, 1) := by decide +kernel
theorem dX3_allEligible_22 : decode cX3_allEligible 22 = .ok (.iaload, 1) := by decide +kernel
theorem dX3_allEligible_23 : decode cX3_allEligible 23 = .ok (.iadd, 1) := by decide +kernel
theorem dX3_allEligible_24 : decode cX3_allEligible 24 = .ok (.istore_n 1, 1) := by decide +kernel
theorem dX3_allEligible_25 : decode cX3_allEligible 25 = .ok (.iinc 2 1, 3) := by decide +kernel
theorem dX3_allEligible_28 : decode cX3_allEligible 28 = .ok (.goto (-20), 3) := by decide +kernel
theorem dX3_allEligible_31 : decode cX3_allEligible 31 = .ok (.iload_n 1, 1) := by decide +kernel
theorem dX3_allEligible_32 : decode cX3_allEligible 32 = .ok (.ireturn, 1) := by decide +kernel
set_option maxRecDepth 20000 in
theorem ggX3_left_X3_isLine : GoodIn wsX3_left wsX3_isLine := goodIn_r _ [7, 8, 9, 10, 6, 11, 36, 37, 38, 39, 40, 41, 42, 43, 44, 45, 46, 47, 48, 49, 50, 51, 52, 53, 54, 55, 56, 57, 58, 59] (by decide +kernel) (by decide +kernel)
set_option maxRecDepth 20000 in
theorem gX3_left_X3_isLine : GoodIn wsX3_left (wsV RX3 86 RX3 yX3_isLine wsX3_isLine) := goodIn_app (goodIn_of _ (by decide +kernel)) ggX3_left_X3_isLine
set_option maxRecDepth 20000 in
theorem ggX3_left_X3_layEligibles : GoodIn wsX3_left wsX3_layEligibles := goodIn_r _ [15, 8, 2, 16, 17, 18, 19, 20, 21, 22, 23, 6, 24, 25, 26, 27, 28, 29, 30, 31, 32, 33, 34, 35, 9, 10, 11, 36, 37, 38, 39, 40, 41, 42, 43, 44, 45, 46, 47, 48, 49, 50, 51, 52, 53, 54, 55, 56, 57, 58, 59] (by decide +kernel) (by decide +kernel)
set_option maxRecDepth 20000 in
theorem gX3_left_X3_layEligibles : GoodIn wsX3_left (wsV RX3 97 RX3 yX3_layEligibles wsX3_layEligibles) := goodIn_app (goodIn_of _ (by decide +kernel)) ggX3_left_X3_layEligibles
set_option maxRecDepth 20000 in
theorem ggX3_left_X3_roomOf : GoodIn wsX3_left wsX3_roomOf := goodIn_r _ [24, 25, 26, 27, 36, 37, 38, 39, 40, 41, 42, 43, 44, 45, 46, 47, 48, 49, 50, 51, 52, 53, 54, 55, 56, 57, 58, 59] (by decide +kernel) (by decide +kernel)
set_option maxRecDepth 20000 in
theorem gX3_left_X3_roomOf : GoodIn wsX3_left (wsV RX3 90 RX3 yX3_roomOf wsX3_roomOf) := goodIn_app (goodIn_of _ (by decide +kernel)) ggX3_left_X3_roomOf
theorem dX3_left_0 : decode cX3_left 0 = .ok (.aload_n 0, 1) := by decide +kernel
theorem dX3_left_1 : decode cX3_left 1 = .ok (.aload_n 0, 1) := by decide +kernel
theorem dX3_left_2 : decode cX3_left 2 = .ok (.iload_n 1, 1) := by decide +kernel
theorem dX3_left_3 : decode cX3_left 3 = .ok (.invokevirtual 86, 3) := by decide +kernel
theorem dX3_left_6 : decode cX3_left 6 = .ok (.ifCond .eq 7, 3) := by decide +kernel
theorem dX3_left_9 : decode cX3_left 9 = .ok (.iconst 0, 1) := by decide +kernel
theorem dX3_left_10 : decode cX3_left 10 = .ok (.goto 4, 3) := by decide +kernel
theorem dX3_left_13 : decode cX3_left 13 = .ok (.iconst 1, 1) := by decide +kernel
theorem dX3_left_14 : decode cX3_left 14 = .ok (.putfield 68, 3) := by decide +kernel
theorem dX3_left_17 : decode cX3_left 17 = .ok (.aload_n 0, 1) := by decide +kernel
theorem dX3_left_18 : decode cX3_left 18 = .ok (.getfield 68, 3) := by decide +kernel
theorem dX3_left_21 : decode cX3_left 21 = .ok (.ifCond .le 5, 3) := by decide +kernel
theorem dX3_left_24 : decode cX3_left 24 = .ok (.iconst 0, 1) := by decide +kernel
theorem dX3_left_25 : decode cX3_left 25 = .ok (.ireturn, 1) := by decide +kernel
theorem dX3_left_26 : decode cX3_left 26 = .ok (.aload_n 0, 1) := by decide +kernel
theorem dX3_left_27 : decode cX3_left 27 = .ok (.invokevirtual 97, 3) := by decide +kernel
theorem dX3_left_30 : decode cX3_left 30 = .ok (.aload_n 0, 1) := by decide +kernel
theorem dX3_left_31 : decode cX3_left 31 = .ok (.iload_n 1, 1) := by decide +kernel
theorem dX3_left_32 : decode cX3_left 32 = .ok (.invokevirtual 90, 3) := by decide +kernel
theorem dX3_left_35 : decode cX3_left 35 = .ok (.aload_n 0, 1) := by decide +kernel
theorem dX3_left_36 : decode cX3_left 36 = .ok (.getfield 50, 3) := by decide +kernel
theorem dX3_left_39 : decode cX3_left 39 = .ok (.iload_n 1, 1) := by decide +kernel
theorem dX3_left_40 : decode cX3_left 40 = .ok (.iaload, 1) := by decide +kernel
theorem dX3_left_41 : decode cX3_left 41 = .ok (.isub, 1) := by decide +kernel
theorem dX3_left_42 : decode cX3_left 42 = .ok (.ireturn, 1) := by decide +kernel
set_option maxRecDepth 20000 in
theorem ggX3_spend_X3_isLine : GoodIn wsX3_spend wsX3_isLine := goodIn_r _ [12, 13, 14, 15, 11, 16, 17, 18, 19, 20, 21, 22, 23, 24, 25, 26, 27, 28, 29, 30, 31, 32, 33, 34, 35, 36, 37, 38, 39, 40] (by decide +kernel) (by decide +kernel)
set_option maxRecDepth 20000 in
theorem gX3_spend_X3_isLine : GoodIn wsX3_spend (wsV RX3 86 RX3 yX3_isLine wsX3_isLine) := goodIn_app (goodIn_of _ (by decide +kernel)) ggX3_spend_X3_isLine
set_option maxRecDepth 20000 in
theorem ggX3_spend_X3_in : GoodIn wsX3_spend wsX3_in := goodIn_r _ [16] (by decide +kernel) (by decide +kernel)
set_option maxRecDepth 20000 in
theorem gX3_spend_X3_in : GoodIn wsX3_spend (va_wsS RX3 74 yX3_in wsX3_in) := goodIn_app (goodIn_of _ (by decide +kernel)) ggX3_spend_X3_in
theorem dX3_spend_0 : decode cX3_spend 0 = .ok (.aload_n 0, 1) := by decide +kernel
theorem dX3_spend_1 : decode cX3_spend 1 = .ok (.aload_n 0, 1) := by decide +kernel
theorem dX3_spend_2 : decode cX3_spend 2 = .ok (.iload_n 1, 1) := by decide +kernel
theorem dX3_spend_3 : decode cX3_spend 3 = .ok (.invokevirtual 86, 3) := by decide +kernel
theorem dX3_spend_6 : decode cX3_spend 6 = .ok (.ifCond .ne 7, 3) := by decide +kernel
theorem dX3_spend_9 : decode cX3_spend 9 = .ok (.iconst 1, 1) := by decide +kernel
theorem dX3_spend_10 : decode cX3_spend 10 = .ok (.goto 42, 3) := by decide +kernel
theorem dX3_spend_13 : decode cX3_spend 13 = .ok (.iload_n 2, 1) := by decide +kernel
theorem dX3_spend_14 : decode cX3_spend 14 = .ok (.iconst 0, 1) := by decide +kernel
theorem dX3_spend_15 : decode cX3_spend 15 = .ok (.sipush 9999, 3) := by decide +kernel
theorem dX3_spend_18 : decode cX3_spend 18 = .ok (.invokestatic 74, 3) := by decide +kernel
theorem dX3_spend_21 : decode cX3_spend 21 = .ok (.ifCond .eq 13, 3) := by decide +kernel
theorem dX3_spend_24 : decode cX3_spend 24 = .ok (.iload_n 3, 1) := by decide +kernel
theorem dX3_spend_25 : decode cX3_spend 25 = .ok (.iconst 1, 1) := by decide +kernel
theorem dX3_spend_26 : decode cX3_spend 26 = .ok (.ldc 85, 2) := by decide +kernel
theorem dX3_spend_28 : decode cX3_spend 28 = .ok (.invokestatic 74, 3) := by decide +kernel
theorem dX3_spend_31 : decode cX3_spend 31 = .ok (.ifCond .ne 7, 3) := by decide +kernel
theorem dX3_spend_34 : decode cX3_spend 34 = .ok (.iconst 2, 1) := by decide +kernel
theorem dX3_spend_35 : decode cX3_spend 35 = .ok (.goto 17, 3) := by decide +kernel
theorem dX3_spend_38 : decode cX3_spend 38 = .ok (.aload_n 0, 1) := by decide +kernel
theorem dX3_spend_39 : decode cX3_spend 39 = .ok (.getfield 78, 3) := by decide +kernel
theorem dX3_spend_42 : decode cX3_spend 42 = .ok (.bipush 100, 2) := by decide +kernel
theorem dX3_spend_44 : decode cX3_spend 44 = .ok (.if_icmp .ne 7, 3) := by decide +kernel
theorem dX3_spend_47 : decode cX3_spend 47 = .ok (.iconst 3, 1) := by decide +kernel
theorem dX3_spend_48 : decode cX3_spend 48 = .ok (.goto 4, 3) := by decide +kernel
theorem dX3_spend_51 : decode cX3_spend 51 = .ok (.iconst 0, 1) := by decide +kernel
theorem dX3_spend_52 : decode cX3_spend 52 = .ok (.putfield 68, 3) := by decide +kernel
theorem dX3_spend_55 : decode cX3_spend 55 = .ok (.aload_n 0, 1) := by decide +kernel
theorem dX3_spend_56 : decode cX3_spend 56 = .ok (.getfield 68, 3) := by decide +kernel
theorem dX3_spend_59 : decode cX3_spend 59 = .ok (.ifCond .le 5, 3) := by decide +kernel
theorem dX3_spend_62 : decode cX3_spend 62 = .ok (.iconst 0, 1) := by decide +kernel
theorem dX3_spend_63 : decode cX3_spend 63 = .ok (.ireturn, 1) := by decide +kernel
theorem dX3_spend_64 : decode cX3_spend 64 = .ok (.aload_n 0, 1) := by decide +kernel
theorem dX3_spend_65 : decode cX3_spend 65 = .ok (.getfield 29, 3) := by decide +kernel
theorem dX3_spend_68 : decode cX3_spend 68 = .ok (.aload_n 0, 1) := by decide +kernel
theorem dX3_spend_69 : decode cX3_spend 69 = .ok (.getfield 78, 3) := by decide +kernel
theorem dX3_spend_72 : decode cX3_spend 72 = .ok (.iload_n 1, 1) := by decide +kernel
theorem dX3_spend_73 : decode cX3_spend 73 = .ok (.iastore, 1) := by decide +kernel
theorem dX3_spend_74 : decode cX3_spend 74 = .ok (.aload_n 0, 1) := by decide +kernel
theorem dX3_spend_75 : decode cX3_spend 75 = .ok (.getfield 32, 3) := by decide +kernel
theorem dX3_spend_78 : decode cX3_spend 78 = .ok (.aload_n 0, 1) := by decide +kernel
theorem dX3_spend_79 : decode cX3_spend 79 = .ok (.getfield 78, 3) := by decide +kernel
theorem dX3_spend_82 : decode cX3_spend 82 = .ok (.iload_n 2, 1) := by decide +kernel
theorem dX3_spend_83 : decode cX3_spend 83 = .ok (.iastore, 1) := by decide +kernel
theorem dX3_spend_84 : decode cX3_spend 84 = .ok (.aload_n 0, 1) := by decide +kernel
theorem dX3_spend_85 : decode cX3_spend 85 = .ok (.getfield 35, 3) := by decide +kernel
theorem dX3_spend_88 : decode cX3_spend 88 = .ok (.aload_n 0, 1) := by decide +kernel
theorem dX3_spend_89 : decode cX3_spend 89 = .ok (.getfield 78, 3) := by decide +kernel
theorem dX3_spend_92 : decode cX3_spend 92 = .ok (.iload_n 3, 1) := by decide +kernel
theorem dX3_spend_93 : decode cX3_spend 93 = .ok (.iastore, 1) := by decide +kernel
theorem dX3_spend_94 : decode cX3_spend 94 = .ok (.aload_n 0, 1) := by decide +kernel
theorem dX3_spend_95 : decode cX3_spend 95 = .ok (.getfield 78, 3) := by decide +kernel
theorem dX3_spend_98 : decode cX3_spend 98 = .ok (.istore 4, 2) := by decide +kernel
theorem dX3_spend_100 : decode cX3_spend 100 = .ok (.iload 4, 2) := by decide +kernel
theorem dX3_spend_102 : decode cX3_spend 102 = .ok (.ifCond .le 43, 3) := by decide +kernel
theorem dX3_spend_105 : decode cX3_spend 105 = .ok (.aload_n 0, 1) := by decide +kernel
theorem dX3_spend_106 : decode cX3_spend 106 = .ok (.getfield 32, 3) := by decide +kernel
theorem dX3_spend_109 : decode cX3_spend 109 = .ok (.aload_n 0, 1) := by decide +kernel
theorem dX3_spend_110 : decode cX3_spend 110 = .ok (.getfield 41, 3) := by decide +kernel
theorem dX3_spend_113 : decode cX3_spend 113 = .ok (.iload 4, 2) := by decide +kernel
theorem dX3_spend_115 : decode cX3_spend 115 = .ok (.iconst 1, 1) := by decide +kernel
theorem dX3_spend_116 : decode cX3_spend 116 = .ok (.isub, 1) := by decide +kernel
theorem dX3_spend_117 : decode cX3_spend 117 = .ok (.iaload, 1) := by decide +kernel
theorem dX3_spend_118 : decode cX3_spend 118 = .ok (.iaload, 1) := by decide +kernel
theorem dX3_spend_119 : decode cX3_spend 119 = .ok (.iload_n 2, 1) := by decide +kernel
theorem dX3_spend_120 : decode cX3_spend 120 = .ok (.if_icmp .le 25, 3) := by decide +kernel
theorem dX3_spend_123 : decode cX3_spend 123 = .ok (.aload_n 0, 1) := by decide +kernel
theorem dX3_spend_124 : decode cX3_spend 124 = .ok (.getfield 41, 3) := by decide +kernel
theorem dX3_spend_127 : decode cX3_spend 127 = .ok (.iload 4, 2) := by decide +kernel
theorem dX3_spend_129 : decode cX3_spend 129 = .ok (.aload_n 0, 1) := by decide +kernel
theorem dX3_spend_130 : decode cX3_spend 130 = .ok (.getfield 41, 3) := by decide +kernel
theorem dX3_spend_133 : decode cX3_spend 133 = .ok (.iload 4, 2) := by decide +kernel
theorem dX3_spend_135 : decode cX3_spend 135 = .ok (.iconst 1, 1) := by decide +kernel
theorem dX3_spend_136 : decode cX3_spend 136 = .ok (.isub, 1) := by decide +kernel
theorem dX3_spend_137 : decode cX3_spend 137 = .ok (.iaload, 1) := by decide +kernel
theorem dX3_spend_138 : decode cX3_spend 138 = .ok (.iastore, 1) := by decide +kernel
theorem dX3_spend_139 : decode cX3_spend 139 = .ok (.iinc 4 (-1), 3) := by decide +kernel
theorem dX3_spend_142 : decode cX3_spend 142 = .ok (.goto (-42), 3) := by decide +kernel
theorem dX3_spend_145 : decode cX3_spend 145 = .ok (.aload_n 0, 1) := by decide +kernel
theorem dX3_spend_146 : decode cX3_spend 146 = .ok (.getfield 41, 3) := by decide +kernel
theorem dX3_spend_149 : decode cX3_spend 149 = .ok (.iload 4, 2) := by decide +kernel
theorem dX3_spend_151 : decode cX3_spend 151 = .ok (.aload_n 0, 1) := by decide +kernel
theorem dX3_spend_152 : decode cX3_spend 152 = .ok (.getfield 78, 3) := by decide +kernel
theorem dX3_spend_155 : decode cX3_spend 155 = .ok (.iastore, 1) := by decide +kernel
theorem dX3_spend_156 : decode cX3_spend 156 = .ok (.aload_n 0, 1) := by decide +kernel
theorem dX3_spend_157 : decode cX3_spend 157 = .ok (.dup, 1) := by decide +kernel
theorem dX3_spend_158 : decode cX3_spend 158 = .ok (.getfield 78, 3) := by decide +kernel
theorem dX3_spend_161 : decode cX3_spend 161 = .ok (.iconst 1, 1) := by decide +kernel
theorem dX3_spend_162 : decode cX3_spend 162 = .ok (.iadd, 1) := by decide +kernel
theorem dX3_spend_163 : decode cX3_spend 163 = .ok (.putfield 78, 3) := by decide +kernel
theorem dX3_spend_166 : decode cX3_spend 166 = .ok (.aload_n 0, 1) := by decide +kernel
theorem dX3_spend_167 : decode cX3_spend 167 = .ok (.getfield 78, 3) := by decide +kernel
theorem dX3_spend_170 : decode cX3_spend 170 = .ok (.iconst 1, 1) := by decide +kernel
theorem dX3_spend_171 : decode cX3_spend 171 = .ok (.isub, 1) := by decide +kernel
theorem dX3_spend_172 : decode cX3_spend 172 = .ok (.ireturn, 1) := by decide +kernel
set_option maxRecDepth 20000 in
theorem ggX3_mark_X3_isVoucher : GoodIn wsX3_mark wsX3_isVoucher := goodIn_r _ [7, 8, 9, 10, 6, 11, 40, 41, 42, 43, 44, 45, 46, 47, 48, 49, 50, 51, 52, 53, 54, 55, 56, 57, 58, 59, 60, 61, 62, 63] (by decide +kernel) (by decide +kernel)
set_option maxRecDepth 20000 in
theorem gX3_mark_X3_isVoucher : GoodIn wsX3_mark (wsV RX3 100 RX3 yX3_isVoucher wsX3_isVoucher) := goodIn_app (goodIn_of _ (by decide +kernel)) ggX3_mark_X3_isVoucher
set_option maxRecDepth 20000 in
theorem ggX3_mark_X3_allEligible : GoodIn wsX3_mark wsX3_allEligible := goodIn_r _ [15, 8, 16, 17, 18, 19, 6, 20, 21, 22, 23, 24, 25, 26, 27, 28, 29, 30, 31, 32, 33, 34, 35, 36, 1, 37, 38, 39, 9, 10, 11, 40, 41, 42, 43, 44, 45, 46, 47, 48, 49, 50, 51, 52, 53, 54, 55, 56, 57, 58, 59, 60, 61, 62, 63] (by decide +kernel) (by decide +kernel)
set_option maxRecDepth 20000 in
theorem gX3_mark_X3_allEligible : GoodIn wsX3_mark (wsV RX3 103 RX3 yX3_allEligible wsX3_allEligible) := goodIn_app (goodIn_of _ (by decide +kernel)) ggX3_mark_X3_allEligible
theorem dX3_mark_0 : decode cX3_mark 0 = .ok (.aload_n 0, 1) := by decide +kernel
theorem dX3_mark_1 : decode cX3_mark 1 = .ok (.aload_n 0, 1) := by decide +kernel
theorem dX3_mark_2 : decode cX3_mark 2 = .ok (.iload_n 1, 1) := by decide +kernel
theorem dX3_mark_3 : decode cX3_mark 3 = .ok (.invokevirtual 100, 3) := by decide +kernel
theorem dX3_mark_6 : decode cX3_mark 6 = .ok (.ifCond .ne 7, 3) := by decide +kernel
theorem dX3_mark_9 : decode cX3_mark 9 = .ok (.iconst 1, 1) := by decide +kernel
theorem dX3_mark_10 : decode cX3_mark 10 = .ok (.goto 18, 3) := by decide +kernel
theorem dX3_mark_13 : decode cX3_mark 13 = .ok (.aload_n 0, 1) := by decide +kernel
theorem dX3_mark_14 : decode cX3_mark 14 = .ok (.getfield 38, 3) := by decide +kernel
theorem dX3_mark_17 : decode cX3_mark 17 = .ok (.iload_n 1, 1) := by decide +kernel
theorem dX3_mark_18 : decode cX3_mark 18 = .ok (.baload, 1) := by decide +kernel
theorem dX3_mark_19 : decode cX3_mark 19 = .ok (.iload_n 2, 1) := by decide +kernel
theorem dX3_mark_20 : decode cX3_mark 20 = .ok (.if_icmp .ne 7, 3) := by decide +kernel
theorem dX3_mark_23 : decode cX3_mark 23 = .ok (.iconst 2, 1) := by decide +kernel
theorem dX3_mark_24 : decode cX3_mark 24 = .ok (.goto 4, 3) := by decide +kernel
theorem dX3_mark_27 : decode cX3_mark 27 = .ok (.iconst 0, 1) := by decide +kernel
theorem dX3_mark_28 : decode cX3_mark 28 = .ok (.putfield 68, 3) := by decide +kernel
theorem dX3_mark_31 : decode cX3_mark 31 = .ok (.aload_n 0, 1) := by decide +kernel
theorem dX3_mark_32 : decode cX3_mark 32 = .ok (.getfield 68, 3) := by decide +kernel
theorem dX3_mark_35 : decode cX3_mark 35 = .ok (.ifCond .le 5, 3) := by decide +kernel
theorem dX3_mark_38 : decode cX3_mark 38 = .ok (.iconst 0, 1) := by decide +kernel
theorem dX3_mark_39 : decode cX3_mark 39 = .ok (.ireturn, 1) := by decide +kernel
theorem dX3_mark_40 : decode cX3_mark 40 = .ok (.aload_n 0, 1) := by decide +kernel
theorem dX3_mark_41 : decode cX3_mark 41 = .ok (.invokevirtual 103, 3) := by decide +kernel
theorem dX3_mark_44 : decode cX3_mark 44 = .ok (.istore_n 3, 1) := by decide +kernel
theorem dX3_mark_45 : decode cX3_mark 45 = .ok (.aload_n 0, 1) := by decide +kernel
theorem dX3_mark_46 : decode cX3_mark 46 = .ok (.getfield 38, 3) := by decide +kernel
theorem dX3_mark_49 : decode cX3_mark 49 = .ok (.iload_n 1, 1) := by decide +kernel
theorem dX3_mark_50 : decode cX3_mark 50 = .ok (.iload_n 2, 1) := by decide +kernel
theorem dX3_mark_51 : decode cX3_mark 51 = .ok (.bastore, 1) := by decide +kernel
theorem dX3_mark_52 : decode cX3_mark 52 = .ok (.iload_n 3, 1) := by decide +kernel
theorem dX3_mark_53 : decode cX3_mark 53 = .ok (.aload_n 0, 1) := by decide +kernel
theorem dX3_mark_54 : decode cX3_mark 54 = .ok (.invokevirtual 103, 3) := by decide +kernel
theorem dX3_mark_57 : decode cX3_mark 57 = .ok (.isub, 1) := by decide +kernel
theorem dX3_mark_58 : decode cX3_mark 58 = .ok (.ireturn, 1) := by decide +kernel
set_option maxRecDepth 20000 in
theorem ggX3_refuse_X3_mark : GoodIn wsX3_refuse wsX3_mark := goodIn_r _ [5, 6, 7, 8, 9, 10, 4, 11, 12, 13, 14, 15, 16, 17, 18, 19, 20, 21, 22, 23, 24, 25, 26, 27, 28, 29, 30, 31, 32, 33, 34, 35, 36, 37, 38, 39, 40, 41, 42, 43, 44, 45, 46, 47, 48, 49, 50, 51, 52, 53, 54, 55, 56, 57, 58, 59, 60, 61, 62, 63, 64, 65, 66, 67] (by decide +kernel) (by decide +kernel)
set_option maxRecDepth 20000 in
theorem gX3_refuse_X3_mark : GoodIn wsX3_refuse (wsV RX3 107 RX3 yX3_mark wsX3_mark) := goodIn_app (goodIn_of _ (by decide +kernel)) ggX3_refuse_X3_mark
theorem dX3_refuse_0 : decode cX3_refuse 0 = .ok (.aload_n 0, 1) := by decide +kernel
theorem dX3_refuse_1 : decode cX3_refuse 1 = .ok (.iload_n 1, 1) := by decide +kernel
theorem dX3_refuse_2 : decode cX3_refuse 2 = .ok (.iconst 1, 1) := by decide +kernel
theorem dX3_refuse_3 : decode cX3_refuse 3 = .ok (.invokevirtual 107, 3) := by decide +kernel
theorem dX3_refuse_6 : decode cX3_refuse 6 = .ok (.ireturn, 1) := by decide +kernel
set_option maxRecDepth 20000 in
theorem ggX3_admit_X3_mark : GoodIn wsX3_admit wsX3_mark := goodIn_r _ [5, 6, 7, 8, 9, 10, 4, 11, 12, 13, 14, 15, 16, 17, 18, 19, 20, 21, 22, 23, 24, 25, 26, 27, 28, 29, 30, 31, 32, 33, 34, 35, 36, 37, 38, 39, 40, 41, 42, 43, 44, 45, 46, 47, 48, 49, 50, 51, 52, 53, 54, 55, 56, 57, 58, 59, 60, 61, 62, 63, 64, 65, 66, 67] (by decide +kernel) (by decide +kernel)
set_option maxRecDepth 20000 in
theorem gX3_admit_X3_mark : GoodIn wsX3_admit (wsV RX3 107 RX3 yX3_mark wsX3_mark) := goodIn_app (goodIn_of _ (by decide +kernel)) ggX3_admit_X3_mark
theorem dX3_admit_0 : decode cX3_admit 0 = .ok (.aload_n 0, 1) := by decide +kernel
theorem dX3_admit_1 : decode cX3_admit 1 = .ok (.iload_n 1, 1) := by decide +kernel
theorem dX3_admit_2 : decode cX3_admit 2 = .ok (.iconst 0, 1) := by decide +kernel
theorem dX3_admit_3 : decode cX3_admit 3 = .ok (.invokevirtual 107, 3) := by decide +kernel
theorem dX3_admit_6 : decode cX3_admit 6 = .ok (.ineg, 1) := by decide +kernel
theorem dX3_admit_7 : decode cX3_admit 7 = .ok (.ireturn, 1) := by decide +kernel
set_option maxRecDepth 20000 in
theorem ggX3_match_X3_in : GoodIn wsX3_match wsX3_in := goodIn_r _ [8] (by decide +kernel) (by decide +kernel)
set_option maxRecDepth 20000 in
theorem gX3_match_X3_in : GoodIn wsX3_match (va_wsS RX3 74 yX3_in wsX3_in) := goodIn_app (goodIn_of _ (by decide +kernel)) ggX3_match_X3_in
theorem dX3_match_0 : decode cX3_match 0 = .ok (.aload_n 0, 1) := by decide +kernel
theorem dX3_match_1 : decode cX3_match 1 = .ok (.iload_n 1, 1) := by decide +kernel
theorem dX3_match_2 : decode cX3_match 2 = .ok (.iconst 1, 1) := by decide +kernel
theorem dX3_match_3 : decode cX3_match 3 = .ok (.ldc 85, 2) := by decide +kernel
theorem dX3_match_5 : decode cX3_match 5 = .ok (.invokestatic 74, 3) := by decide +kernel
theorem dX3_match_8 : decode cX3_match 8 = .ok (.ifCond .ne 7, 3) := by decide +kernel
theorem dX3_match_11 : decode cX3_match 11 = .ok (.iconst 1, 1) := by decide +kernel
theorem dX3_match_12 : decode cX3_match 12 = .ok (.goto 19, 3) := by decide +kernel
theorem dX3_match_15 : decode cX3_match 15 = .ok (.aload_n 0, 1) := by decide +kernel
theorem dX3_match_16 : decode cX3_match 16 = .ok (.getfield 111, 3) := by decide +kernel
theorem dX3_match_19 : decode cX3_match 19 = .ok (.iload_n 1, 1) := by decide +kernel
theorem dX3_match_20 : decode cX3_match 20 = .ok (.iadd, 1) := by decide +kernel
theorem dX3_match_21 : decode cX3_match 21 = .ok (.ldc 81, 2) := by decide +kernel
theorem dX3_match_23 : decode cX3_match 23 = .ok (.if_icmp .le 7, 3) := by decide +kernel
theorem dX3_match_26 : decode cX3_match 26 = .ok (.iconst 2, 1) := by decide +kernel
theorem dX3_match_27 : decode cX3_match 27 = .ok (.goto 4, 3) := by decide +kernel
theorem dX3_match_30 : decode cX3_match 30 = .ok (.iconst 0, 1) := by decide +kernel
theorem dX3_match_31 : decode cX3_match 31 = .ok (.putfield 68, 3) := by decide +kernel
theorem dX3_match_34 : decode cX3_match 34 = .ok (.aload_n 0, 1) := by decide +kernel
theorem dX3_match_35 : decode cX3_match 35 = .ok (.getfield 68, 3) := by decide +kernel
theorem dX3_match_38 : decode cX3_match 38 = .ok (.ifCond .le 5, 3) := by decide +kernel
theorem dX3_match_41 : decode cX3_match 41 = .ok (.iconst 0, 1) := by decide +kernel
theorem dX3_match_42 : decode cX3_match 42 = .ok (.ireturn, 1) := by decide +kernel
theorem dX3_match_43 : decode cX3_match 43 = .ok (.aload_n 0, 1) := by decide +kernel
theorem dX3_match_44 : decode cX3_match 44 = .ok (.dup, 1) := by decide +kernel
theorem dX3_match_45 : decode cX3_match 45 = .ok (.getfield 111, 3) := by decide +kernel
theorem dX3_match_48 : decode cX3_match 48 = .ok (.iload_n 1, 1) := by decide +kernel
theorem dX3_match_49 : decode cX3_match 49 = .ok (.iadd, 1) := by decide +kernel
theorem dX3_match_50 : decode cX3_match 50 = .ok (.putfield 111, 3) := by decide +kernel
theorem dX3_match_53 : decode cX3_match 53 = .ok (.aload_n 0, 1) := by decide +kernel
theorem dX3_match_54 : decode cX3_match 54 = .ok (.getfield 111, 3) := by decide +kernel
theorem dX3_match_57 : decode cX3_match 57 = .ok (.ireturn, 1) := by decide +kernel
theorem dX3_vouchers_0 : decode cX3_vouchers 0 = .ok (.aload_n 0, 1) := by decide +kernel
theorem dX3_vouchers_1 : decode cX3_vouchers 1 = .ok (.iconst 0, 1) := by decide +kernel
theorem dX3_vouchers_2 : decode cX3_vouchers 2 = .ok (.putfield 68, 3) := by decide +kernel
theorem dX3_vouchers_5 : decode cX3_vouchers 5 = .ok (.aload_n 0, 1) := by decide +kernel
theorem dX3_vouchers_6 : decode cX3_vouchers 6 = .ok (.getfield 78, 3) := by decide +kernel
theorem dX3_vouchers_9 : decode cX3_vouchers 9 = .ok (.ireturn, 1) := by decide +kernel
set_option maxRecDepth 20000 in
theorem ggX3_fits_X3_isVoucher : GoodIn wsX3_fits wsX3_isVoucher := goodIn_r _ [6, 7, 8, 9, 5, 10, 20, 21, 22, 23, 24, 25, 26, 27, 28, 29, 30, 31, 32, 33, 34, 35, 36, 37, 38, 39, 40, 41, 42, 43] (by decide +kernel) (by decide +kernel)
set_option maxRecDepth 20000 in
theorem gX3_fits_X3_isVoucher : GoodIn wsX3_fits (wsV RX3 100 RX3 yX3_isVoucher wsX3_isVoucher) := goodIn_app (goodIn_of _ (by decide +kernel)) ggX3_fits_X3_isVoucher
set_option maxRecDepth 20000 in
theorem ggX3_fits_X3_isFit : GoodIn wsX3_fits wsX3_isFit := goodIn_r _ [14, 15, 16, 17, 18, 19, 8, 9, 5, 10, 20, 21, 22, 23, 24, 25, 26, 27, 28, 29, 30, 31, 32, 33, 34, 35, 36, 37, 38, 39, 40, 41, 42, 43] (by decide +kernel) (by decide +kernel)
set_option maxRecDepth 20000 in
theorem gX3_fits_X3_isFit : GoodIn wsX3_fits (wsV RX3 94 RX3 yX3_isFit wsX3_isFit) := goodIn_app (goodIn_of _ (by decide +kernel)) ggX3_fits_X3_isFit
theorem dX3_fits_0 : decode cX3_fits 0 = .ok (.aload_n 0, 1) := by decide +kernel
theorem dX3_fits_1 : decode cX3_fits 1 = .ok (.aload_n 0, 1) := by decide +kernel
theorem dX3_fits_2 : decode cX3_fits 2 = .ok (.iload_n 1, 1) := by decide +kernel
theorem dX3_fits_3 : decode cX3_fits 3 = .ok (.invokevirtual 100, 3) := by decide +kernel
theorem dX3_fits_6 : decode cX3_fits 6 = .ok (.ifCond .eq 7, 3) := by decide +kernel
theorem dX3_fits_9 : decode cX3_fits 9 = .ok (.iconst 0, 1) := by decide +kernel
theorem dX3_fits_10 : decode cX3_fits 10 = .ok (.goto 4, 3) := by decide +kernel
theorem dX3_fits_13 : decode cX3_fits 13 = .ok (.iconst 1, 1) := by decide +kernel
theorem dX3_fits_14 : decode cX3_fits 14 = .ok (.putfield 68, 3) := by decide +kernel
theorem dX3_fits_17 : decode cX3_fits 17 = .ok (.aload_n 0, 1) := by decide +kernel
theorem dX3_fits_18 : decode cX3_fits 18 = .ok (.getfield 68, 3) := by decide +kernel
theorem dX3_fits_21 : decode cX3_fits 21 = .ok (.ifCond .ne 15, 3) := by decide +kernel
theorem dX3_fits_24 : decode cX3_fits 24 = .ok (.aload_n 0, 1) := by decide +kernel
theorem dX3_fits_25 : decode cX3_fits 25 = .ok (.iload_n 1, 1) := by decide +kernel
theorem dX3_fits_26 : decode cX3_fits 26 = .ok (.invokevirtual 94, 3) := by decide +kernel
theorem dX3_fits_29 : decode cX3_fits 29 = .ok (.ifCond .eq 7, 3) := by decide +kernel
theorem dX3_fits_32 : decode cX3_fits 32 = .ok (.iconst 1, 1) := by decide +kernel
theorem dX3_fits_33 : decode cX3_fits 33 = .ok (.goto 4, 3) := by decide +kernel
theorem dX3_fits_36 : decode cX3_fits 36 = .ok (.iconst 0, 1) := by decide +kernel
theorem dX3_fits_37 : decode cX3_fits 37 = .ok (.ireturn, 1) := by decide +kernel
set_option maxRecDepth 20000 in
theorem ggX3_eligible_X3_isVoucher : GoodIn wsX3_eligible wsX3_isVoucher := goodIn_r _ [7, 8, 9, 10, 6, 11, 36, 37, 38, 39, 40, 41, 42, 43, 44, 45, 46, 47, 48, 49, 50, 51, 52, 53, 54, 55, 56, 57, 58, 59] (by decide +kernel) (by decide +kernel)
set_option maxRecDepth 20000 in
theorem gX3_eligible_X3_isVoucher : GoodIn wsX3_eligible (wsV RX3 100 RX3 yX3_isVoucher wsX3_isVoucher) := goodIn_app (goodIn_of _ (by decide +kernel)) ggX3_eligible_X3_isVoucher
set_option maxRecDepth 20000 in
theorem ggX3_eligible_X3_layEligibles : GoodIn wsX3_eligible wsX3_layEligibles := goodIn_r _ [15, 16, 17, 8, 18, 19, 2, 20, 21, 22, 23, 6, 24, 25, 26, 27, 28, 29, 30, 31, 32, 33, 34, 35, 9, 10, 11, 36, 37, 38, 39, 40, 41, 42, 43, 44, 45, 46, 47, 48, 49, 50, 51, 52, 53, 54, 55, 56, 57, 58, 59] (by decide +kernel) (by decide +kernel)
set_option maxRecDepth 20000 in
theorem gX3_eligible_X3_layEligibles : GoodIn wsX3_eligible (wsV RX3 97 RX3 yX3_layEligibles wsX3_layEligibles) := goodIn_app (goodIn_of _ (by decide +kernel)) ggX3_eligible_X3_layEligibles
theorem dX3_eligible_0 : decode cX3_eligible 0 = .ok (.aload_n 0, 1) := by decide +kernel
theorem dX3_eligible_1 : decode cX3_eligible 1 = .ok (.aload_n 0, 1) := by decide +kernel
theorem dX3_eligible_2 : decode cX3_eligible 2 = .ok (.iload_n 1, 1) := by decide +kernel
theorem dX3_eligible_3 : decode cX3_eligible 3 = .ok (.invokevirtual 100, 3) := by decide +kernel
theorem dX3_eligible_6 : decode cX3_eligible 6 = .ok (.ifCond .eq 7, 3) := by decide +kernel
theorem dX3_eligible_9 : decode cX3_eligible 9 = .ok (.iconst 0, 1) := by decide +kernel
theorem dX3_eligible_10 : decode cX3_eligible 10 = .ok (.goto 4, 3) := by decide +kernel
theorem dX3_eligible_13 : decode cX3_eligible 13 = .ok (.iconst 1, 1) := by decide +kernel
theorem dX3_eligible_14 : decode cX3_eligible 14 = .ok (.putfield 68, 3) := by decide +kernel
theorem dX3_eligible_17 : decode cX3_eligible 17 = .ok (.aload_n 0, 1) := by decide +kernel
theorem dX3_eligible_18 : decode cX3_eligible 18 = .ok (.getfield 68, 3) := by decide +kernel
theorem dX3_eligible_21 : decode cX3_eligible 21 = .ok (.ifCond .le 5, 3) := by decide +kernel
theorem dX3_eligible_24 : decode cX3_eligible 24 = .ok (.iconst 0, 1) := by decide +kernel
theorem dX3_eligible_25 : decode cX3_eligible 25 = .ok (.ireturn, 1) := by decide +kernel
theorem dX3_eligible_26 : decode cX3_eligible 26 = .ok (.aload_n 0, 1) := by decide +kernel
theorem dX3_eligible_27 : decode cX3_eligible 27 = .ok (.invokevirtual 97, 3) := by decide +kernel
theorem dX3_eligible_30 : decode cX3_eligible 30 = .ok (.aload_n 0, 1) := by decide +kernel
theorem dX3_eligible_31 : decode cX3_eligible 31 = .ok (.getfield 47, 3) := by decide +kernel
theorem dX3_eligible_34 : decode cX3_eligible 34 = .ok (.iload_n 1, 1) := by decide +kernel
theorem dX3_eligible_35 : decode cX3_eligible 35 = .ok (.iaload, 1) := by decide +kernel
theorem dX3_eligible_36 : decode cX3_eligible 36 = .ok (.ireturn, 1) := by decide +kernel
set_option maxRecDepth 20000 in
theorem ggX3_costsTo_X3_layEligibles : GoodIn wsX3_costsTo wsX3_layEligibles := goodIn_r _ [10, 11, 12, 1, 13, 4, 5, 14, 15, 16, 17, 9, 18, 19, 20, 21, 22, 23, 24, 25, 26, 2, 27, 28, 29, 30, 31, 32, 33, 34, 35, 36, 37, 38, 39, 40, 41, 42, 43, 44, 45, 46, 47, 48, 49, 50, 51, 52, 53, 54, 55] (by decide +kernel) (by decide +kernel)
set_option maxRecDepth 20000 in
theorem gX3_costsTo_X3_layEligibles : GoodIn wsX3_costsTo (wsV RX3 97 RX3 yX3_layEligibles wsX3_layEligibles) := goodIn_app (goodIn_of _ (by decide +kernel)) ggX3_costsTo_X3_layEligibles
theorem dX3_costsTo_0 : decode cX3_costsTo 0 = .ok (.aload_n 0, 1) := by decide +kernel
theorem dX3_costsTo_1 : decode cX3_costsTo 1 = .ok (.invokevirtual 97, 3) := by decide +kernel
theorem dX3_costsTo_4 : decode cX3_costsTo 4 = .ok (.iconst 0, 1) := by decide +kernel
theorem dX3_costsTo_5 : decode cX3_costsTo 5 = .ok (.istore_n 3, 1) := by decide +kernel
theorem dX3_costsTo_6 : decode cX3_costsTo 6 = .ok (.iconst 0, 1) := by decide +kernel
theorem dX3_costsTo_7 : decode cX3_costsTo 7 = .ok (.istore 4, 2) := by decide +kernel
theorem dX3_costsTo_9 : decode cX3_costsTo 9 = .ok (.iload 4, 2) := by decide +kernel
theorem dX3_costsTo_11 : decode cX3_costsTo 11 = .ok (.aload_n 0, 1) := by decide +kernel
theorem dX3_costsTo_12 : decode cX3_costsTo 12 = .ok (.getfield 78, 3) := by decide +kernel
theorem dX3_costsTo_15 : decode cX3_costsTo 15 = .ok (.if_icmp .ge 65, 3) := by decide +kernel
theorem dX3_costsTo_18 : decode cX3_costsTo 18 = .ok (.aload_n 0, 1) := by decide +kernel
theorem dX3_costsTo_19 : decode cX3_costsTo 19 = .ok (.getfield 32, 3) := by decide +kernel
theorem dX3_costsTo_22 : decode cX3_costsTo 22 = .ok (.iload 4, 2) := by decide +kernel
theorem dX3_costsTo_24 : decode cX3_costsTo 24 = .ok (.iaload, 1) := by decide +kernel
theorem dX3_costsTo_25 : decode cX3_costsTo 25 = .ok (.iload_n 1, 1) := by decide +kernel
theorem dX3_costsTo_26 : decode cX3_costsTo 26 = .ok (.if_icmp .gt 26, 3) := by decide +kernel
theorem dX3_costsTo_29 : decode cX3_costsTo 29 = .ok (.iload_n 2, 1) := by decide +kernel
theorem dX3_costsTo_30 : decode cX3_costsTo 30 = .ok (.ifCond .eq 18, 3) := by decide +kernel
theorem dX3_costsTo_33 : decode cX3_costsTo 33 = .ok (.aload_n 0, 1) := by decide +kernel
theorem dX3_costsTo_34 : decode cX3_costsTo 34 = .ok (.getfield 19, 3) := by decide +kernel
theorem dX3_costsTo_37 : decode cX3_costsTo 37 = .ok (.aload_n 0, 1) := by decide +kernel
theorem dX3_costsTo_38 : decode cX3_costsTo 38 = .ok (.getfield 29, 3) := by decide +kernel
theorem dX3_costsTo_41 : decode cX3_costsTo 41 = .ok (.iload 4, 2) := by decide +kernel
theorem dX3_costsTo_43 : decode cX3_costsTo 43 = .ok (.iaload, 1) := by decide +kernel
theorem dX3_costsTo_44 : decode cX3_costsTo 44 = .ok (.baload, 1) := by decide +kernel
theorem dX3_costsTo_45 : decode cX3_costsTo 45 = .ok (.ifCond .eq 7, 3) := by decide +kernel
theorem dX3_costsTo_48 : decode cX3_costsTo 48 = .ok (.iconst 1, 1) := by decide +kernel
theorem dX3_costsTo_49 : decode cX3_costsTo 49 = .ok (.goto 4, 3) := by decide +kernel
theorem dX3_costsTo_52 : decode cX3_costsTo 52 = .ok (.iconst 0, 1) := by decide +kernel
theorem dX3_costsTo_53 : decode cX3_costsTo 53 = .ok (.istore 5, 2) := by decide +kernel
theorem dX3_costsTo_55 : decode cX3_costsTo 55 = .ok (.iload_n 3, 1) := by decide +kernel
theorem dX3_costsTo_56 : decode cX3_costsTo 56 = .ok (.iload 5, 2) := by decide +kernel
theorem dX3_costsTo_58 : decode cX3_costsTo 58 = .ok (.ifCond .eq 13, 3) := by decide +kernel
theorem dX3_costsTo_61 : decode cX3_costsTo 61 = .ok (.aload_n 0, 1) := by decide +kernel
theorem dX3_costsTo_62 : decode cX3_costsTo 62 = .ok (.getfield 47, 3) := by decide +kernel
theorem dX3_costsTo_65 : decode cX3_costsTo 65 = .ok (.iload 4, 2) := by decide +kernel
theorem dX3_costsTo_67 : decode cX3_costsTo 67 = .ok (.iaload, 1) := by decide +kernel
theorem dX3_costsTo_68 : decode cX3_costsTo 68 = .ok (.goto 4, 3) := by decide +kernel
theorem dX3_costsTo_71 : decode cX3_costsTo 71 = .ok (.iconst 0, 1) := by decide +kernel
theorem dX3_costsTo_72 : decode cX3_costsTo 72 = .ok (.iadd, 1) := by decide +kernel
theorem dX3_costsTo_73 : decode cX3_costsTo 73 = .ok (.istore_n 3, 1) := by decide +kernel
theorem dX3_costsTo_74 : decode cX3_costsTo 74 = .ok (.iinc 4 1, 3) := by decide +kernel
theorem dX3_costsTo_77 : decode cX3_costsTo 77 = .ok (.goto (-68), 3) := by decide +kernel
theorem dX3_costsTo_80 : decode cX3_costsTo 80 = .ok (.iload_n 3, 1) := by decide +kernel
theorem dX3_costsTo_81 : decode cX3_costsTo 81 = .ok (.ireturn, 1) := by decide +kernel
set_option maxRecDepth 20000 in
theorem ggX3_overheadTo_X3_costsTo : GoodIn wsX3_overheadTo wsX3_costsTo := goodIn_r _ [8, 9, 10, 11, 12, 13, 14, 15, 16, 7, 17, 18, 19, 20, 21, 22, 23, 24, 25, 26, 27, 28, 29, 30, 31, 32, 33, 34, 35, 36, 37, 38, 39, 40, 41, 42, 43, 44, 45, 46, 47, 48, 49, 50, 51, 52, 53, 54, 55, 56, 57, 58, 59, 60, 61, 62] (by decide +kernel) (by decide +kernel)
set_option maxRecDepth 20000 in
theorem gX3_overheadTo_X3_costsTo : GoodIn wsX3_overheadTo (wsV RX3 114 RX3 yX3_costsTo wsX3_costsTo) := goodIn_app (goodIn_of _ (by decide +kernel)) ggX3_overheadTo_X3_costsTo
theorem dX3_overheadTo_0 : decode cX3_overheadTo 0 = .ok (.aload_n 0, 1) := by decide +kernel
theorem dX3_overheadTo_1 : decode cX3_overheadTo 1 = .ok (.getfield 61, 3) := by decide +kernel
theorem dX3_overheadTo_4 : decode cX3_overheadTo 4 = .ok (.i2l, 1) := by decide +kernel
theorem dX3_overheadTo_5 : decode cX3_overheadTo 5 = .ok (.aload_n 0, 1) := by decide +kernel
theorem dX3_overheadTo_6 : decode cX3_overheadTo 6 = .ok (.iload_n 1, 1) := by decide +kernel
theorem dX3_overheadTo_7 : decode cX3_overheadTo 7 = .ok (.iconst 1, 1) := by decide +kernel
theorem dX3_overheadTo_8 : decode cX3_overheadTo 8 = .ok (.invokevirtual 114, 3) := by decide +kernel
theorem dX3_overheadTo_11 : decode cX3_overheadTo 11 = .ok (.i2l, 1) := by decide +kernel
theorem dX3_overheadTo_12 : decode cX3_overheadTo 12 = .ok (.lmul, 1) := by decide +kernel
theorem dX3_overheadTo_13 : decode cX3_overheadTo 13 = .ok (.ldc2_w 117, 3) := by decide +kernel
theorem dX3_overheadTo_16 : decode cX3_overheadTo 16 = .ok (.ldiv, 1) := by decide +kernel
theorem dX3_overheadTo_17 : decode cX3_overheadTo 17 = .ok (.lstore_n 2, 1) := by decide +kernel
theorem dX3_overheadTo_18 : decode cX3_overheadTo 18 = .ok (.lload_n 2, 1) := by decide +kernel
theorem dX3_overheadTo_19 : decode cX3_overheadTo 19 = .ok (.aload_n 0, 1) := by decide +kernel
theorem dX3_overheadTo_20 : decode cX3_overheadTo 20 = .ok (.getfield 65, 3) := by decide +kernel
theorem dX3_overheadTo_23 : decode cX3_overheadTo 23 = .ok (.i2l, 1) := by decide +kernel
theorem dX3_overheadTo_24 : decode cX3_overheadTo 24 = .ok (.lcmp, 1) := by decide +kernel
theorem dX3_overheadTo_25 : decode cX3_overheadTo 25 = .ok (.ifCond .le 10, 3) := by decide +kernel
theorem dX3_overheadTo_28 : decode cX3_overheadTo 28 = .ok (.aload_n 0, 1) := by decide +kernel
theorem dX3_overheadTo_29 : decode cX3_overheadTo 29 = .ok (.getfield 65, 3) := by decide +kernel
theorem dX3_overheadTo_32 : decode cX3_overheadTo 32 = .ok (.goto 5, 3) := by decide +kernel
theorem dX3_overheadTo_35 : decode cX3_overheadTo 35 = .ok (.lload_n 2, 1) := by decide +kernel
theorem dX3_overheadTo_36 : decode cX3_overheadTo 36 = .ok (.l2i, 1) := by decide +kernel
theorem dX3_overheadTo_37 : decode cX3_overheadTo 37 = .ok (.ireturn, 1) := by decide +kernel
set_option maxRecDepth 20000 in
theorem ggX3_unbound_X3_costsTo : GoodIn wsX3_unbound wsX3_costsTo := goodIn_r _ [8, 9, 10, 11, 12, 13, 14, 15, 16, 7, 17, 18, 19, 20, 21, 22, 23, 24, 25, 26, 27, 28, 29, 30, 31, 32, 33, 34, 35, 36, 37, 38, 45, 46, 47, 48, 49, 50, 51, 52, 53, 54, 55, 56, 57, 58, 59, 60, 61, 62, 63, 64, 65, 66, 67, 68] (by decide +kernel) (by decide +kernel)
set_option maxRecDepth 20000 in
theorem gX3_unbound_X3_costsTo : GoodIn wsX3_unbound (wsV RX3 114 RX3 yX3_costsTo wsX3_costsTo) := goodIn_app (goodIn_of _ (by decide +kernel)) ggX3_unbound_X3_costsTo
set_option maxRecDepth 20000 in
theorem ggX3_unbound_X3_overheadTo : GoodIn wsX3_unbound wsX3_overheadTo := goodIn_r _ [42, 43, 2, 44, 4, 5, 6, 7, 8, 9, 10, 11, 12, 13, 14, 15, 16, 17, 18, 19, 20, 21, 22, 23, 24, 25, 26, 27, 28, 29, 30, 31, 32, 33, 34, 35, 36, 37, 38, 45, 46, 47, 48, 49, 50, 51, 52, 53, 54, 55, 56, 57, 58, 59, 60, 61, 62, 63, 64, 65, 66, 67, 68] (by decide +kernel) (by decide +kernel)
set_option maxRecDepth 20000 in
theorem gX3_unbound_X3_overheadTo : GoodIn wsX3_unbound (wsV RX3 119 RX3 yX3_overheadTo wsX3_overheadTo) := goodIn_app (goodIn_of _ (by decide +kernel)) ggX3_unbound_X3_overheadTo
theorem dX3_unbound_0 : decode cX3_unbound 0 = .ok (.aload_n 0, 1) := by decide +kernel
theorem dX3_unbound_1 : decode cX3_unbound 1 = .ok (.getfield 58, 3) := by decide +kernel
theorem dX3_unbound_4 : decode cX3_unbound 4 = .ok (.i2l, 1) := by decide +kernel
theorem dX3_unbound_5 : decode cX3_unbound 5 = .ok (.aload_n 0, 1) := by decide +kernel
theorem dX3_unbound_6 : decode cX3_unbound 6 = .ok (.iload_n 1, 1) := by decide +kernel
theorem dX3_unbound_7 : decode cX3_unbound 7 = .ok (.iconst 0, 1) := by decide +kernel
theorem dX3_unbound_8 : decode cX3_unbound 8 = .ok (.invokevirtual 114, 3) := by decide +kernel
theorem dX3_unbound_11 : decode cX3_unbound 11 = .ok (.aload_n 0, 1) := by decide +kernel
theorem dX3_unbound_12 : decode cX3_unbound 12 = .ok (.iload_n 1, 1) := by decide +kernel
theorem dX3_unbound_13 : decode cX3_unbound 13 = .ok (.invokevirtual 119, 3) := by decide +kernel
theorem dX3_unbound_16 : decode cX3_unbound 16 = .ok (.iadd, 1) := by decide +kernel
theorem dX3_unbound_17 : decode cX3_unbound 17 = .ok (.i2l, 1) := by decide +kernel
theorem dX3_unbound_18 : decode cX3_unbound 18 = .ok (.lmul, 1) := by decide +kernel
theorem dX3_unbound_19 : decode cX3_unbound 19 = .ok (.ldc2_w 117, 3) := by decide +kernel
theorem dX3_unbound_22 : decode cX3_unbound 22 = .ok (.ldiv, 1) := by decide +kernel
theorem dX3_unbound_23 : decode cX3_unbound 23 = .ok (.lstore_n 2, 1) := by decide +kernel
theorem dX3_unbound_24 : decode cX3_unbound 24 = .ok (.lload_n 2, 1) := by decide +kernel
theorem dX3_unbound_25 : decode cX3_unbound 25 = .ok (.aload_n 0, 1) := by decide +kernel
theorem dX3_unbound_26 : decode cX3_unbound 26 = .ok (.getfield 54, 3) := by decide +kernel
theorem dX3_unbound_29 : decode cX3_unbound 29 = .ok (.i2l, 1) := by decide +kernel
theorem dX3_unbound_30 : decode cX3_unbound 30 = .ok (.lcmp, 1) := by decide +kernel
theorem dX3_unbound_31 : decode cX3_unbound 31 = .ok (.ifCond .le 10, 3) := by decide +kernel
theorem dX3_unbound_34 : decode cX3_unbound 34 = .ok (.aload_n 0, 1) := by decide +kernel
theorem dX3_unbound_35 : decode cX3_unbound 35 = .ok (.getfield 54, 3) := by decide +kernel
theorem dX3_unbound_38 : decode cX3_unbound 38 = .ok (.goto 5, 3) := by decide +kernel
theorem dX3_unbound_41 : decode cX3_unbound 41 = .ok (.lload_n 2, 1) := by decide +kernel
theorem dX3_unbound_42 : decode cX3_unbound 42 = .ok (.l2i, 1) := by decide +kernel
theorem dX3_unbound_43 : decode cX3_unbound 43 = .ok (.ireturn, 1) := by decide +kernel
set_option maxRecDepth 20000 in
theorem ggX3_earnedTo_X3_unbound : GoodIn wsX3_earnedTo wsX3_unbound := goodIn_r _ [7, 1, 8, 9, 10, 11, 12, 6, 13, 14, 15, 16, 17, 18, 19, 20, 21, 22, 23, 24, 25, 26, 27, 28, 29, 30, 31, 32, 33, 34, 35, 36, 37, 38, 39, 40, 41, 42, 43, 44, 45, 46, 47, 48, 49, 50, 51, 52, 53, 54, 55, 56, 57, 58, 59, 60, 61, 62, 63, 64, 65, 66, 67, 68, 69, 70, 71, 72, 73] (by decide +kernel) (by decide +kernel)
set_option maxRecDepth 20000 in
theorem gX3_earnedTo_X3_unbound : GoodIn wsX3_earnedTo (wsV RX3 122 RX3 yX3_unbound wsX3_unbound) := goodIn_app (goodIn_of _ (by decide +kernel)) ggX3_earnedTo_X3_unbound
theorem dX3_earnedTo_0 : decode cX3_earnedTo 0 = .ok (.aload_n 0, 1) := by decide +kernel
theorem dX3_earnedTo_1 : decode cX3_earnedTo 1 = .ok (.iload_n 1, 1) := by decide +kernel
theorem dX3_earnedTo_2 : decode cX3_earnedTo 2 = .ok (.invokevirtual 122, 3) := by decide +kernel
theorem dX3_earnedTo_5 : decode cX3_earnedTo 5 = .ok (.istore_n 2, 1) := by decide +kernel
theorem dX3_earnedTo_6 : decode cX3_earnedTo 6 = .ok (.aload_n 0, 1) := by decide +kernel
theorem dX3_earnedTo_7 : decode cX3_earnedTo 7 = .ok (.getfield 58, 3) := by decide +kernel
theorem dX3_earnedTo_10 : decode cX3_earnedTo 10 = .ok (.bipush 100, 2) := by decide +kernel
theorem dX3_earnedTo_12 : decode cX3_earnedTo 12 = .ok (.if_icmp .ne 5, 3) := by decide +kernel
theorem dX3_earnedTo_15 : decode cX3_earnedTo 15 = .ok (.iload_n 2, 1) := by decide +kernel
theorem dX3_earnedTo_16 : decode cX3_earnedTo 16 = .ok (.ireturn, 1) := by decide +kernel
theorem dX3_earnedTo_17 : decode cX3_earnedTo 17 = .ok (.aload_n 0, 1) := by decide +kernel
theorem dX3_earnedTo_18 : decode cX3_earnedTo 18 = .ok (.getfield 111, 3) := by decide +kernel
theorem dX3_earnedTo_21 : decode cX3_earnedTo 21 = .ok (.i2l, 1) := by decide +kernel
theorem dX3_earnedTo_22 : decode cX3_earnedTo 22 = .ok (.aload_n 0, 1) := by decide +kernel
theorem dX3_earnedTo_23 : decode cX3_earnedTo 23 = .ok (.getfield 58, 3) := by decide +kernel
theorem dX3_earnedTo_26 : decode cX3_earnedTo 26 = .ok (.i2l, 1) := by decide +kernel
theorem dX3_earnedTo_27 : decode cX3_earnedTo 27 = .ok (.lmul, 1) := by decide +kernel
theorem dX3_earnedTo_28 : decode cX3_earnedTo 28 = .ok (.bipush 100, 2) := by decide +kernel
theorem dX3_earnedTo_30 : decode cX3_earnedTo 30 = .ok (.aload_n 0, 1) := by decide +kernel
theorem dX3_earnedTo_31 : decode cX3_earnedTo 31 = .ok (.getfield 58, 3) := by decide +kernel
theorem dX3_earnedTo_34 : decode cX3_earnedTo 34 = .ok (.isub, 1) := by decide +kernel
theorem dX3_earnedTo_35 : decode cX3_earnedTo 35 = .ok (.i2l, 1) := by decide +kernel
theorem dX3_earnedTo_36 : decode cX3_earnedTo 36 = .ok (.ldiv, 1) := by decide +kernel
theorem dX3_earnedTo_37 : decode cX3_earnedTo 37 = .ok (.lstore_n 3, 1) := by decide +kernel
theorem dX3_earnedTo_38 : decode cX3_earnedTo 38 = .ok (.iload_n 2, 1) := by decide +kernel
theorem dX3_earnedTo_39 : decode cX3_earnedTo 39 = .ok (.i2l, 1) := by decide +kernel
theorem dX3_earnedTo_40 : decode cX3_earnedTo 40 = .ok (.lload_n 3, 1) := by decide +kernel
theorem dX3_earnedTo_41 : decode cX3_earnedTo 41 = .ok (.lcmp, 1) := by decide +kernel
theorem dX3_earnedTo_42 : decode cX3_earnedTo 42 = .ok (.ifCond .le 8, 3) := by decide +kernel
theorem dX3_earnedTo_45 : decode cX3_earnedTo 45 = .ok (.lload_n 3, 1) := by decide +kernel
theorem dX3_earnedTo_46 : decode cX3_earnedTo 46 = .ok (.l2i, 1) := by decide +kernel
theorem dX3_earnedTo_47 : decode cX3_earnedTo 47 = .ok (.goto 4, 3) := by decide +kernel
theorem dX3_earnedTo_50 : decode cX3_earnedTo 50 = .ok (.iload_n 2, 1) := by decide +kernel
theorem dX3_earnedTo_51 : decode cX3_earnedTo 51 = .ok (.ireturn, 1) := by decide +kernel
set_option maxRecDepth 20000 in
theorem ggX3_isDay_X3_in : GoodIn wsX3_isDay wsX3_in := goodIn_r _ [5] (by decide +kernel) (by decide +kernel)
set_option maxRecDepth 20000 in
theorem gX3_isDay_X3_in : GoodIn wsX3_isDay (va_wsS RX3 74 yX3_in wsX3_in) := goodIn_app (goodIn_of _ (by decide +kernel)) ggX3_isDay_X3_in
theorem dX3_isDay_0 : decode cX3_isDay 0 = .ok (.aload_n 0, 1) := by decide +kernel
theorem dX3_isDay_1 : decode cX3_isDay 1 = .ok (.iload_n 1, 1) := by decide +kernel
theorem dX3_isDay_2 : decode cX3_isDay 2 = .ok (.iconst 0, 1) := by decide +kernel
theorem dX3_isDay_3 : decode cX3_isDay 3 = .ok (.sipush 9999, 3) := by decide +kernel
theorem dX3_isDay_6 : decode cX3_isDay 6 = .ok (.invokestatic 74, 3) := by decide +kernel
theorem dX3_isDay_9 : decode cX3_isDay 9 = .ok (.ifCond .eq 7, 3) := by decide +kernel
theorem dX3_isDay_12 : decode cX3_isDay 12 = .ok (.iconst 0, 1) := by decide +kernel
theorem dX3_isDay_13 : decode cX3_isDay 13 = .ok (.goto 4, 3) := by decide +kernel
theorem dX3_isDay_16 : decode cX3_isDay 16 = .ok (.iconst 1, 1) := by decide +kernel
theorem dX3_isDay_17 : decode cX3_isDay 17 = .ok (.putfield 68, 3) := by decide +kernel
theorem dX3_isDay_20 : decode cX3_isDay 20 = .ok (.aload_n 0, 1) := by decide +kernel
theorem dX3_isDay_21 : decode cX3_isDay 21 = .ok (.getfield 68, 3) := by decide +kernel
theorem dX3_isDay_24 : decode cX3_isDay 24 = .ok (.ifCond .ne 7, 3) := by decide +kernel
theorem dX3_isDay_27 : decode cX3_isDay 27 = .ok (.iconst 1, 1) := by decide +kernel
theorem dX3_isDay_28 : decode cX3_isDay 28 = .ok (.goto 4, 3) := by decide +kernel
theorem dX3_isDay_31 : decode cX3_isDay 31 = .ok (.iconst 0, 1) := by decide +kernel
theorem dX3_isDay_32 : decode cX3_isDay 32 = .ok (.ireturn, 1) := by decide +kernel
set_option maxRecDepth 20000 in
theorem ggX3_costs_X3_isDay : GoodIn wsX3_costs wsX3_isDay := goodIn_r _ [5, 6, 7, 8, 4, 9, 41, 42, 43, 44, 45, 46, 47, 48, 49, 50, 51, 52, 53, 54, 55, 56, 57, 58, 59, 60, 61, 62, 63, 64] (by decide +kernel) (by decide +kernel)
set_option maxRecDepth 20000 in
theorem gX3_costs_X3_isDay : GoodIn wsX3_costs (wsV RX3 125 RX3 yX3_isDay wsX3_isDay) := goodIn_app (goodIn_of _ (by decide +kernel)) ggX3_costs_X3_isDay
set_option maxRecDepth 20000 in
theorem ggX3_costs_X3_costsTo : GoodIn wsX3_costs wsX3_costsTo := goodIn_r _ [13, 14, 15, 16, 17, 18, 19, 20, 21, 4, 22, 23, 24, 25, 26, 27, 28, 29, 30, 31, 32, 33, 34, 35, 36, 37, 38, 39, 40, 7, 8, 9, 41, 42, 43, 44, 45, 46, 47, 48, 49, 50, 51, 52, 53, 54, 55, 56, 57, 58, 59, 60, 61, 62, 63, 64] (by decide +kernel) (by decide +kernel)
set_option maxRecDepth 20000 in
theorem gX3_costs_X3_costsTo : GoodIn wsX3_costs (wsV RX3 114 RX3 yX3_costsTo wsX3_costsTo) := goodIn_app (goodIn_of _ (by decide +kernel)) ggX3_costs_X3_costsTo
theorem dX3_costs_0 : decode cX3_costs 0 = .ok (.aload_n 0, 1) := by decide +kernel
theorem dX3_costs_1 : decode cX3_costs 1 = .ok (.iload_n 1, 1) := by decide +kernel
theorem dX3_costs_2 : decode cX3_costs 2 = .ok (.invokevirtual 125, 3) := by decide +kernel
theorem dX3_costs_5 : decode cX3_costs 5 = .ok (.ifCond .eq 12, 3) := by decide +kernel
theorem dX3_costs_8 : decode cX3_costs 8 = .ok (.aload_n 0, 1) := by decide +kernel
theorem dX3_costs_9 : decode cX3_costs 9 = .ok (.iload_n 1, 1) := by decide +kernel
theorem dX3_costs_10 : decode cX3_costs 10 = .ok (.iconst 0, 1) := by decide +kernel
theorem dX3_costs_11 : decode cX3_costs 11 = .ok (.invokevirtual 114, 3) := by decide +kernel
theorem dX3_costs_14 : decode cX3_costs 14 = .ok (.goto 4, 3) := by decide +kernel
theorem dX3_costs_17 : decode cX3_costs 17 = .ok (.iconst 0, 1) := by decide +kernel
theorem dX3_costs_18 : decode cX3_costs 18 = .ok (.ireturn, 1) := by decide +kernel
set_option maxRecDepth 20000 in
theorem ggX3_overhead_X3_isDay : GoodIn wsX3_overhead wsX3_isDay := goodIn_r _ [5, 6, 7, 8, 4, 9, 48, 49, 50, 51, 52, 53, 54, 55, 56, 57, 58, 59, 60, 61, 62, 63, 64, 65, 66, 67, 68, 69, 70, 71] (by decide +kernel) (by decide +kernel)
set_option maxRecDepth 20000 in
theorem gX3_overhead_X3_isDay : GoodIn wsX3_overhead (wsV RX3 125 RX3 yX3_isDay wsX3_isDay) := goodIn_app (goodIn_of _ (by decide +kernel)) ggX3_overhead_X3_isDay
set_option maxRecDepth 20000 in
theorem ggX3_overhead_X3_overheadTo : GoodIn wsX3_overhead wsX3_overheadTo := goodIn_r _ [13, 14, 15, 16, 17, 18, 19, 4, 20, 21, 22, 23, 24, 25, 26, 27, 28, 29, 30, 31, 32, 33, 34, 35, 36, 37, 38, 39, 40, 41, 42, 43, 44, 45, 46, 47, 7, 8, 9, 48, 49, 50, 51, 52, 53, 54, 55, 56, 57, 58, 59, 60, 61, 62, 63, 64, 65, 66, 67, 68, 69, 70, 71] (by decide +kernel) (by decide +kernel)
set_option maxRecDepth 20000 in
theorem gX3_overhead_X3_overheadTo : GoodIn wsX3_overhead (wsV RX3 119 RX3 yX3_overheadTo wsX3_overheadTo) := goodIn_app (goodIn_of _ (by decide +kernel)) ggX3_overhead_X3_overheadTo
theorem dX3_overhead_0 : decode cX3_overhead 0 = .ok (.aload_n 0, 1) := by decide +kernel
theorem dX3_overhead_1 : decode cX3_overhead 1 = .ok (.iload_n 1, 1) := by decide +kernel
theorem dX3_overhead_2 : decode cX3_overhead 2 = .ok (.invokevirtual 125, 3) := by decide +kernel
theorem dX3_overhead_5 : decode cX3_overhead 5 = .ok (.ifCond .eq 11, 3) := by decide +kernel
theorem dX3_overhead_8 : decode cX3_overhead 8 = .ok (.aload_n 0, 1) := by decide +kernel
theorem dX3_overhead_9 : decode cX3_overhead 9 = .ok (.iload_n 1, 1) := by decide +kernel
theorem dX3_overhead_10 : decode cX3_overhead 10 = .ok (.invokevirtual 119, 3) := by decide +kernel
theorem dX3_overhead_13 : decode cX3_overhead 13 = .ok (.goto 4, 3) := by decide +kernel
theorem dX3_overhead_16 : decode cX3_overhead 16 = .ok (.iconst 0, 1) := by decide +kernel
theorem dX3_overhead_17 : decode cX3_overhead 17 = .ok (.ireturn, 1) := by decide +kernel
set_option maxRecDepth 20000 in
theorem ggX3_earned_X3_isDay : GoodIn wsX3_earned wsX3_isDay := goodIn_r _ [5, 6, 7, 8, 4, 9, 59, 60, 61, 62, 63, 64, 65, 66, 67, 68, 69, 70, 71, 72, 73, 74, 75, 76, 77, 78, 79, 80, 81, 82] (by decide +kernel) (by decide +kernel)
set_option maxRecDepth 20000 in
theorem gX3_earned_X3_isDay : GoodIn wsX3_earned (wsV RX3 125 RX3 yX3_isDay wsX3_isDay) := goodIn_app (goodIn_of _ (by decide +kernel)) ggX3_earned_X3_isDay
set_option maxRecDepth 20000 in
theorem ggX3_earned_X3_earnedTo : GoodIn wsX3_earned wsX3_earnedTo := goodIn_r _ [13, 14, 15, 16, 17, 18, 4, 19, 20, 21, 22, 23, 24, 25, 26, 27, 28, 29, 30, 31, 32, 33, 34, 35, 36, 37, 38, 39, 40, 41, 42, 43, 44, 45, 46, 47, 48, 49, 50, 51, 52, 7, 8, 9, 53, 54, 55, 56, 57, 58, 59, 60, 61, 62, 63, 64, 65, 66, 67, 68, 69, 70, 71, 72, 73, 74, 75, 76, 77, 78, 79, 80, 81, 82] (by decide +kernel) (by decide +kernel)
set_option maxRecDepth 20000 in
theorem gX3_earned_X3_earnedTo : GoodIn wsX3_earned (wsV RX3 128 RX3 yX3_earnedTo wsX3_earnedTo) := goodIn_app (goodIn_of _ (by decide +kernel)) ggX3_earned_X3_earnedTo
theorem dX3_earned_0 : decode cX3_earned 0 = .ok (.aload_n 0, 1) := by decide +kernel
theorem dX3_earned_1 : decode cX3_earned 1 = .ok (.iload_n 1, 1) := by decide +kernel
theorem dX3_earned_2 : decode cX3_earned 2 = .ok (.invokevirtual 125, 3) := by decide +kernel
theorem dX3_earned_5 : decode cX3_earned 5 = .ok (.ifCond .eq 11, 3) := by decide +kernel
theorem dX3_earned_8 : decode cX3_earned 8 = .ok (.aload_n 0, 1) := by decide +kernel
theorem dX3_earned_9 : decode cX3_earned 9 = .ok (.iload_n 1, 1) := by decide +kernel
theorem dX3_earned_10 : decode cX3_earned 10 = .ok (.invokevirtual 128, 3) := by decide +kernel
theorem dX3_earned_13 : decode cX3_earned 13 = .ok (.goto 4, 3) := by decide +kernel
theorem dX3_earned_16 : decode cX3_earned 16 = .ok (.iconst 0, 1) := by decide +kernel
theorem dX3_earned_17 : decode cX3_earned 17 = .ok (.ireturn, 1) := by decide +kernel
set_option maxRecDepth 20000 in
theorem ggX3_missingMatch_X3_isDay : GoodIn wsX3_missingMatch wsX3_isDay := goodIn_r _ [7, 8, 9, 10, 6, 11, 55, 56, 57, 58, 59, 60, 61, 62, 63, 64, 65, 66, 67, 68, 69, 70, 71, 72, 73, 74, 75, 76, 77, 78] (by decide +kernel) (by decide +kernel)
set_option maxRecDepth 20000 in
theorem gX3_missingMatch_X3_isDay : GoodIn wsX3_missingMatch (wsV RX3 125 RX3 yX3_isDay wsX3_isDay) := goodIn_app (goodIn_of _ (by decide +kernel)) ggX3_missingMatch_X3_isDay
set_option maxRecDepth 20000 in
theorem ggX3_missingMatch_X3_unbound : GoodIn wsX3_missingMatch wsX3_unbound := goodIn_r _ [15, 1, 16, 17, 18, 19, 20, 6, 21, 22, 23, 24, 25, 26, 27, 28, 29, 30, 31, 32, 33, 34, 35, 36, 37, 38, 39, 40, 41, 42, 43, 44, 45, 46, 47, 48, 9, 10, 11, 49, 50, 51, 52, 53, 54, 55, 56, 57, 58, 59, 60, 61, 62, 63, 64, 65, 66, 67, 68, 69, 70, 71, 72, 73, 74, 75, 76, 77, 78] (by decide +kernel) (by decide +kernel)
set_option maxRecDepth 20000 in
theorem gX3_missingMatch_X3_unbound : GoodIn wsX3_missingMatch (wsV RX3 122 RX3 yX3_unbound wsX3_unbound) := goodIn_app (goodIn_of _ (by decide +kernel)) ggX3_missingMatch_X3_unbound
theorem dX3_missingMatch_0 : decode cX3_missingMatch 0 = .ok (.aload_n 0, 1) := by decide +kernel
theorem dX3_missingMatch_1 : decode cX3_missingMatch 1 = .ok (.iload_n 1, 1) := by decide +kernel
theorem dX3_missingMatch_2 : decode cX3_missingMatch 2 = .ok (.invokevirtual 125, 3) := by decide +kernel
theorem dX3_missingMatch_5 : decode cX3_missingMatch 5 = .ok (.ifCond .ne 5, 3) := by decide +kernel
theorem dX3_missingMatch_8 : decode cX3_missingMatch 8 = .ok (.iconst 0, 1) := by decide +kernel
theorem dX3_missingMatch_9 : decode cX3_missingMatch 9 = .ok (.ireturn, 1) := by decide +kernel
theorem dX3_missingMatch_10 : decode cX3_missingMatch 10 = .ok (.aload_n 0, 1) := by decide +kernel
theorem dX3_missingMatch_11 : decode cX3_missingMatch 11 = .ok (.iload_n 1, 1) := by decide +kernel
theorem dX3_missingMatch_12 : decode cX3_missingMatch 12 = .ok (.invokevirtual 122, 3) := by decide +kernel
theorem dX3_missingMatch_15 : decode cX3_missingMatch 15 = .ok (.i2l, 1) := by decide +kernel
theorem dX3_missingMatch_16 : decode cX3_missingMatch 16 = .ok (.bipush 100, 2) := by decide +kernel
theorem dX3_missingMatch_18 : decode cX3_missingMatch 18 = .ok (.aload_n 0, 1) := by decide +kernel
theorem dX3_missingMatch_19 : decode cX3_missingMatch 19 = .ok (.getfield 58, 3) := by decide +kernel
theorem dX3_missingMatch_22 : decode cX3_missingMatch 22 = .ok (.isub, 1) := by decide +kernel
theorem dX3_missingMatch_23 : decode cX3_missingMatch 23 = .ok (.i2l, 1) := by decide +kernel
theorem dX3_missingMatch_24 : decode cX3_missingMatch 24 = .ok (.lmul, 1) := by decide +kernel
theorem dX3_missingMatch_25 : decode cX3_missingMatch 25 = .ok (.aload_n 0, 1) := by decide +kernel
theorem dX3_missingMatch_26 : decode cX3_missingMatch 26 = .ok (.getfield 58, 3) := by decide +kernel
theorem dX3_missingMatch_29 : decode cX3_missingMatch 29 = .ok (.i2l, 1) := by decide +kernel
theorem dX3_missingMatch_30 : decode cX3_missingMatch 30 = .ok (.ladd, 1) := by decide +kernel
theorem dX3_missingMatch_31 : decode cX3_missingMatch 31 = .ok (.lconst 1, 1) := by decide +kernel
theorem dX3_missingMatch_32 : decode cX3_missingMatch 32 = .ok (.lsub, 1) := by decide +kernel
theorem dX3_missingMatch_33 : decode cX3_missingMatch 33 = .ok (.aload_n 0, 1) := by decide +kernel
theorem dX3_missingMatch_34 : decode cX3_missingMatch 34 = .ok (.getfield 58, 3) := by decide +kernel
theorem dX3_missingMatch_37 : decode cX3_missingMatch 37 = .ok (.i2l, 1) := by decide +kernel
theorem dX3_missingMatch_38 : decode cX3_missingMatch 38 = .ok (.ldiv, 1) := by decide +kernel
theorem dX3_missingMatch_39 : decode cX3_missingMatch 39 = .ok (.lstore_n 2, 1) := by decide +kernel
theorem dX3_missingMatch_40 : decode cX3_missingMatch 40 = .ok (.lload_n 2, 1) := by decide +kernel
theorem dX3_missingMatch_41 : decode cX3_missingMatch 41 = .ok (.aload_n 0, 1) := by decide +kernel
theorem dX3_missingMatch_42 : decode cX3_missingMatch 42 = .ok (.getfield 111, 3) := by decide +kernel
theorem dX3_missingMatch_45 : decode cX3_missingMatch 45 = .ok (.i2l, 1) := by decide +kernel
theorem dX3_missingMatch_46 : decode cX3_missingMatch 46 = .ok (.lcmp, 1) := by decide +kernel
theorem dX3_missingMatch_47 : decode cX3_missingMatch 47 = .ok (.ifCond .le 14, 3) := by decide +kernel
theorem dX3_missingMatch_50 : decode cX3_missingMatch 50 = .ok (.lload_n 2, 1) := by decide +kernel
theorem dX3_missingMatch_51 : decode cX3_missingMatch 51 = .ok (.aload_n 0, 1) := by decide +kernel
theorem dX3_missingMatch_52 : decode cX3_missingMatch 52 = .ok (.getfield 111, 3) := by decide +kernel
theorem dX3_missingMatch_55 : decode cX3_missingMatch 55 = .ok (.i2l, 1) := by decide +kernel
theorem dX3_missingMatch_56 : decode cX3_missingMatch 56 = .ok (.lsub, 1) := by decide +kernel
theorem dX3_missingMatch_57 : decode cX3_missingMatch 57 = .ok (.l2i, 1) := by decide +kernel
theorem dX3_missingMatch_58 : decode cX3_missingMatch 58 = .ok (.goto 4, 3) := by decide +kernel
theorem dX3_missingMatch_61 : decode cX3_missingMatch 61 = .ok (.iconst 0, 1) := by decide +kernel
theorem dX3_missingMatch_62 : decode cX3_missingMatch 62 = .ok (.ireturn, 1) := by decide +kernel
theorem dX3_paidSum_0 : decode cX3_paidSum 0 = .ok (.iconst 0, 1) := by decide +kernel
theorem dX3_paidSum_1 : decode cX3_paidSum 1 = .ok (.istore_n 1, 1) := by decide +kernel
theorem dX3_paidSum_2 : decode cX3_paidSum 2 = .ok (.iconst 0, 1) := by decide +kernel
theorem dX3_paidSum_3 : decode cX3_paidSum 3 = .ok (.istore_n 2, 1) := by decide +kernel
theorem dX3_paidSum_4 : decode cX3_paidSum 4 = .ok (.iload_n 2, 1) := by decide +kernel
theorem dX3_paidSum_5 : decode cX3_paidSum 5 = .ok (.aload_n 0, 1) := by decide +kernel
theorem dX3_paidSum_6 : decode cX3_paidSum 6 = .ok (.getfield 82, 3) := by decide +kernel
theorem dX3_paidSum_9 : decode cX3_paidSum 9 = .ok (.if_icmp .ge 18, 3) := by decide +kernel
theorem dX3_paidSum_12 : decode cX3_paidSum 12 = .ok (.iload_n 1, 1) := by decide +kernel
theorem dX3_paidSum_13 : decode cX3_paidSum 13 = .ok (.aload_n 0, 1) := by decide +kernel
theorem dX3_paidSum_14 : decode cX3_paidSum 14 = .ok (.getfield 44, 3) := by decide +kernel
theorem dX3_paidSum_17 : decode cX3_paidSum 17 = .ok (.iload_n 2, 1) := by decide +kernel
theorem dX3_paidSum_18 : decode cX3_paidSum 18 = .ok (.iaload, 1) := by decide +kernel
theorem dX3_paidSum_19 : decode cX3_paidSum 19 = .ok (.iadd, 1) := by decide +kernel
theorem dX3_paidSum_20 : decode cX3_paidSum 20 = .ok (.istore_n 1, 1) := by decide +kernel
theorem dX3_paidSum_21 : decode cX3_paidSum 21 = .ok (.iinc 2 1, 3) := by decide +kernel
theorem dX3_paidSum_24 : decode cX3_paidSum 24 = .ok (.goto (-20), 3) := by decide +kernel
theorem dX3_paidSum_27 : decode cX3_paidSum 27 = .ok (.iload_n 1, 1) := by decide +kernel
theorem dX3_paidSum_28 : decode cX3_paidSum 28 = .ok (.ireturn, 1) := by decide +kernel
set_option maxRecDepth 20000 in
theorem ggX3_claim_X3_in : GoodIn wsX3_claim wsX3_in := goodIn_r _ [8] (by decide +kernel) (by decide +kernel)
set_option maxRecDepth 20000 in
theorem gX3_claim_X3_in : GoodIn wsX3_claim (va_wsS RX3 74 yX3_in wsX3_in) := goodIn_app (goodIn_of _ (by decide +kernel)) ggX3_claim_X3_in
set_option maxRecDepth 20000 in
theorem ggX3_claim_X3_earnedTo : GoodIn wsX3_claim wsX3_earnedTo := goodIn_r _ [12, 13, 14, 15, 16, 17, 7, 18, 19, 20, 21, 22, 23, 24, 25, 26, 27, 28, 29, 30, 31, 32, 33, 34, 35, 36, 37, 38, 39, 40, 41, 42, 43, 44, 45, 46, 47, 48, 49, 50, 51, 5, 6, 8, 52, 53, 54, 55, 56, 57, 62, 63, 64, 65, 66, 67, 68, 69, 70, 71, 72, 73, 74, 75, 76, 77, 78, 79, 80, 81, 82, 83, 84, 85] (by decide +kernel) (by decide +kernel)
set_option maxRecDepth 20000 in
theorem gX3_claim_X3_earnedTo : GoodIn wsX3_claim (wsV RX3 128 RX3 yX3_earnedTo wsX3_earnedTo) := goodIn_app (goodIn_of _ (by decide +kernel)) ggX3_claim_X3_earnedTo
set_option maxRecDepth 20000 in
theorem ggX3_claim_X3_paidSum : GoodIn wsX3_claim wsX3_paidSum := goodIn_r _ [61, 2, 4, 62, 63, 64, 65, 66, 67, 68, 69, 70, 71, 72, 73, 74, 75, 76, 77, 78, 79, 80, 81, 82, 83, 84, 85] (by decide +kernel) (by decide +kernel)
set_option maxRecDepth 20000 in
theorem gX3_claim_X3_paidSum : GoodIn wsX3_claim (wsV RX3 134 RX3 yX3_paidSum wsX3_paidSum) := goodIn_app (goodIn_of _ (by decide +kernel)) ggX3_claim_X3_paidSum
theorem dX3_claim_0 : decode cX3_claim 0 = .ok (.aload_n 0, 1) := by decide +kernel
theorem dX3_claim_1 : decode cX3_claim 1 = .ok (.iload_n 1, 1) := by decide +kernel
theorem dX3_claim_2 : decode cX3_claim 2 = .ok (.aload_n 0, 1) := by decide +kernel
theorem dX3_claim_3 : decode cX3_claim 3 = .ok (.getfield 131, 3) := by decide +kernel
theorem dX3_claim_6 : decode cX3_claim 6 = .ok (.sipush 9999, 3) := by decide +kernel
theorem dX3_claim_9 : decode cX3_claim 9 = .ok (.invokestatic 74, 3) := by decide +kernel
theorem dX3_claim_12 : decode cX3_claim 12 = .ok (.ifCond .ne 7, 3) := by decide +kernel
theorem dX3_claim_15 : decode cX3_claim 15 = .ok (.iconst 1, 1) := by decide +kernel
theorem dX3_claim_16 : decode cX3_claim 16 = .ok (.goto 17, 3) := by decide +kernel
theorem dX3_claim_19 : decode cX3_claim 19 = .ok (.aload_n 0, 1) := by decide +kernel
theorem dX3_claim_20 : decode cX3_claim 20 = .ok (.getfield 82, 3) := by decide +kernel
theorem dX3_claim_23 : decode cX3_claim 23 = .ok (.bipush 40, 2) := by decide +kernel
theorem dX3_claim_25 : decode cX3_claim 25 = .ok (.if_icmp .ne 7, 3) := by decide +kernel
theorem dX3_claim_28 : decode cX3_claim 28 = .ok (.iconst 2, 1) := by decide +kernel
theorem dX3_claim_29 : decode cX3_claim 29 = .ok (.goto 4, 3) := by decide +kernel
theorem dX3_claim_32 : decode cX3_claim 32 = .ok (.iconst 0, 1) := by decide +kernel
theorem dX3_claim_33 : decode cX3_claim 33 = .ok (.putfield 68, 3) := by decide +kernel
theorem dX3_claim_36 : decode cX3_claim 36 = .ok (.aload_n 0, 1) := by decide +kernel
theorem dX3_claim_37 : decode cX3_claim 37 = .ok (.getfield 68, 3) := by decide +kernel
theorem dX3_claim_40 : decode cX3_claim 40 = .ok (.ifCond .le 5, 3) := by decide +kernel
theorem dX3_claim_43 : decode cX3_claim 43 = .ok (.iconst 0, 1) := by decide +kernel
theorem dX3_claim_44 : decode cX3_claim 44 = .ok (.ireturn, 1) := by decide +kernel
theorem dX3_claim_45 : decode cX3_claim 45 = .ok (.aload_n 0, 1) := by decide +kernel
theorem dX3_claim_46 : decode cX3_claim 46 = .ok (.iload_n 1, 1) := by decide +kernel
theorem dX3_claim_47 : decode cX3_claim 47 = .ok (.invokevirtual 128, 3) := by decide +kernel
theorem dX3_claim_50 : decode cX3_claim 50 = .ok (.aload_n 0, 1) := by decide +kernel
theorem dX3_claim_51 : decode cX3_claim 51 = .ok (.invokevirtual 134, 3) := by decide +kernel
theorem dX3_claim_54 : decode cX3_claim 54 = .ok (.isub, 1) := by decide +kernel
theorem dX3_claim_55 : decode cX3_claim 55 = .ok (.istore_n 2, 1) := by decide +kernel
theorem dX3_claim_56 : decode cX3_claim 56 = .ok (.aload_n 0, 1) := by decide +kernel
theorem dX3_claim_57 : decode cX3_claim 57 = .ok (.getfield 44, 3) := by decide +kernel
theorem dX3_claim_60 : decode cX3_claim 60 = .ok (.aload_n 0, 1) := by decide +kernel
theorem dX3_claim_61 : decode cX3_claim 61 = .ok (.getfield 82, 3) := by decide +kernel
theorem dX3_claim_64 : decode cX3_claim 64 = .ok (.iload_n 2, 1) := by decide +kernel
theorem dX3_claim_65 : decode cX3_claim 65 = .ok (.iastore, 1) := by decide +kernel
theorem dX3_claim_66 : decode cX3_claim 66 = .ok (.aload_n 0, 1) := by decide +kernel
theorem dX3_claim_67 : decode cX3_claim 67 = .ok (.dup, 1) := by decide +kernel
theorem dX3_claim_68 : decode cX3_claim 68 = .ok (.getfield 82, 3) := by decide +kernel
theorem dX3_claim_71 : decode cX3_claim 71 = .ok (.iconst 1, 1) := by decide +kernel
theorem dX3_claim_72 : decode cX3_claim 72 = .ok (.iadd, 1) := by decide +kernel
theorem dX3_claim_73 : decode cX3_claim 73 = .ok (.putfield 82, 3) := by decide +kernel
theorem dX3_claim_76 : decode cX3_claim 76 = .ok (.aload_n 0, 1) := by decide +kernel
theorem dX3_claim_77 : decode cX3_claim 77 = .ok (.iload_n 1, 1) := by decide +kernel
theorem dX3_claim_78 : decode cX3_claim 78 = .ok (.putfield 131, 3) := by decide +kernel
theorem dX3_claim_81 : decode cX3_claim 81 = .ok (.iload_n 2, 1) := by decide +kernel
theorem dX3_claim_82 : decode cX3_claim 82 = .ok (.ireturn, 1) := by decide +kernel
theorem dX3_claims_0 : decode cX3_claims 0 = .ok (.aload_n 0, 1) := by decide +kernel
theorem dX3_claims_1 : decode cX3_claims 1 = .ok (.iconst 0, 1) := by decide +kernel
theorem dX3_claims_2 : decode cX3_claims 2 = .ok (.putfield 68, 3) := by decide +kernel
theorem dX3_claims_5 : decode cX3_claims 5 = .ok (.aload_n 0, 1) := by decide +kernel
theorem dX3_claims_6 : decode cX3_claims 6 = .ok (.getfield 82, 3) := by decide +kernel
theorem dX3_claims_9 : decode cX3_claims 9 = .ok (.ireturn, 1) := by decide +kernel
set_option maxRecDepth 20000 in
theorem ggX3_paid_X3_in : GoodIn wsX3_paid wsX3_in := goodIn_r _ [7] (by decide +kernel) (by decide +kernel)
set_option maxRecDepth 20000 in
theorem gX3_paid_X3_in : GoodIn wsX3_paid (va_wsS RX3 74 yX3_in wsX3_in) := goodIn_app (goodIn_of _ (by decide +kernel)) ggX3_paid_X3_in
theorem dX3_paid_0 : decode cX3_paid 0 = .ok (.aload_n 0, 1) := by decide +kernel
theorem dX3_paid_1 : decode cX3_paid 1 = .ok (.iload_n 1, 1) := by decide +kernel
theorem dX3_paid_2 : decode cX3_paid 2 = .ok (.iconst 0, 1) := by decide +kernel
theorem dX3_paid_3 : decode cX3_paid 3 = .ok (.aload_n 0, 1) := by decide +kernel
theorem dX3_paid_4 : decode cX3_paid 4 = .ok (.getfield 82, 3) := by decide +kernel
theorem dX3_paid_7 : decode cX3_paid 7 = .ok (.iconst 1, 1) := by decide +kernel
theorem dX3_paid_8 : decode cX3_paid 8 = .ok (.isub, 1) := by decide +kernel
theorem dX3_paid_9 : decode cX3_paid 9 = .ok (.invokestatic 74, 3) := by decide +kernel
theorem dX3_paid_12 : decode cX3_paid 12 = .ok (.ifCond .eq 7, 3) := by decide +kernel
theorem dX3_paid_15 : decode cX3_paid 15 = .ok (.iconst 0, 1) := by decide +kernel
theorem dX3_paid_16 : decode cX3_paid 16 = .ok (.goto 4, 3) := by decide +kernel
theorem dX3_paid_19 : decode cX3_paid 19 = .ok (.iconst 1, 1) := by decide +kernel
theorem dX3_paid_20 : decode cX3_paid 20 = .ok (.putfield 68, 3) := by decide +kernel
theorem dX3_paid_23 : decode cX3_paid 23 = .ok (.aload_n 0, 1) := by decide +kernel
theorem dX3_paid_24 : decode cX3_paid 24 = .ok (.getfield 68, 3) := by decide +kernel
theorem dX3_paid_27 : decode cX3_paid 27 = .ok (.ifCond .ne 12, 3) := by decide +kernel
theorem dX3_paid_30 : decode cX3_paid 30 = .ok (.aload_n 0, 1) := by decide +kernel
theorem dX3_paid_31 : decode cX3_paid 31 = .ok (.getfield 44, 3) := by decide +kernel
theorem dX3_paid_34 : decode cX3_paid 34 = .ok (.iload_n 1, 1) := by decide +kernel
theorem dX3_paid_35 : decode cX3_paid 35 = .ok (.iaload, 1) := by decide +kernel
theorem dX3_paid_36 : decode cX3_paid 36 = .ok (.goto 4, 3) := by decide +kernel
theorem dX3_paid_39 : decode cX3_paid 39 = .ok (.iconst 0, 1) := by decide +kernel
theorem dX3_paid_40 : decode cX3_paid 40 = .ok (.ireturn, 1) := by decide +kernel
set_option maxRecDepth 20000 in
theorem ggX3_unsettled_X3_earnedTo : GoodIn wsX3_unsettled wsX3_earnedTo := goodIn_r _ [8, 9, 10, 11, 12, 13, 7, 14, 15, 16, 17, 18, 19, 20, 21, 22, 23, 24, 25, 26, 27, 28, 29, 30, 31, 32, 33, 34, 35, 36, 37, 38, 39, 40, 41, 42, 43, 44, 45, 46, 47, 48, 49, 50, 51, 52, 53, 54, 55, 56, 62, 63, 64, 65, 66, 67, 68, 69, 70, 71, 72, 73, 74, 75, 76, 77, 78, 79, 80, 81, 82, 83, 84, 85] (by decide +kernel) (by decide +kernel)
set_option maxRecDepth 20000 in
theorem gX3_unsettled_X3_earnedTo : GoodIn wsX3_unsettled (wsV RX3 128 RX3 yX3_earnedTo wsX3_earnedTo) := goodIn_app (goodIn_of _ (by decide +kernel)) ggX3_unsettled_X3_earnedTo
set_option maxRecDepth 20000 in
theorem ggX3_unsettled_X3_paidSum : GoodIn wsX3_unsettled wsX3_paidSum := goodIn_r _ [60, 2, 61, 62, 63, 64, 65, 66, 67, 68, 69, 70, 71, 72, 73, 74, 75, 76, 77, 78, 79, 80, 81, 82, 83, 84, 85] (by decide +kernel) (by decide +kernel)
set_option maxRecDepth 20000 in
theorem gX3_unsettled_X3_paidSum : GoodIn wsX3_unsettled (wsV RX3 134 RX3 yX3_paidSum wsX3_paidSum) := goodIn_app (goodIn_of _ (by decide +kernel)) ggX3_unsettled_X3_paidSum
theorem dX3_unsettled_0 : decode cX3_unsettled 0 = .ok (.aload_n 0, 1) := by decide +kernel
theorem dX3_unsettled_1 : decode cX3_unsettled 1 = .ok (.iconst 0, 1) := by decide +kernel
theorem dX3_unsettled_2 : decode cX3_unsettled 2 = .ok (.putfield 68, 3) := by decide +kernel
theorem dX3_unsettled_5 : decode cX3_unsettled 5 = .ok (.aload_n 0, 1) := by decide +kernel
theorem dX3_unsettled_6 : decode cX3_unsettled 6 = .ok (.getfield 82, 3) := by decide +kernel
theorem dX3_unsettled_9 : decode cX3_unsettled 9 = .ok (.ifCond .ne 7, 3) := by decide +kernel
theorem dX3_unsettled_12 : decode cX3_unsettled 12 = .ok (.iconst 0, 1) := by decide +kernel
theorem dX3_unsettled_13 : decode cX3_unsettled 13 = .ok (.goto 16, 3) := by decide +kernel
theorem dX3_unsettled_16 : decode cX3_unsettled 16 = .ok (.aload_n 0, 1) := by decide +kernel
theorem dX3_unsettled_17 : decode cX3_unsettled 17 = .ok (.aload_n 0, 1) := by decide +kernel
theorem dX3_unsettled_18 : decode cX3_unsettled 18 = .ok (.getfield 131, 3) := by decide +kernel
theorem dX3_unsettled_21 : decode cX3_unsettled 21 = .ok (.invokevirtual 128, 3) := by decide +kernel
theorem dX3_unsettled_24 : decode cX3_unsettled 24 = .ok (.aload_n 0, 1) := by decide +kernel
theorem dX3_unsettled_25 : decode cX3_unsettled 25 = .ok (.invokevirtual 134, 3) := by decide +kernel
theorem dX3_unsettled_28 : decode cX3_unsettled 28 = .ok (.isub, 1) := by decide +kernel
theorem dX3_unsettled_29 : decode cX3_unsettled 29 = .ok (.ireturn, 1) := by decide +kernel
theorem dJ9_max_f86c9_0 : decode cJ9_max_f86c9 0 = .ok (.lload_n 0, 1) := by decide +kernel
theorem dJ9_max_f86c9_1 : decode cJ9_max_f86c9 1 = .ok (.lload_n 2, 1) := by decide +kernel
theorem dJ9_max_f86c9_2 : decode cJ9_max_f86c9 2 = .ok (.lcmp, 1) := by decide +kernel
theorem dJ9_max_f86c9_3 : decode cJ9_max_f86c9 3 = .ok (.ifCond .lt 7, 3) := by decide +kernel
theorem dJ9_max_f86c9_6 : decode cJ9_max_f86c9 6 = .ok (.lload_n 0, 1) := by decide +kernel
theorem dJ9_max_f86c9_7 : decode cJ9_max_f86c9 7 = .ok (.goto 4, 3) := by decide +kernel
theorem dJ9_max_f86c9_10 : decode cJ9_max_f86c9 10 = .ok (.lload_n 2, 1) := by decide +kernel
theorem dJ9_max_f86c9_11 : decode cJ9_max_f86c9 11 = .ok (.lreturn, 1) := by decide +kernel
theorem dJ9_min_7cf53_0 : decode cJ9_min_7cf53 0 = .ok (.iload_n 0, 1) := by decide +kernel
theorem dJ9_min_7cf53_1 : decode cJ9_min_7cf53 1 = .ok (.iload_n 1, 1) := by decide +kernel
theorem dJ9_min_7cf53_2 : decode cJ9_min_7cf53 2 = .ok (.if_icmp .gt 7, 3) := by decide +kernel
theorem dJ9_min_7cf53_5 : decode cJ9_min_7cf53 5 = .ok (.iload_n 0, 1) := by decide +kernel
theorem dJ9_min_7cf53_6 : decode cJ9_min_7cf53 6 = .ok (.goto 4, 3) := by decide +kernel
theorem dJ9_min_7cf53_9 : decode cJ9_min_7cf53 9 = .ok (.iload_n 1, 1) := by decide +kernel
theorem dJ9_min_7cf53_10 : decode cJ9_min_7cf53 10 = .ok (.ireturn, 1) := by decide +kernel
theorem dJ9_min_f86c9_0 : decode cJ9_min_f86c9 0 = .ok (.lload_n 0, 1) := by decide +kernel
theorem dJ9_min_f86c9_1 : decode cJ9_min_f86c9 1 = .ok (.lload_n 2, 1) := by decide +kernel
theorem dJ9_min_f86c9_2 : decode cJ9_min_f86c9 2 = .ok (.lcmp, 1) := by decide +kernel
theorem dJ9_min_f86c9_3 : decode cJ9_min_f86c9 3 = .ok (.ifCond .gt 7, 3) := by decide +kernel
theorem dJ9_min_f86c9_6 : decode cJ9_min_f86c9 6 = .ok (.lload_n 0, 1) := by decide +kernel
theorem dJ9_min_f86c9_7 : decode cJ9_min_f86c9 7 = .ok (.goto 4, 3) := by decide +kernel
theorem dJ9_min_f86c9_10 : decode cJ9_min_f86c9 10 = .ok (.lload_n 2, 1) := by decide +kernel
theorem dJ9_min_f86c9_11 : decode cJ9_min_f86c9 11 = .ok (.lreturn, 1) := by decide +kernel
