theorem dX0_init_0 : decode cX0_init 0 = .ok (.aload_n 0, 1) := by decide +kernel
theorem dX0_init_1 : decode cX0_init 1 = .ok (.invokespecial 1, 3) := by decide +kernel
theorem dX0_init_4 : decode cX0_init 4 = .ok (.aload_n 0, 1) := by decide +kernel
theorem dX0_init_5 : decode cX0_init 5 = .ok (.iconst 0, 1) := by decide +kernel
theorem dX0_init_6 : decode cX0_init 6 = .ok (.putfield 7, 3) := by decide +kernel
theorem dX0_init_9 : decode cX0_init 9 = .ok (.aload_n 0, 1) := by decide +kernel
theorem dX0_init_10 : decode cX0_init 10 = .ok (.iconst 0, 1) := by decide +kernel
theorem dX0_init_11 : decode cX0_init 11 = .ok (.putfield 13, 3) := by decide +kernel
theorem dX0_init_14 : decode cX0_init 14 = .ok (.aload_n 0, 1) := by decide +kernel
theorem dX0_init_15 : decode cX0_init 15 = .ok (.aconst_null, 1) := by decide +kernel
theorem dX0_init_16 : decode cX0_init 16 = .ok (.putfield 16, 3) := by decide +kernel
theorem dX0_init_19 : decode cX0_init 19 = .ok (.aload_n 0, 1) := by decide +kernel
theorem dX0_init_20 : decode cX0_init 20 = .ok (.iload_n 1, 1) := by decide +kernel
theorem dX0_init_21 : decode cX0_init 21 = .ok (.putfield 20, 3) := by decide +kernel
theorem dX0_init_24 : decode cX0_init 24 = .ok (.aload_n 0, 1) := by decide +kernel
theorem dX0_init_25 : decode cX0_init 25 = .ok (.iload_n 2, 1) := by decide +kernel
theorem dX0_init_26 : decode cX0_init 26 = .ok (.putfield 23, 3) := by decide +kernel
theorem dX0_init_29 : decode cX0_init 29 = .ok (.aload_n 0, 1) := by decide +kernel
theorem dX0_init_30 : decode cX0_init 30 = .ok (.iload_n 3, 1) := by decide +kernel
theorem dX0_init_31 : decode cX0_init 31 = .ok (.putfield 26, 3) := by decide +kernel
theorem dX0_init_34 : decode cX0_init 34 = .ok (.aload_n 0, 1) := by decide +kernel
theorem dX0_init_35 : decode cX0_init 35 = .ok (.iload 4, 2) := by decide +kernel
theorem dX0_init_37 : decode cX0_init 37 = .ok (.putfield 29, 3) := by decide +kernel
theorem dX0_init_40 : decode cX0_init 40 = .ok (.return_, 1) := by decide +kernel
theorem dX0_roomNow_0 : decode cX0_roomNow 0 = .ok (.aload_n 0, 1) := by decide +kernel
theorem dX0_roomNow_1 : decode cX0_roomNow 1 = .ok (.getfield 20, 3) := by decide +kernel
theorem dX0_roomNow_4 : decode cX0_roomNow 4 = .ok (.aload_n 0, 1) := by decide +kernel
theorem dX0_roomNow_5 : decode cX0_roomNow 5 = .ok (.getfield 7, 3) := by decide +kernel
theorem dX0_roomNow_8 : decode cX0_roomNow 8 = .ok (.iadd, 1) := by decide +kernel
theorem dX0_roomNow_9 : decode cX0_roomNow 9 = .ok (.aload_n 0, 1) := by decide +kernel
theorem dX0_roomNow_10 : decode cX0_roomNow 10 = .ok (.getfield 13, 3) := by decide +kernel
theorem dX0_roomNow_13 : decode cX0_roomNow 13 = .ok (.isub, 1) := by decide +kernel
theorem dX0_roomNow_14 : decode cX0_roomNow 14 = .ok (.ireturn, 1) := by decide +kernel
theorem dX0_accepts_0 : decode cX0_accepts 0 = .ok (.aload_n 1, 1) := by decide +kernel
theorem dX0_accepts_1 : decode cX0_accepts 1 = .ok (.getfield 33, 3) := by decide +kernel
theorem dX0_accepts_4 : decode cX0_accepts 4 = .ok (.ifCond .ne 29, 3) := by decide +kernel
theorem dX0_accepts_7 : decode cX0_accepts 7 = .ok (.aload_n 1, 1) := by decide +kernel
theorem dX0_accepts_8 : decode cX0_accepts 8 = .ok (.getfield 38, 3) := by decide +kernel
theorem dX0_accepts_11 : decode cX0_accepts 11 = .ok (.aload_n 0, 1) := by decide +kernel
theorem dX0_accepts_12 : decode cX0_accepts 12 = .ok (.getfield 23, 3) := by decide +kernel
theorem dX0_accepts_15 : decode cX0_accepts 15 = .ok (.if_icmp .lt 18, 3) := by decide +kernel
theorem dX0_accepts_18 : decode cX0_accepts 18 = .ok (.aload_n 1, 1) := by decide +kernel
theorem dX0_accepts_19 : decode cX0_accepts 19 = .ok (.getfield 38, 3) := by decide +kernel
theorem dX0_accepts_22 : decode cX0_accepts 22 = .ok (.aload_n 0, 1) := by decide +kernel
theorem dX0_accepts_23 : decode cX0_accepts 23 = .ok (.getfield 26, 3) := by decide +kernel
theorem dX0_accepts_26 : decode cX0_accepts 26 = .ok (.if_icmp .gt 7, 3) := by decide +kernel
theorem dX0_accepts_29 : decode cX0_accepts 29 = .ok (.iconst 1, 1) := by decide +kernel
theorem dX0_accepts_30 : decode cX0_accepts 30 = .ok (.goto 4, 3) := by decide +kernel
theorem dX0_accepts_33 : decode cX0_accepts 33 = .ok (.iconst 0, 1) := by decide +kernel
theorem dX0_accepts_34 : decode cX0_accepts 34 = .ok (.ireturn, 1) := by decide +kernel
theorem dX0_putInOrder_0 : decode cX0_putInOrder 0 = .ok (.aconst_null, 1) := by decide +kernel
theorem dX0_putInOrder_1 : decode cX0_putInOrder 1 = .ok (.astore_n 2, 1) := by decide +kernel
theorem dX0_putInOrder_2 : decode cX0_putInOrder 2 = .ok (.aload_n 0, 1) := by decide +kernel
theorem dX0_putInOrder_3 : decode cX0_putInOrder 3 = .ok (.getfield 16, 3) := by decide +kernel
theorem dX0_putInOrder_6 : decode cX0_putInOrder 6 = .ok (.astore_n 3, 1) := by decide +kernel
theorem dX0_putInOrder_7 : decode cX0_putInOrder 7 = .ok (.aload_n 3, 1) := by decide +kernel
theorem dX0_putInOrder_8 : decode cX0_putInOrder 8 = .ok (.ifnull 24, 3) := by decide +kernel
theorem dX0_putInOrder_11 : decode cX0_putInOrder 11 = .ok (.aload_n 3, 1) := by decide +kernel
theorem dX0_putInOrder_12 : decode cX0_putInOrder 12 = .ok (.getfield 38, 3) := by decide +kernel
theorem dX0_putInOrder_15 : decode cX0_putInOrder 15 = .ok (.aload_n 1, 1) := by decide +kernel
theorem dX0_putInOrder_16 : decode cX0_putInOrder 16 = .ok (.getfield 38, 3) := by decide +kernel
theorem dX0_putInOrder_19 : decode cX0_putInOrder 19 = .ok (.if_icmp .gt 13, 3) := by decide +kernel
theorem dX0_putInOrder_22 : decode cX0_putInOrder 22 = .ok (.aload_n 3, 1) := by decide +kernel
theorem dX0_putInOrder_23 : decode cX0_putInOrder 23 = .ok (.astore_n 2, 1) := by decide +kernel
theorem dX0_putInOrder_24 : decode cX0_putInOrder 24 = .ok (.aload_n 3, 1) := by decide +kernel
theorem dX0_putInOrder_25 : decode cX0_putInOrder 25 = .ok (.getfield 41, 3) := by decide +kernel
theorem dX0_putInOrder_28 : decode cX0_putInOrder 28 = .ok (.astore_n 3, 1) := by decide +kernel
theorem dX0_putInOrder_29 : decode cX0_putInOrder 29 = .ok (.goto (-22), 3) := by decide +kernel
theorem dX0_putInOrder_32 : decode cX0_putInOrder 32 = .ok (.aload_n 2, 1) := by decide +kernel
theorem dX0_putInOrder_33 : decode cX0_putInOrder 33 = .ok (.ifnonnull 19, 3) := by decide +kernel
theorem dX0_putInOrder_36 : decode cX0_putInOrder 36 = .ok (.aload_n 1, 1) := by decide +kernel
theorem dX0_putInOrder_37 : decode cX0_putInOrder 37 = .ok (.aload_n 0, 1) := by decide +kernel
theorem dX0_putInOrder_38 : decode cX0_putInOrder 38 = .ok (.getfield 16, 3) := by decide +kernel
theorem dX0_putInOrder_41 : decode cX0_putInOrder 41 = .ok (.putfield 41, 3) := by decide +kernel
theorem dX0_putInOrder_44 : decode cX0_putInOrder 44 = .ok (.aload_n 0, 1) := by decide +kernel
theorem dX0_putInOrder_45 : decode cX0_putInOrder 45 = .ok (.aload_n 1, 1) := by decide +kernel
theorem dX0_putInOrder_46 : decode cX0_putInOrder 46 = .ok (.putfield 16, 3) := by decide +kernel
theorem dX0_putInOrder_49 : decode cX0_putInOrder 49 = .ok (.goto 16, 3) := by decide +kernel
theorem dX0_putInOrder_52 : decode cX0_putInOrder 52 = .ok (.aload_n 1, 1) := by decide +kernel
theorem dX0_putInOrder_53 : decode cX0_putInOrder 53 = .ok (.aload_n 2, 1) := by decide +kernel
theorem dX0_putInOrder_54 : decode cX0_putInOrder 54 = .ok (.getfield 41, 3) := by decide +kernel
theorem dX0_putInOrder_57 : decode cX0_putInOrder 57 = .ok (.putfield 41, 3) := by decide +kernel
theorem dX0_putInOrder_60 : decode cX0_putInOrder 60 = .ok (.aload_n 2, 1) := by decide +kernel
theorem dX0_putInOrder_61 : decode cX0_putInOrder 61 = .ok (.aload_n 1, 1) := by decide +kernel
theorem dX0_putInOrder_62 : decode cX0_putInOrder 62 = .ok (.putfield 41, 3) := by decide +kernel
theorem dX0_putInOrder_65 : decode cX0_putInOrder 65 = .ok (.return_, 1) := by decide +kernel
set_option maxRecDepth 20000 in
theorem ggX0_reckon_X0_roomNow : GoodIn wsX0_reckon wsX0_roomNow := goodIn_r _ [13, 14, 15, 16, 25, 26, 27, 28, 29, 30, 31] (by decide +kernel) (by decide +kernel)
set_option maxRecDepth 20000 in
theorem gX0_reckon_X0_roomNow : GoodIn wsX0_reckon (wsV RX0 44 RX0 yX0_roomNow wsX0_roomNow) := goodIn_app (goodIn_of _ (by decide +kernel)) ggX0_reckon_X0_roomNow
set_option maxRecDepth 20000 in
theorem ggX0_reckon_X0_accepts : GoodIn wsX0_reckon wsX0_accepts := goodIn_r _ [20, 21, 22, 23, 24, 32, 33, 34, 35, 36, 37, 25, 26, 27, 28, 29, 30, 31] (by decide +kernel) (by decide +kernel)
set_option maxRecDepth 20000 in
theorem gX0_reckon_X0_accepts : GoodIn wsX0_reckon (wsV RX0 48 RX0 yX0_accepts wsX0_accepts) := goodIn_app (goodIn_of _ (by decide +kernel)) ggX0_reckon_X0_accepts
theorem dX0_reckon_0 : decode cX0_reckon 0 = .ok (.aload_n 0, 1) := by decide +kernel
theorem dX0_reckon_1 : decode cX0_reckon 1 = .ok (.invokevirtual 44, 3) := by decide +kernel
theorem dX0_reckon_4 : decode cX0_reckon 4 = .ok (.istore_n 1, 1) := by decide +kernel
theorem dX0_reckon_5 : decode cX0_reckon 5 = .ok (.aload_n 0, 1) := by decide +kernel
theorem dX0_reckon_6 : decode cX0_reckon 6 = .ok (.getfield 16, 3) := by decide +kernel
theorem dX0_reckon_9 : decode cX0_reckon 9 = .ok (.astore_n 2, 1) := by decide +kernel
theorem dX0_reckon_10 : decode cX0_reckon 10 = .ok (.aload_n 2, 1) := by decide +kernel
theorem dX0_reckon_11 : decode cX0_reckon 11 = .ok (.ifnull 42, 3) := by decide +kernel
theorem dX0_reckon_14 : decode cX0_reckon 14 = .ok (.aload_n 2, 1) := by decide +kernel
theorem dX0_reckon_15 : decode cX0_reckon 15 = .ok (.aload_n 0, 1) := by decide +kernel
theorem dX0_reckon_16 : decode cX0_reckon 16 = .ok (.aload_n 2, 1) := by decide +kernel
theorem dX0_reckon_17 : decode cX0_reckon 17 = .ok (.invokevirtual 48, 3) := by decide +kernel
theorem dX0_reckon_20 : decode cX0_reckon 20 = .ok (.ifCond .eq 14, 3) := by decide +kernel
theorem dX0_reckon_23 : decode cX0_reckon 23 = .ok (.aload_n 2, 1) := by decide +kernel
theorem dX0_reckon_24 : decode cX0_reckon 24 = .ok (.getfield 52, 3) := by decide +kernel
theorem dX0_reckon_27 : decode cX0_reckon 27 = .ok (.iload_n 1, 1) := by decide +kernel
theorem dX0_reckon_28 : decode cX0_reckon 28 = .ok (.invokestatic 55, 3) := by decide +kernel
theorem dX0_reckon_31 : decode cX0_reckon 31 = .ok (.goto 4, 3) := by decide +kernel
theorem dX0_reckon_34 : decode cX0_reckon 34 = .ok (.iconst 0, 1) := by decide +kernel
theorem dX0_reckon_35 : decode cX0_reckon 35 = .ok (.putfield 61, 3) := by decide +kernel
theorem dX0_reckon_38 : decode cX0_reckon 38 = .ok (.iload_n 1, 1) := by decide +kernel
theorem dX0_reckon_39 : decode cX0_reckon 39 = .ok (.aload_n 2, 1) := by decide +kernel
theorem dX0_reckon_40 : decode cX0_reckon 40 = .ok (.getfield 61, 3) := by decide +kernel
theorem dX0_reckon_43 : decode cX0_reckon 43 = .ok (.isub, 1) := by decide +kernel
theorem dX0_reckon_44 : decode cX0_reckon 44 = .ok (.istore_n 1, 1) := by decide +kernel
theorem dX0_reckon_45 : decode cX0_reckon 45 = .ok (.aload_n 2, 1) := by decide +kernel
theorem dX0_reckon_46 : decode cX0_reckon 46 = .ok (.getfield 41, 3) := by decide +kernel
theorem dX0_reckon_49 : decode cX0_reckon 49 = .ok (.astore_n 2, 1) := by decide +kernel
theorem dX0_reckon_50 : decode cX0_reckon 50 = .ok (.goto (-40), 3) := by decide +kernel
theorem dX0_reckon_53 : decode cX0_reckon 53 = .ok (.return_, 1) := by decide +kernel
theorem dX0_eligibleUpTo_0 : decode cX0_eligibleUpTo 0 = .ok (.iconst 0, 1) := by decide +kernel
theorem dX0_eligibleUpTo_1 : decode cX0_eligibleUpTo 1 = .ok (.istore_n 2, 1) := by decide +kernel
theorem dX0_eligibleUpTo_2 : decode cX0_eligibleUpTo 2 = .ok (.aload_n 0, 1) := by decide +kernel
theorem dX0_eligibleUpTo_3 : decode cX0_eligibleUpTo 3 = .ok (.getfield 16, 3) := by decide +kernel
theorem dX0_eligibleUpTo_6 : decode cX0_eligibleUpTo 6 = .ok (.astore_n 3, 1) := by decide +kernel
theorem dX0_eligibleUpTo_7 : decode cX0_eligibleUpTo 7 = .ok (.aload_n 3, 1) := by decide +kernel
theorem dX0_eligibleUpTo_8 : decode cX0_eligibleUpTo 8 = .ok (.ifnull 26, 3) := by decide +kernel
theorem dX0_eligibleUpTo_11 : decode cX0_eligibleUpTo 11 = .ok (.aload_n 3, 1) := by decide +kernel
theorem dX0_eligibleUpTo_12 : decode cX0_eligibleUpTo 12 = .ok (.getfield 38, 3) := by decide +kernel
theorem dX0_eligibleUpTo_15 : decode cX0_eligibleUpTo 15 = .ok (.iload_n 1, 1) := by decide +kernel
theorem dX0_eligibleUpTo_16 : decode cX0_eligibleUpTo 16 = .ok (.if_icmp .gt 18, 3) := by decide +kernel
theorem dX0_eligibleUpTo_19 : decode cX0_eligibleUpTo 19 = .ok (.iload_n 2, 1) := by decide +kernel
theorem dX0_eligibleUpTo_20 : decode cX0_eligibleUpTo 20 = .ok (.aload_n 3, 1) := by decide +kernel
theorem dX0_eligibleUpTo_21 : decode cX0_eligibleUpTo 21 = .ok (.getfield 61, 3) := by decide +kernel
theorem dX0_eligibleUpTo_24 : decode cX0_eligibleUpTo 24 = .ok (.iadd, 1) := by decide +kernel
theorem dX0_eligibleUpTo_25 : decode cX0_eligibleUpTo 25 = .ok (.istore_n 2, 1) := by decide +kernel
theorem dX0_eligibleUpTo_26 : decode cX0_eligibleUpTo 26 = .ok (.aload_n 3, 1) := by decide +kernel
theorem dX0_eligibleUpTo_27 : decode cX0_eligibleUpTo 27 = .ok (.getfield 41, 3) := by decide +kernel
theorem dX0_eligibleUpTo_30 : decode cX0_eligibleUpTo 30 = .ok (.astore_n 3, 1) := by decide +kernel
theorem dX0_eligibleUpTo_31 : decode cX0_eligibleUpTo 31 = .ok (.goto (-24), 3) := by decide +kernel
theorem dX0_eligibleUpTo_34 : decode cX0_eligibleUpTo 34 = .ok (.iload_n 2, 1) := by decide +kernel
theorem dX0_eligibleUpTo_35 : decode cX0_eligibleUpTo 35 = .ok (.ireturn, 1) := by decide +kernel
theorem dX1_init_0 : decode cX1_init 0 = .ok (.aload_n 0, 1) := by decide +kernel
theorem dX1_init_1 : decode cX1_init 1 = .ok (.invokespecial 1, 3) := by decide +kernel
theorem dX1_init_4 : decode cX1_init 4 = .ok (.aload_n 0, 1) := by decide +kernel
theorem dX1_init_5 : decode cX1_init 5 = .ok (.iconst 0, 1) := by decide +kernel
theorem dX1_init_6 : decode cX1_init 6 = .ok (.putfield 7, 3) := by decide +kernel
theorem dX1_init_9 : decode cX1_init 9 = .ok (.aload_n 0, 1) := by decide +kernel
theorem dX1_init_10 : decode cX1_init 10 = .ok (.iconst 0, 1) := by decide +kernel
theorem dX1_init_11 : decode cX1_init 11 = .ok (.putfield 13, 3) := by decide +kernel
theorem dX1_init_14 : decode cX1_init 14 = .ok (.aload_n 0, 1) := by decide +kernel
theorem dX1_init_15 : decode cX1_init 15 = .ok (.aconst_null, 1) := by decide +kernel
theorem dX1_init_16 : decode cX1_init 16 = .ok (.putfield 17, 3) := by decide +kernel
theorem dX1_init_19 : decode cX1_init 19 = .ok (.aload_n 0, 1) := by decide +kernel
theorem dX1_init_20 : decode cX1_init 20 = .ok (.aload_n 1, 1) := by decide +kernel
theorem dX1_init_21 : decode cX1_init 21 = .ok (.putfield 21, 3) := by decide +kernel
theorem dX1_init_24 : decode cX1_init 24 = .ok (.aload_n 0, 1) := by decide +kernel
theorem dX1_init_25 : decode cX1_init 25 = .ok (.iload_n 2, 1) := by decide +kernel
theorem dX1_init_26 : decode cX1_init 26 = .ok (.putfield 25, 3) := by decide +kernel
theorem dX1_init_29 : decode cX1_init 29 = .ok (.aload_n 0, 1) := by decide +kernel
theorem dX1_init_30 : decode cX1_init 30 = .ok (.iload_n 3, 1) := by decide +kernel
theorem dX1_init_31 : decode cX1_init 31 = .ok (.putfield 28, 3) := by decide +kernel
theorem dX1_init_34 : decode cX1_init 34 = .ok (.return_, 1) := by decide +kernel
theorem dX2_init_0 : decode cX2_init 0 = .ok (.aload_n 0, 1) := by decide +kernel
theorem dX2_init_1 : decode cX2_init 1 = .ok (.invokespecial 1, 3) := by decide +kernel
theorem dX2_init_4 : decode cX2_init 4 = .ok (.aload_n 0, 1) := by decide +kernel
theorem dX2_init_5 : decode cX2_init 5 = .ok (.ldc 7, 2) := by decide +kernel
theorem dX2_init_7 : decode cX2_init 7 = .ok (.putfield 8, 3) := by decide +kernel
theorem dX2_init_10 : decode cX2_init 10 = .ok (.aload_n 0, 1) := by decide +kernel
theorem dX2_init_11 : decode cX2_init 11 = .ok (.bipush 75, 2) := by decide +kernel
theorem dX2_init_13 : decode cX2_init 13 = .ok (.putfield 14, 3) := by decide +kernel
theorem dX2_init_16 : decode cX2_init 16 = .ok (.aload_n 0, 1) := by decide +kernel
theorem dX2_init_17 : decode cX2_init 17 = .ok (.bipush 10, 2) := by decide +kernel
theorem dX2_init_19 : decode cX2_init 19 = .ok (.putfield 17, 3) := by decide +kernel
theorem dX2_init_22 : decode cX2_init 22 = .ok (.aload_n 0, 1) := by decide +kernel
theorem dX2_init_23 : decode cX2_init 23 = .ok (.ldc 20, 2) := by decide +kernel
theorem dX2_init_25 : decode cX2_init 25 = .ok (.putfield 21, 3) := by decide +kernel
theorem dX2_init_28 : decode cX2_init 28 = .ok (.aload_n 0, 1) := by decide +kernel
theorem dX2_init_29 : decode cX2_init 29 = .ok (.bipush 12, 2) := by decide +kernel
theorem dX2_init_31 : decode cX2_init 31 = .ok (.anewarray 24, 3) := by decide +kernel
theorem dX2_init_34 : decode cX2_init 34 = .ok (.putfield 26, 3) := by decide +kernel
theorem dX2_init_37 : decode cX2_init 37 = .ok (.aload_n 0, 1) := by decide +kernel
theorem dX2_init_38 : decode cX2_init 38 = .ok (.iconst 0, 1) := by decide +kernel
theorem dX2_init_39 : decode cX2_init 39 = .ok (.putfield 30, 3) := by decide +kernel
theorem dX2_init_42 : decode cX2_init 42 = .ok (.aload_n 0, 1) := by decide +kernel
theorem dX2_init_43 : decode cX2_init 43 = .ok (.bipush 100, 2) := by decide +kernel
theorem dX2_init_45 : decode cX2_init 45 = .ok (.anewarray 33, 3) := by decide +kernel
theorem dX2_init_48 : decode cX2_init 48 = .ok (.putfield 35, 3) := by decide +kernel
theorem dX2_init_51 : decode cX2_init 51 = .ok (.aload_n 0, 1) := by decide +kernel
theorem dX2_init_52 : decode cX2_init 52 = .ok (.iconst 0, 1) := by decide +kernel
theorem dX2_init_53 : decode cX2_init 53 = .ok (.putfield 39, 3) := by decide +kernel
theorem dX2_init_56 : decode cX2_init 56 = .ok (.aload_n 0, 1) := by decide +kernel
theorem dX2_init_57 : decode cX2_init 57 = .ok (.iconst 0, 1) := by decide +kernel
theorem dX2_init_58 : decode cX2_init 58 = .ok (.putfield 42, 3) := by decide +kernel
theorem dX2_init_61 : decode cX2_init 61 = .ok (.aload_n 0, 1) := by decide +kernel
theorem dX2_init_62 : decode cX2_init 62 = .ok (.bipush 40, 2) := by decide +kernel
theorem dX2_init_64 : decode cX2_init 64 = .ok (.newarray .int, 2) := by decide +kernel
theorem dX2_init_66 : decode cX2_init 66 = .ok (.putfield 45, 3) := by decide +kernel
theorem dX2_init_69 : decode cX2_init 69 = .ok (.aload_n 0, 1) := by decide +kernel
theorem dX2_init_70 : decode cX2_init 70 = .ok (.iconst 0, 1) := by decide +kernel
theorem dX2_init_71 : decode cX2_init 71 = .ok (.putfield 49, 3) := by decide +kernel
theorem dX2_init_74 : decode cX2_init 74 = .ok (.aload_n 0, 1) := by decide +kernel
theorem dX2_init_75 : decode cX2_init 75 = .ok (.iconst 0, 1) := by decide +kernel
theorem dX2_init_76 : decode cX2_init 76 = .ok (.putfield 52, 3) := by decide +kernel
theorem dX2_init_79 : decode cX2_init 79 = .ok (.aload_n 0, 1) := by decide +kernel
theorem dX2_init_80 : decode cX2_init 80 = .ok (.iconst 0, 1) := by decide +kernel
theorem dX2_init_81 : decode cX2_init 81 = .ok (.putfield 55, 3) := by decide +kernel
theorem dX2_init_84 : decode cX2_init 84 = .ok (.return_, 1) := by decide +kernel
set_option maxRecDepth 20000 in
theorem ggX2_setGrant_X2_checkRange : GoodIn wsX2_setGrant wsX2_checkRange := goodIn_ca (goodIn_r _ [12, 13, 14] (by decide +kernel) (by decide +kernel)) (goodIn_sub (fun _ h => List.mem_cons_of_mem _ (List.mem_append_right _ h)) (by decide +kernel))
set_option maxRecDepth 20000 in
theorem gX2_setGrant_X2_checkRange : GoodIn wsX2_setGrant (va_wsS RX2 59 yX2_checkRange wsX2_checkRange) := goodIn_app (goodIn_of _ (by decide +kernel)) ggX2_setGrant_X2_checkRange
theorem dX2_setGrant_0 : decode cX2_setGrant 0 = .ok (.iload_n 1, 1) := by decide +kernel
theorem dX2_setGrant_1 : decode cX2_setGrant 1 = .ok (.iconst 0, 1) := by decide +kernel
theorem dX2_setGrant_2 : decode cX2_setGrant 2 = .ok (.ldc 58, 2) := by decide +kernel
theorem dX2_setGrant_4 : decode cX2_setGrant 4 = .ok (.invokestatic 59, 3) := by decide +kernel
theorem dX2_setGrant_7 : decode cX2_setGrant 7 = .ok (.iload_n 2, 1) := by decide +kernel
theorem dX2_setGrant_8 : decode cX2_setGrant 8 = .ok (.iconst 1, 1) := by decide +kernel
theorem dX2_setGrant_9 : decode cX2_setGrant 9 = .ok (.bipush 100, 2) := by decide +kernel
theorem dX2_setGrant_11 : decode cX2_setGrant 11 = .ok (.invokestatic 59, 3) := by decide +kernel
theorem dX2_setGrant_14 : decode cX2_setGrant 14 = .ok (.iload_n 3, 1) := by decide +kernel
theorem dX2_setGrant_15 : decode cX2_setGrant 15 = .ok (.iconst 0, 1) := by decide +kernel
theorem dX2_setGrant_16 : decode cX2_setGrant 16 = .ok (.bipush 100, 2) := by decide +kernel
theorem dX2_setGrant_18 : decode cX2_setGrant 18 = .ok (.invokestatic 59, 3) := by decide +kernel
theorem dX2_setGrant_21 : decode cX2_setGrant 21 = .ok (.iload 4, 2) := by decide +kernel
theorem dX2_setGrant_23 : decode cX2_setGrant 23 = .ok (.iconst 0, 1) := by decide +kernel
theorem dX2_setGrant_24 : decode cX2_setGrant 24 = .ok (.ldc 58, 2) := by decide +kernel
theorem dX2_setGrant_26 : decode cX2_setGrant 26 = .ok (.invokestatic 59, 3) := by decide +kernel
theorem dX2_setGrant_29 : decode cX2_setGrant 29 = .ok (.aload_n 0, 1) := by decide +kernel
theorem dX2_setGrant_30 : decode cX2_setGrant 30 = .ok (.getfield 49, 3) := by decide +kernel
theorem dX2_setGrant_33 : decode cX2_setGrant 33 = .ok (.ifCond .le 13, 3) := by decide +kernel
theorem dX2_setGrant_36 : decode cX2_setGrant 36 = .ok (.new 63, 3) := by decide +kernel
theorem dX2_setGrant_39 : decode cX2_setGrant 39 = .ok (.dup, 1) := by decide +kernel
theorem dX2_setGrant_40 : decode cX2_setGrant 40 = .ok (.ldc 65, 2) := by decide +kernel
theorem dX2_setGrant_42 : decode cX2_setGrant 42 = .ok (.invokespecial 67, 3) := by decide +kernel
theorem dX2_setGrant_45 : decode cX2_setGrant 45 = .ok (.athrow, 1) := by decide +kernel
theorem dX2_setGrant_46 : decode cX2_setGrant 46 = .ok (.aload_n 0, 1) := by decide +kernel
theorem dX2_setGrant_47 : decode cX2_setGrant 47 = .ok (.iload_n 1, 1) := by decide +kernel
theorem dX2_setGrant_48 : decode cX2_setGrant 48 = .ok (.putfield 8, 3) := by decide +kernel
theorem dX2_setGrant_51 : decode cX2_setGrant 51 = .ok (.aload_n 0, 1) := by decide +kernel
theorem dX2_setGrant_52 : decode cX2_setGrant 52 = .ok (.iload_n 2, 1) := by decide +kernel
theorem dX2_setGrant_53 : decode cX2_setGrant 53 = .ok (.putfield 14, 3) := by decide +kernel
theorem dX2_setGrant_56 : decode cX2_setGrant 56 = .ok (.aload_n 0, 1) := by decide +kernel
theorem dX2_setGrant_57 : decode cX2_setGrant 57 = .ok (.iload_n 3, 1) := by decide +kernel
theorem dX2_setGrant_58 : decode cX2_setGrant 58 = .ok (.putfield 17, 3) := by decide +kernel
theorem dX2_setGrant_61 : decode cX2_setGrant 61 = .ok (.aload_n 0, 1) := by decide +kernel
theorem dX2_setGrant_62 : decode cX2_setGrant 62 = .ok (.iload 4, 2) := by decide +kernel
theorem dX2_setGrant_64 : decode cX2_setGrant 64 = .ok (.putfield 21, 3) := by decide +kernel
theorem dX2_setGrant_67 : decode cX2_setGrant 67 = .ok (.return_, 1) := by decide +kernel
set_option maxRecDepth 20000 in
theorem ggX2_addLine_X2_checkRange : GoodIn wsX2_addLine wsX2_checkRange := goodIn_ca (goodIn_r _ [12, 13, 14] (by decide +kernel) (by decide +kernel)) (goodIn_sub (fun _ h => List.mem_cons_of_mem _ (List.mem_append_right _ h)) (by decide +kernel))
set_option maxRecDepth 20000 in
theorem gX2_addLine_X2_checkRange : GoodIn wsX2_addLine (va_wsS RX2 59 yX2_checkRange wsX2_checkRange) := goodIn_app (goodIn_of _ (by decide +kernel)) ggX2_addLine_X2_checkRange
set_option maxRecDepth 20000 in
theorem ggX2_addLine_X2_checkDay : GoodIn wsX2_addLine wsX2_checkDay := goodIn_ca (goodIn_r _ [17, 9, 10, 11, 12, 13, 14] (by decide +kernel) (by decide +kernel)) (goodIn_sub (fun _ h => List.mem_cons_of_mem _ (List.mem_append_right _ h)) (by decide +kernel))
set_option maxRecDepth 20000 in
theorem gX2_addLine_X2_checkDay : GoodIn wsX2_addLine (va_wsS RX2 71 yX2_checkDay wsX2_checkDay) := goodIn_app (goodIn_of _ (by decide +kernel)) ggX2_addLine_X2_checkDay
set_option maxRecDepth 20000 in
theorem ggX2_addLine_X0_init : GoodIn wsX2_addLine wsX0_init := goodIn_r _ [20, 21, 22, 23, 24, 25, 26, 27, 28, 29, 30, 44, 45, 46, 47, 48, 49, 50] (by decide +kernel) (by decide +kernel)
set_option maxRecDepth 20000 in
theorem gX2_addLine_X0_init : GoodIn wsX2_addLine (wsX0_init) := ggX2_addLine_X0_init
theorem dX2_addLine_0 : decode cX2_addLine 0 = .ok (.iload_n 1, 1) := by decide +kernel
theorem dX2_addLine_1 : decode cX2_addLine 1 = .ok (.iconst 0, 1) := by decide +kernel
theorem dX2_addLine_2 : decode cX2_addLine 2 = .ok (.ldc 70, 2) := by decide +kernel
theorem dX2_addLine_4 : decode cX2_addLine 4 = .ok (.invokestatic 59, 3) := by decide +kernel
theorem dX2_addLine_7 : decode cX2_addLine 7 = .ok (.iload_n 2, 1) := by decide +kernel
theorem dX2_addLine_8 : decode cX2_addLine 8 = .ok (.invokestatic 71, 3) := by decide +kernel
theorem dX2_addLine_11 : decode cX2_addLine 11 = .ok (.iload_n 3, 1) := by decide +kernel
theorem dX2_addLine_12 : decode cX2_addLine 12 = .ok (.iload_n 2, 1) := by decide +kernel
theorem dX2_addLine_13 : decode cX2_addLine 13 = .ok (.sipush 9999, 3) := by decide +kernel
theorem dX2_addLine_16 : decode cX2_addLine 16 = .ok (.invokestatic 59, 3) := by decide +kernel
theorem dX2_addLine_19 : decode cX2_addLine 19 = .ok (.aload_n 0, 1) := by decide +kernel
theorem dX2_addLine_20 : decode cX2_addLine 20 = .ok (.getfield 30, 3) := by decide +kernel
theorem dX2_addLine_23 : decode cX2_addLine 23 = .ok (.istore 5, 2) := by decide +kernel
theorem dX2_addLine_25 : decode cX2_addLine 25 = .ok (.iload 5, 2) := by decide +kernel
theorem dX2_addLine_27 : decode cX2_addLine 27 = .ok (.ifCond .lt 13, 3) := by decide +kernel
theorem dX2_addLine_30 : decode cX2_addLine 30 = .ok (.iload 5, 2) := by decide +kernel
theorem dX2_addLine_32 : decode cX2_addLine 32 = .ok (.aload_n 0, 1) := by decide +kernel
theorem dX2_addLine_33 : decode cX2_addLine 33 = .ok (.getfield 26, 3) := by decide +kernel
theorem dX2_addLine_36 : decode cX2_addLine 36 = .ok (.arraylength, 1) := by decide +kernel
theorem dX2_addLine_37 : decode cX2_addLine 37 = .ok (.if_icmp .lt 13, 3) := by decide +kernel
theorem dX2_addLine_40 : decode cX2_addLine 40 = .ok (.new 63, 3) := by decide +kernel
theorem dX2_addLine_43 : decode cX2_addLine 43 = .ok (.dup, 1) := by decide +kernel
theorem dX2_addLine_44 : decode cX2_addLine 44 = .ok (.ldc 75, 2) := by decide +kernel
theorem dX2_addLine_46 : decode cX2_addLine 46 = .ok (.invokespecial 67, 3) := by decide +kernel
theorem dX2_addLine_49 : decode cX2_addLine 49 = .ok (.athrow, 1) := by decide +kernel
theorem dX2_addLine_50 : decode cX2_addLine 50 = .ok (.aload_n 0, 1) := by decide +kernel
theorem dX2_addLine_51 : decode cX2_addLine 51 = .ok (.getfield 26, 3) := by decide +kernel
theorem dX2_addLine_54 : decode cX2_addLine 54 = .ok (.iload 5, 2) := by decide +kernel
theorem dX2_addLine_56 : decode cX2_addLine 56 = .ok (.new 24, 3) := by decide +kernel
theorem dX2_addLine_59 : decode cX2_addLine 59 = .ok (.dup, 1) := by decide +kernel
theorem dX2_addLine_60 : decode cX2_addLine 60 = .ok (.iload_n 1, 1) := by decide +kernel
theorem dX2_addLine_61 : decode cX2_addLine 61 = .ok (.iload_n 2, 1) := by decide +kernel
theorem dX2_addLine_62 : decode cX2_addLine 62 = .ok (.iload_n 3, 1) := by decide +kernel
theorem dX2_addLine_63 : decode cX2_addLine 63 = .ok (.iload 4, 2) := by decide +kernel
theorem dX2_addLine_65 : decode cX2_addLine 65 = .ok (.invokespecial 77, 3) := by decide +kernel
theorem dX2_addLine_68 : decode cX2_addLine 68 = .ok (.aastore, 1) := by decide +kernel
theorem dX2_addLine_69 : decode cX2_addLine 69 = .ok (.aload_n 0, 1) := by decide +kernel
theorem dX2_addLine_70 : decode cX2_addLine 70 = .ok (.iload 5, 2) := by decide +kernel
theorem dX2_addLine_72 : decode cX2_addLine 72 = .ok (.iconst 1, 1) := by decide +kernel
theorem dX2_addLine_73 : decode cX2_addLine 73 = .ok (.iadd, 1) := by decide +kernel
theorem dX2_addLine_74 : decode cX2_addLine 74 = .ok (.putfield 30, 3) := by decide +kernel
theorem dX2_addLine_77 : decode cX2_addLine 77 = .ok (.iload 5, 2) := by decide +kernel
theorem dX2_addLine_79 : decode cX2_addLine 79 = .ok (.ireturn, 1) := by decide +kernel
set_option maxRecDepth 20000 in
theorem ggX2_extend_X2_findLine : GoodIn wsX2_extend wsX2_findLine := goodIn_ca (goodIn_r _ [6, 7, 8, 9, 50, 51, 52, 53, 54, 55, 56, 57, 58, 59, 60, 61, 62] (by decide +kernel) (by decide +kernel)) (goodIn_sub (fun _ h => List.mem_cons_of_mem _ (List.mem_append_left _ (List.mem_append_right _ h))) (by decide +kernel))
set_option maxRecDepth 20000 in
theorem gX2_extend_X2_findLine : GoodIn wsX2_extend (wsV RX2 80 RX2 yX2_findLine wsX2_findLine) := goodIn_app (goodIn_of _ (by decide +kernel)) ggX2_extend_X2_findLine
set_option maxRecDepth 20000 in
theorem ggX2_extend_X2_checkRange : GoodIn wsX2_extend wsX2_checkRange := goodIn_ca (goodIn_r _ [12, 13, 14] (by decide +kernel) (by decide +kernel)) (goodIn_sub (fun _ h => List.mem_cons_of_mem _ (List.mem_append_right _ h)) (by decide +kernel))
set_option maxRecDepth 20000 in
theorem gX2_extend_X2_checkRange : GoodIn wsX2_extend (va_wsS RX2 59 yX2_checkRange wsX2_checkRange) := goodIn_app (goodIn_of _ (by decide +kernel)) ggX2_extend_X2_checkRange
set_option maxRecDepth 20000 in
theorem ggX2_extend_X0_reckon : GoodIn wsX2_extend wsX0_reckon := goodIn_r _ [19, 20, 21, 22, 23, 24, 25, 26, 27, 28, 29, 30, 18, 31, 32, 33, 34, 35, 36, 37, 38, 39, 40, 41, 42, 43, 44, 45, 46, 47, 48, 49, 63, 64, 65, 66, 67, 68] (by decide +kernel) (by decide +kernel)
set_option maxRecDepth 20000 in
theorem gX2_extend_X0_reckon : GoodIn wsX2_extend (wsV RX2 87 RX0 yX0_reckon wsX0_reckon) := goodIn_app (goodIn_of _ (by decide +kernel)) ggX2_extend_X0_reckon
theorem dX2_extend_0 : decode cX2_extend 0 = .ok (.aload_n 0, 1) := by decide +kernel
theorem dX2_extend_1 : decode cX2_extend 1 = .ok (.iload_n 1, 1) := by decide +kernel
theorem dX2_extend_2 : decode cX2_extend 2 = .ok (.invokevirtual 80, 3) := by decide +kernel
theorem dX2_extend_5 : decode cX2_extend 5 = .ok (.astore_n 3, 1) := by decide +kernel
theorem dX2_extend_6 : decode cX2_extend 6 = .ok (.aload_n 3, 1) := by decide +kernel
theorem dX2_extend_7 : decode cX2_extend 7 = .ok (.getfield 84, 3) := by decide +kernel
theorem dX2_extend_10 : decode cX2_extend 10 = .ok (.istore 4, 2) := by decide +kernel
theorem dX2_extend_12 : decode cX2_extend 12 = .ok (.iload_n 2, 1) := by decide +kernel
theorem dX2_extend_13 : decode cX2_extend 13 = .ok (.iload 4, 2) := by decide +kernel
theorem dX2_extend_15 : decode cX2_extend 15 = .ok (.sipush 9999, 3) := by decide +kernel
theorem dX2_extend_18 : decode cX2_extend 18 = .ok (.invokestatic 59, 3) := by decide +kernel
theorem dX2_extend_21 : decode cX2_extend 21 = .ok (.aload_n 3, 1) := by decide +kernel
theorem dX2_extend_22 : decode cX2_extend 22 = .ok (.iload_n 2, 1) := by decide +kernel
theorem dX2_extend_23 : decode cX2_extend 23 = .ok (.putfield 84, 3) := by decide +kernel
theorem dX2_extend_26 : decode cX2_extend 26 = .ok (.aload_n 3, 1) := by decide +kernel
theorem dX2_extend_27 : decode cX2_extend 27 = .ok (.invokevirtual 87, 3) := by decide +kernel
theorem dX2_extend_30 : decode cX2_extend 30 = .ok (.iload 4, 2) := by decide +kernel
theorem dX2_extend_32 : decode cX2_extend 32 = .ok (.ireturn, 1) := by decide +kernel
set_option maxRecDepth 20000 in
theorem ggX2_move_X2_findLine : GoodIn wsX2_move wsX2_findLine := goodIn_ca (goodIn_r _ [13, 14, 15, 16, 56, 57, 58, 59, 60, 61, 62, 63, 64, 65, 66, 67, 68] (by decide +kernel) (by decide +kernel)) (goodIn_sub (fun _ h => List.mem_cons_of_mem _ (List.mem_append_right _ h)) (by decide +kernel))
set_option maxRecDepth 20000 in
theorem gX2_move_X2_findLine : GoodIn wsX2_move (wsV RX2 80 RX2 yX2_findLine wsX2_findLine) := goodIn_app (goodIn_of _ (by decide +kernel)) ggX2_move_X2_findLine
set_option maxRecDepth 20000 in
theorem ggX2_move_X2_checkRange : GoodIn wsX2_move wsX2_checkRange := goodIn_ca (goodIn_r _ [19, 1, 2] (by decide +kernel) (by decide +kernel)) (goodIn_sub (fun _ h => List.mem_cons_of_mem _ (List.mem_append_left _ (List.mem_append_left _ (List.mem_append_right _ h)))) (by decide +kernel))
set_option maxRecDepth 20000 in
theorem gX2_move_X2_checkRange : GoodIn wsX2_move (va_wsS RX2 59 yX2_checkRange wsX2_checkRange) := goodIn_app (goodIn_of _ (by decide +kernel)) ggX2_move_X2_checkRange
set_option maxRecDepth 20000 in
theorem ggX2_move_X0_reckon : GoodIn wsX2_move wsX0_reckon := goodIn_r _ [24, 25, 26, 27, 28, 29, 30, 31, 32, 33, 34, 35, 23, 36, 37, 38, 39, 40, 41, 42, 43, 44, 45, 46, 47, 49, 50, 51, 52, 53, 54, 55, 69, 70, 71, 72, 73, 74] (by decide +kernel) (by decide +kernel)
set_option maxRecDepth 20000 in
theorem gX2_move_X0_reckon : GoodIn wsX2_move (wsV RX2 87 RX0 yX0_reckon wsX0_reckon) := goodIn_app (goodIn_of _ (by decide +kernel)) ggX2_move_X0_reckon
set_option maxRecDepth 20000 in
theorem ggX2_move_X0_roomNow : GoodIn wsX2_move wsX0_roomNow := goodIn_r _ [36, 37, 38, 39, 49, 50, 51, 52, 53, 54, 55] (by decide +kernel) (by decide +kernel)
set_option maxRecDepth 20000 in
theorem gX2_move_X0_roomNow : GoodIn wsX2_move (wsV RX2 106 RX0 yX0_roomNow wsX0_roomNow) := goodIn_app (goodIn_of _ (by decide +kernel)) ggX2_move_X0_roomNow
theorem dX2_move_0 : decode cX2_move 0 = .ok (.aload_n 0, 1) := by decide +kernel
theorem dX2_move_1 : decode cX2_move 1 = .ok (.iload_n 1, 1) := by decide +kernel
theorem dX2_move_2 : decode cX2_move 2 = .ok (.invokevirtual 80, 3) := by decide +kernel
theorem dX2_move_5 : decode cX2_move 5 = .ok (.astore 4, 2) := by decide +kernel
theorem dX2_move_7 : decode cX2_move 7 = .ok (.aload_n 0, 1) := by decide +kernel
theorem dX2_move_8 : decode cX2_move 8 = .ok (.iload_n 2, 1) := by decide +kernel
theorem dX2_move_9 : decode cX2_move 9 = .ok (.invokevirtual 80, 3) := by decide +kernel
theorem dX2_move_12 : decode cX2_move 12 = .ok (.astore 5, 2) := by decide +kernel
theorem dX2_move_14 : decode cX2_move 14 = .ok (.iload_n 3, 1) := by decide +kernel
theorem dX2_move_15 : decode cX2_move 15 = .ok (.iconst 1, 1) := by decide +kernel
theorem dX2_move_16 : decode cX2_move 16 = .ok (.ldc 70, 2) := by decide +kernel
theorem dX2_move_18 : decode cX2_move 18 = .ok (.invokestatic 59, 3) := by decide +kernel
theorem dX2_move_21 : decode cX2_move 21 = .ok (.aload 4, 2) := by decide +kernel
theorem dX2_move_23 : decode cX2_move 23 = .ok (.aload 5, 2) := by decide +kernel
theorem dX2_move_25 : decode cX2_move 25 = .ok (.if_acmp .ne 13, 3) := by decide +kernel
theorem dX2_move_28 : decode cX2_move 28 = .ok (.new 90, 3) := by decide +kernel
theorem dX2_move_31 : decode cX2_move 31 = .ok (.dup, 1) := by decide +kernel
theorem dX2_move_32 : decode cX2_move 32 = .ok (.ldc 92, 2) := by decide +kernel
theorem dX2_move_34 : decode cX2_move 34 = .ok (.invokespecial 94, 3) := by decide +kernel
theorem dX2_move_37 : decode cX2_move 37 = .ok (.athrow, 1) := by decide +kernel
theorem dX2_move_38 : decode cX2_move 38 = .ok (.aload 4, 2) := by decide +kernel
theorem dX2_move_40 : decode cX2_move 40 = .ok (.getfield 95, 3) := by decide +kernel
theorem dX2_move_43 : decode cX2_move 43 = .ok (.iload_n 3, 1) := by decide +kernel
theorem dX2_move_44 : decode cX2_move 44 = .ok (.iadd, 1) := by decide +kernel
theorem dX2_move_45 : decode cX2_move 45 = .ok (.aload 4, 2) := by decide +kernel
theorem dX2_move_47 : decode cX2_move 47 = .ok (.getfield 98, 3) := by decide +kernel
theorem dX2_move_50 : decode cX2_move 50 = .ok (.bipush 10, 2) := by decide +kernel
theorem dX2_move_52 : decode cX2_move 52 = .ok (.idiv, 1) := by decide +kernel
theorem dX2_move_53 : decode cX2_move 53 = .ok (.if_icmp .le 13, 3) := by decide +kernel
theorem dX2_move_56 : decode cX2_move 56 = .ok (.new 63, 3) := by decide +kernel
theorem dX2_move_59 : decode cX2_move 59 = .ok (.dup, 1) := by decide +kernel
theorem dX2_move_60 : decode cX2_move 60 = .ok (.ldc 101, 2) := by decide +kernel
theorem dX2_move_62 : decode cX2_move 62 = .ok (.invokespecial 67, 3) := by decide +kernel
theorem dX2_move_65 : decode cX2_move 65 = .ok (.athrow, 1) := by decide +kernel
theorem dX2_move_66 : decode cX2_move 66 = .ok (.aload 4, 2) := by decide +kernel
theorem dX2_move_68 : decode cX2_move 68 = .ok (.dup, 1) := by decide +kernel
theorem dX2_move_69 : decode cX2_move 69 = .ok (.getfield 95, 3) := by decide +kernel
theorem dX2_move_72 : decode cX2_move 72 = .ok (.iload_n 3, 1) := by decide +kernel
theorem dX2_move_73 : decode cX2_move 73 = .ok (.iadd, 1) := by decide +kernel
theorem dX2_move_74 : decode cX2_move 74 = .ok (.putfield 95, 3) := by decide +kernel
theorem dX2_move_77 : decode cX2_move 77 = .ok (.aload 5, 2) := by decide +kernel
theorem dX2_move_79 : decode cX2_move 79 = .ok (.dup, 1) := by decide +kernel
theorem dX2_move_80 : decode cX2_move 80 = .ok (.getfield 103, 3) := by decide +kernel
theorem dX2_move_83 : decode cX2_move 83 = .ok (.iload_n 3, 1) := by decide +kernel
theorem dX2_move_84 : decode cX2_move 84 = .ok (.iadd, 1) := by decide +kernel
theorem dX2_move_85 : decode cX2_move 85 = .ok (.putfield 103, 3) := by decide +kernel
theorem dX2_move_88 : decode cX2_move 88 = .ok (.aload 4, 2) := by decide +kernel
theorem dX2_move_90 : decode cX2_move 90 = .ok (.invokevirtual 87, 3) := by decide +kernel
theorem dX2_move_93 : decode cX2_move 93 = .ok (.aload 5, 2) := by decide +kernel
theorem dX2_move_95 : decode cX2_move 95 = .ok (.invokevirtual 87, 3) := by decide +kernel
theorem dX2_move_98 : decode cX2_move 98 = .ok (.aload 4, 2) := by decide +kernel
theorem dX2_move_100 : decode cX2_move 100 = .ok (.invokevirtual 106, 3) := by decide +kernel
theorem dX2_move_103 : decode cX2_move 103 = .ok (.ireturn, 1) := by decide +kernel
theorem dX2_lines_0 : decode cX2_lines 0 = .ok (.aload_n 0, 1) := by decide +kernel
theorem dX2_lines_1 : decode cX2_lines 1 = .ok (.getfield 30, 3) := by decide +kernel
theorem dX2_lines_4 : decode cX2_lines 4 = .ok (.ireturn, 1) := by decide +kernel
set_option maxRecDepth 20000 in
theorem ggX2_room_X2_findLine : GoodIn wsX2_room wsX2_findLine := goodIn_ca (goodIn_r _ [5, 6, 7, 8, 17, 18, 19, 20, 21, 22, 23, 24, 25, 26, 27, 28, 29] (by decide +kernel) (by decide +kernel)) (goodIn_sub (fun _ h => List.mem_cons_of_mem _ (List.mem_append_right _ h)) (by decide +kernel))
set_option maxRecDepth 20000 in
theorem gX2_room_X2_findLine : GoodIn wsX2_room (wsV RX2 80 RX2 yX2_findLine wsX2_findLine) := goodIn_app (goodIn_of _ (by decide +kernel)) ggX2_room_X2_findLine
set_option maxRecDepth 20000 in
theorem ggX2_room_X0_roomNow : GoodIn wsX2_room wsX0_roomNow := goodIn_r _ [13, 14, 15, 16, 30, 31, 32, 33, 34, 35, 36] (by decide +kernel) (by decide +kernel)
set_option maxRecDepth 20000 in
theorem gX2_room_X0_roomNow : GoodIn wsX2_room (wsV RX2 106 RX0 yX0_roomNow wsX0_roomNow) := goodIn_app (goodIn_of _ (by decide +kernel)) ggX2_room_X0_roomNow
theorem dX2_room_0 : decode cX2_room 0 = .ok (.aload_n 0, 1) := by decide +kernel
theorem dX2_room_1 : decode cX2_room 1 = .ok (.iload_n 1, 1) := by decide +kernel
theorem dX2_room_2 : decode cX2_room 2 = .ok (.invokevirtual 80, 3) := by decide +kernel
theorem dX2_room_5 : decode cX2_room 5 = .ok (.invokevirtual 106, 3) := by decide +kernel
theorem dX2_room_8 : decode cX2_room 8 = .ok (.ireturn, 1) := by decide +kernel
set_option maxRecDepth 20000 in
theorem ggX2_left_X2_findLine : GoodIn wsX2_left wsX2_findLine := goodIn_ca (goodIn_r _ [5, 6, 7, 8, 25, 26, 27, 28, 29, 30, 31, 32, 33, 34, 35, 36, 37] (by decide +kernel) (by decide +kernel)) (goodIn_sub (fun _ h => List.mem_cons_of_mem _ (List.mem_append_right _ h)) (by decide +kernel))
set_option maxRecDepth 20000 in
theorem gX2_left_X2_findLine : GoodIn wsX2_left (wsV RX2 80 RX2 yX2_findLine wsX2_findLine) := goodIn_app (goodIn_of _ (by decide +kernel)) ggX2_left_X2_findLine
set_option maxRecDepth 20000 in
theorem ggX2_left_X0_roomNow : GoodIn wsX2_left wsX0_roomNow := goodIn_r _ [13, 14, 15, 16, 38, 39, 40, 41, 42, 43, 44] (by decide +kernel) (by decide +kernel)
set_option maxRecDepth 20000 in
theorem gX2_left_X0_roomNow : GoodIn wsX2_left (wsV RX2 106 RX0 yX0_roomNow wsX0_roomNow) := goodIn_app (goodIn_of _ (by decide +kernel)) ggX2_left_X0_roomNow
set_option maxRecDepth 20000 in
theorem ggX2_left_X0_eligibleUpTo : GoodIn wsX2_left wsX0_eligibleUpTo := goodIn_r _ [20, 21, 22, 23, 24, 38, 39, 40, 41, 42, 43, 44, 45, 46, 47, 48, 49, 50] (by decide +kernel) (by decide +kernel)
set_option maxRecDepth 20000 in
theorem gX2_left_X0_eligibleUpTo : GoodIn wsX2_left (wsV RX2 110 RX0 yX0_eligibleUpTo wsX0_eligibleUpTo) := goodIn_app (goodIn_of _ (by decide +kernel)) ggX2_left_X0_eligibleUpTo
theorem dX2_left_0 : decode cX2_left 0 = .ok (.aload_n 0, 1) := by decide +kernel
theorem dX2_left_1 : decode cX2_left 1 = .ok (.iload_n 1, 1) := by decide +kernel
theorem dX2_left_2 : decode cX2_left 2 = .ok (.invokevirtual 80, 3) := by decide +kernel
theorem dX2_left_5 : decode cX2_left 5 = .ok (.astore_n 2, 1) := by decide +kernel
theorem dX2_left_6 : decode cX2_left 6 = .ok (.aload_n 2, 1) := by decide +kernel
theorem dX2_left_7 : decode cX2_left 7 = .ok (.invokevirtual 106, 3) := by decide +kernel
theorem dX2_left_10 : decode cX2_left 10 = .ok (.aload_n 2, 1) := by decide +kernel
theorem dX2_left_11 : decode cX2_left 11 = .ok (.sipush 9999, 3) := by decide +kernel
theorem dX2_left_14 : decode cX2_left 14 = .ok (.invokevirtual 110, 3) := by decide +kernel
theorem dX2_left_17 : decode cX2_left 17 = .ok (.isub, 1) := by decide +kernel
theorem dX2_left_18 : decode cX2_left 18 = .ok (.ireturn, 1) := by decide +kernel
set_option maxRecDepth 20000 in
theorem ggX2_spend_X2_findLine : GoodIn wsX2_spend wsX2_findLine := goodIn_ca (goodIn_r _ [13, 14, 15, 16, 69, 70, 71, 72, 73, 74, 75, 76, 77, 78, 79, 80, 81] (by decide +kernel) (by decide +kernel)) (goodIn_sub (fun _ h => List.mem_cons_of_mem _ (List.mem_append_left _ (List.mem_append_right _ h))) (by decide +kernel))
set_option maxRecDepth 20000 in
theorem gX2_spend_X2_findLine : GoodIn wsX2_spend (wsV RX2 80 RX2 yX2_findLine wsX2_findLine) := goodIn_app (goodIn_of _ (by decide +kernel)) ggX2_spend_X2_findLine
set_option maxRecDepth 20000 in
theorem ggX2_spend_X2_checkDay : GoodIn wsX2_spend wsX2_checkDay := goodIn_ca (goodIn_r _ [19, 20, 21, 12, 22, 23, 24] (by decide +kernel) (by decide +kernel)) (goodIn_sub (fun _ h => List.mem_cons_of_mem _ (List.mem_append_right _ h)) (by decide +kernel))
set_option maxRecDepth 20000 in
theorem gX2_spend_X2_checkDay : GoodIn wsX2_spend (va_wsS RX2 71 yX2_checkDay wsX2_checkDay) := goodIn_app (goodIn_of _ (by decide +kernel)) ggX2_spend_X2_checkDay
set_option maxRecDepth 20000 in
theorem ggX2_spend_X2_checkRange : GoodIn wsX2_spend wsX2_checkRange := goodIn_ca (goodIn_r _ [22, 23, 24] (by decide +kernel) (by decide +kernel)) (goodIn_sub (fun _ h => List.mem_cons_of_mem _ (List.mem_append_right _ h)) (by decide +kernel))
set_option maxRecDepth 20000 in
theorem gX2_spend_X2_checkRange : GoodIn wsX2_spend (va_wsS RX2 59 yX2_checkRange wsX2_checkRange) := goodIn_app (goodIn_of _ (by decide +kernel)) ggX2_spend_X2_checkRange
set_option maxRecDepth 20000 in
theorem ggX2_spend_X1_init : GoodIn wsX2_spend wsX1_init := goodIn_r _ [27, 28, 29, 30, 31, 32, 33, 34, 35, 36, 82, 83, 84, 85, 86, 87] (by decide +kernel) (by decide +kernel)
set_option maxRecDepth 20000 in
theorem gX2_spend_X1_init : GoodIn wsX2_spend (wsX1_init) := ggX2_spend_X1_init
set_option maxRecDepth 20000 in
theorem ggX2_spend_X0_putInOrder : GoodIn wsX2_spend wsX0_putInOrder := goodIn_r _ [41, 42, 43, 44, 88, 89, 90, 91, 92, 93, 94, 82, 83, 84, 85, 86, 87] (by decide +kernel) (by decide +kernel)
set_option maxRecDepth 20000 in
theorem gX2_spend_X0_putInOrder : GoodIn wsX2_spend (wsV RX2 119 RX0 yX0_putInOrder wsX0_putInOrder) := goodIn_app (goodIn_of _ (by decide +kernel)) ggX2_spend_X0_putInOrder
set_option maxRecDepth 20000 in
theorem ggX2_spend_X0_reckon : GoodIn wsX2_spend wsX0_reckon := goodIn_r _ [48, 42, 49, 50, 51, 52, 53, 54, 44, 55, 56, 57, 40, 58, 59, 60, 61, 62, 63, 64, 65, 66, 43, 67, 68, 88, 89, 90, 91, 92, 93, 94, 82, 83, 84, 85, 86, 87] (by decide +kernel) (by decide +kernel)
set_option maxRecDepth 20000 in
theorem gX2_spend_X0_reckon : GoodIn wsX2_spend (wsV RX2 87 RX0 yX0_reckon wsX0_reckon) := goodIn_app (goodIn_of _ (by decide +kernel)) ggX2_spend_X0_reckon
theorem dX2_spend_0 : decode cX2_spend 0 = .ok (.aload_n 0, 1) := by decide +kernel
theorem dX2_spend_1 : decode cX2_spend 1 = .ok (.iload_n 1, 1) := by decide +kernel
theorem dX2_spend_2 : decode cX2_spend 2 = .ok (.invokevirtual 80, 3) := by decide +kernel
theorem dX2_spend_5 : decode cX2_spend 5 = .ok (.astore 4, 2) := by decide +kernel
theorem dX2_spend_7 : decode cX2_spend 7 = .ok (.iload_n 2, 1) := by decide +kernel
theorem dX2_spend_8 : decode cX2_spend 8 = .ok (.invokestatic 71, 3) := by decide +kernel
theorem dX2_spend_11 : decode cX2_spend 11 = .ok (.iload_n 3, 1) := by decide +kernel
theorem dX2_spend_12 : decode cX2_spend 12 = .ok (.iconst 1, 1) := by decide +kernel
theorem dX2_spend_13 : decode cX2_spend 13 = .ok (.ldc 70, 2) := by decide +kernel
theorem dX2_spend_15 : decode cX2_spend 15 = .ok (.invokestatic 59, 3) := by decide +kernel
theorem dX2_spend_18 : decode cX2_spend 18 = .ok (.aload_n 0, 1) := by decide +kernel
theorem dX2_spend_19 : decode cX2_spend 19 = .ok (.getfield 39, 3) := by decide +kernel
theorem dX2_spend_22 : decode cX2_spend 22 = .ok (.istore 5, 2) := by decide +kernel
theorem dX2_spend_24 : decode cX2_spend 24 = .ok (.iload 5, 2) := by decide +kernel
theorem dX2_spend_26 : decode cX2_spend 26 = .ok (.ifCond .lt 13, 3) := by decide +kernel
theorem dX2_spend_29 : decode cX2_spend 29 = .ok (.iload 5, 2) := by decide +kernel
theorem dX2_spend_31 : decode cX2_spend 31 = .ok (.aload_n 0, 1) := by decide +kernel
theorem dX2_spend_32 : decode cX2_spend 32 = .ok (.getfield 35, 3) := by decide +kernel
theorem dX2_spend_35 : decode cX2_spend 35 = .ok (.arraylength, 1) := by decide +kernel
theorem dX2_spend_36 : decode cX2_spend 36 = .ok (.if_icmp .lt 13, 3) := by decide +kernel
theorem dX2_spend_39 : decode cX2_spend 39 = .ok (.new 63, 3) := by decide +kernel
theorem dX2_spend_42 : decode cX2_spend 42 = .ok (.dup, 1) := by decide +kernel
theorem dX2_spend_43 : decode cX2_spend 43 = .ok (.ldc 114, 2) := by decide +kernel
theorem dX2_spend_45 : decode cX2_spend 45 = .ok (.invokespecial 67, 3) := by decide +kernel
theorem dX2_spend_48 : decode cX2_spend 48 = .ok (.athrow, 1) := by decide +kernel
theorem dX2_spend_49 : decode cX2_spend 49 = .ok (.new 33, 3) := by decide +kernel
theorem dX2_spend_52 : decode cX2_spend 52 = .ok (.dup, 1) := by decide +kernel
theorem dX2_spend_53 : decode cX2_spend 53 = .ok (.aload 4, 2) := by decide +kernel
theorem dX2_spend_55 : decode cX2_spend 55 = .ok (.iload_n 2, 1) := by decide +kernel
theorem dX2_spend_56 : decode cX2_spend 56 = .ok (.iload_n 3, 1) := by decide +kernel
theorem dX2_spend_57 : decode cX2_spend 57 = .ok (.invokespecial 116, 3) := by decide +kernel
theorem dX2_spend_60 : decode cX2_spend 60 = .ok (.astore 6, 2) := by decide +kernel
theorem dX2_spend_62 : decode cX2_spend 62 = .ok (.aload_n 0, 1) := by decide +kernel
theorem dX2_spend_63 : decode cX2_spend 63 = .ok (.getfield 35, 3) := by decide +kernel
theorem dX2_spend_66 : decode cX2_spend 66 = .ok (.iload 5, 2) := by decide +kernel
theorem dX2_spend_68 : decode cX2_spend 68 = .ok (.aload 6, 2) := by decide +kernel
theorem dX2_spend_70 : decode cX2_spend 70 = .ok (.aastore, 1) := by decide +kernel
theorem dX2_spend_71 : decode cX2_spend 71 = .ok (.aload_n 0, 1) := by decide +kernel
theorem dX2_spend_72 : decode cX2_spend 72 = .ok (.iload 5, 2) := by decide +kernel
theorem dX2_spend_74 : decode cX2_spend 74 = .ok (.iconst 1, 1) := by decide +kernel
theorem dX2_spend_75 : decode cX2_spend 75 = .ok (.iadd, 1) := by decide +kernel
theorem dX2_spend_76 : decode cX2_spend 76 = .ok (.putfield 39, 3) := by decide +kernel
theorem dX2_spend_79 : decode cX2_spend 79 = .ok (.aload 4, 2) := by decide +kernel
theorem dX2_spend_81 : decode cX2_spend 81 = .ok (.aload 6, 2) := by decide +kernel
theorem dX2_spend_83 : decode cX2_spend 83 = .ok (.invokevirtual 119, 3) := by decide +kernel
theorem dX2_spend_86 : decode cX2_spend 86 = .ok (.aload 4, 2) := by decide +kernel
theorem dX2_spend_88 : decode cX2_spend 88 = .ok (.invokevirtual 87, 3) := by decide +kernel
theorem dX2_spend_91 : decode cX2_spend 91 = .ok (.iload 5, 2) := by decide +kernel
theorem dX2_spend_93 : decode cX2_spend 93 = .ok (.ireturn, 1) := by decide +kernel
set_option maxRecDepth 20000 in
theorem ggX2_refuse_X2_findVoucher : GoodIn wsX2_refuse wsX2_findVoucher := goodIn_ca (goodIn_r _ [8, 9, 10, 11, 54, 55, 56, 57, 58, 59, 60, 61, 62, 63, 64, 65, 66] (by decide +kernel) (by decide +kernel)) (goodIn_sub (fun _ h => List.mem_cons_of_mem _ (List.mem_append_right _ h)) (by decide +kernel))
set_option maxRecDepth 20000 in
theorem gX2_refuse_X2_findVoucher : GoodIn wsX2_refuse (wsV RX2 123 RX2 yX2_findVoucher wsX2_findVoucher) := goodIn_app (goodIn_of _ (by decide +kernel)) ggX2_refuse_X2_findVoucher
set_option maxRecDepth 20000 in
theorem ggX2_refuse_X2_eligibleMoreWith : GoodIn wsX2_refuse wsX2_eligibleMoreWith := goodIn_r _ [14, 15, 3, 16, 17, 18, 19, 20, 21, 22, 23, 24, 25, 26, 27, 28, 29, 30, 31, 32, 33, 34, 35, 36, 37, 38, 39, 40, 41, 42, 43, 44, 45, 46, 47, 48, 49, 50, 51, 52, 53, 67, 68, 69, 70, 71, 72, 73] (by decide +kernel) (by decide +kernel)
set_option maxRecDepth 20000 in
theorem gX2_refuse_X2_eligibleMoreWith : GoodIn wsX2_refuse (va_wsS RX2 133 yX2_eligibleMoreWith wsX2_eligibleMoreWith) := goodIn_app (goodIn_of _ (by decide +kernel)) ggX2_refuse_X2_eligibleMoreWith
theorem dX2_refuse_0 : decode cX2_refuse 0 = .ok (.aload_n 0, 1) := by decide +kernel
theorem dX2_refuse_1 : decode cX2_refuse 1 = .ok (.iload_n 1, 1) := by decide +kernel
theorem dX2_refuse_2 : decode cX2_refuse 2 = .ok (.invokevirtual 123, 3) := by decide +kernel
theorem dX2_refuse_5 : decode cX2_refuse 5 = .ok (.astore_n 2, 1) := by decide +kernel
theorem dX2_refuse_6 : decode cX2_refuse 6 = .ok (.aload_n 2, 1) := by decide +kernel
theorem dX2_refuse_7 : decode cX2_refuse 7 = .ok (.getfield 127, 3) := by decide +kernel
theorem dX2_refuse_10 : decode cX2_refuse 10 = .ok (.ifCond .eq 13, 3) := by decide +kernel
theorem dX2_refuse_13 : decode cX2_refuse 13 = .ok (.new 63, 3) := by decide +kernel
theorem dX2_refuse_16 : decode cX2_refuse 16 = .ok (.dup, 1) := by decide +kernel
theorem dX2_refuse_17 : decode cX2_refuse 17 = .ok (.ldc 131, 2) := by decide +kernel
theorem dX2_refuse_19 : decode cX2_refuse 19 = .ok (.invokespecial 67, 3) := by decide +kernel
theorem dX2_refuse_22 : decode cX2_refuse 22 = .ok (.athrow, 1) := by decide +kernel
theorem dX2_refuse_23 : decode cX2_refuse 23 = .ok (.aload_n 2, 1) := by decide +kernel
theorem dX2_refuse_24 : decode cX2_refuse 24 = .ok (.iconst 1, 1) := by decide +kernel
theorem dX2_refuse_25 : decode cX2_refuse 25 = .ok (.invokestatic 133, 3) := by decide +kernel
theorem dX2_refuse_28 : decode cX2_refuse 28 = .ok (.ineg, 1) := by decide +kernel
theorem dX2_refuse_29 : decode cX2_refuse 29 = .ok (.ireturn, 1) := by decide +kernel
set_option maxRecDepth 20000 in
theorem ggX2_admit_X2_findVoucher : GoodIn wsX2_admit wsX2_findVoucher := goodIn_ca (goodIn_r _ [8, 9, 10, 11, 54, 55, 56, 57, 58, 59, 60, 61, 62, 63, 64, 65, 66] (by decide +kernel) (by decide +kernel)) (goodIn_sub (fun _ h => List.mem_cons_of_mem _ (List.mem_append_right _ h)) (by decide +kernel))
set_option maxRecDepth 20000 in
theorem gX2_admit_X2_findVoucher : GoodIn wsX2_admit (wsV RX2 123 RX2 yX2_findVoucher wsX2_findVoucher) := goodIn_app (goodIn_of _ (by decide +kernel)) ggX2_admit_X2_findVoucher
set_option maxRecDepth 20000 in
theorem ggX2_admit_X2_eligibleMoreWith : GoodIn wsX2_admit wsX2_eligibleMoreWith := goodIn_r _ [14, 15, 3, 16, 17, 18, 19, 20, 21, 22, 23, 24, 25, 26, 27, 28, 29, 30, 31, 32, 33, 34, 35, 36, 37, 38, 39, 40, 41, 42, 43, 44, 45, 46, 47, 48, 49, 50, 51, 52, 53, 67, 68, 69, 70, 71, 72, 73] (by decide +kernel) (by decide +kernel)
set_option maxRecDepth 20000 in
theorem gX2_admit_X2_eligibleMoreWith : GoodIn wsX2_admit (va_wsS RX2 133 yX2_eligibleMoreWith wsX2_eligibleMoreWith) := goodIn_app (goodIn_of _ (by decide +kernel)) ggX2_admit_X2_eligibleMoreWith
theorem dX2_admit_0 : decode cX2_admit 0 = .ok (.aload_n 0, 1) := by decide +kernel
theorem dX2_admit_1 : decode cX2_admit 1 = .ok (.iload_n 1, 1) := by decide +kernel
theorem dX2_admit_2 : decode cX2_admit 2 = .ok (.invokevirtual 123, 3) := by decide +kernel
theorem dX2_admit_5 : decode cX2_admit 5 = .ok (.astore_n 2, 1) := by decide +kernel
theorem dX2_admit_6 : decode cX2_admit 6 = .ok (.aload_n 2, 1) := by decide +kernel
theorem dX2_admit_7 : decode cX2_admit 7 = .ok (.getfield 127, 3) := by decide +kernel
theorem dX2_admit_10 : decode cX2_admit 10 = .ok (.ifCond .ne 13, 3) := by decide +kernel
theorem dX2_admit_13 : decode cX2_admit 13 = .ok (.new 63, 3) := by decide +kernel
theorem dX2_admit_16 : decode cX2_admit 16 = .ok (.dup, 1) := by decide +kernel
theorem dX2_admit_17 : decode cX2_admit 17 = .ok (.ldc 137, 2) := by decide +kernel
theorem dX2_admit_19 : decode cX2_admit 19 = .ok (.invokespecial 67, 3) := by decide +kernel
theorem dX2_admit_22 : decode cX2_admit 22 = .ok (.athrow, 1) := by decide +kernel
theorem dX2_admit_23 : decode cX2_admit 23 = .ok (.aload_n 2, 1) := by decide +kernel
theorem dX2_admit_24 : decode cX2_admit 24 = .ok (.iconst 0, 1) := by decide +kernel
theorem dX2_admit_25 : decode cX2_admit 25 = .ok (.invokestatic 133, 3) := by decide +kernel
theorem dX2_admit_28 : decode cX2_admit 28 = .ok (.ireturn, 1) := by decide +kernel
set_option maxRecDepth 20000 in
theorem ggX2_match_X2_checkRange : GoodIn wsX2_match wsX2_checkRange := goodIn_ca (goodIn_r _ [9, 10, 11] (by decide +kernel) (by decide +kernel)) (goodIn_sub (fun _ h => List.mem_cons_of_mem _ (List.mem_append_right _ h)) (by decide +kernel))
set_option maxRecDepth 20000 in
theorem gX2_match_X2_checkRange : GoodIn wsX2_match (va_wsS RX2 59 yX2_checkRange wsX2_checkRange) := goodIn_app (goodIn_of _ (by decide +kernel)) ggX2_match_X2_checkRange
theorem dX2_match_0 : decode cX2_match 0 = .ok (.iload_n 1, 1) := by decide +kernel
theorem dX2_match_1 : decode cX2_match 1 = .ok (.iconst 1, 1) := by decide +kernel
theorem dX2_match_2 : decode cX2_match 2 = .ok (.ldc 70, 2) := by decide +kernel
theorem dX2_match_4 : decode cX2_match 4 = .ok (.invokestatic 59, 3) := by decide +kernel
theorem dX2_match_7 : decode cX2_match 7 = .ok (.aload_n 0, 1) := by decide +kernel
theorem dX2_match_8 : decode cX2_match 8 = .ok (.getfield 42, 3) := by decide +kernel
theorem dX2_match_11 : decode cX2_match 11 = .ok (.iload_n 1, 1) := by decide +kernel
theorem dX2_match_12 : decode cX2_match 12 = .ok (.iadd, 1) := by decide +kernel
theorem dX2_match_13 : decode cX2_match 13 = .ok (.ldc 58, 2) := by decide +kernel
theorem dX2_match_15 : decode cX2_match 15 = .ok (.if_icmp .le 13, 3) := by decide +kernel
theorem dX2_match_18 : decode cX2_match 18 = .ok (.new 63, 3) := by decide +kernel
theorem dX2_match_21 : decode cX2_match 21 = .ok (.dup, 1) := by decide +kernel
theorem dX2_match_22 : decode cX2_match 22 = .ok (.ldc 139, 2) := by decide +kernel
theorem dX2_match_24 : decode cX2_match 24 = .ok (.invokespecial 67, 3) := by decide +kernel
theorem dX2_match_27 : decode cX2_match 27 = .ok (.athrow, 1) := by decide +kernel
theorem dX2_match_28 : decode cX2_match 28 = .ok (.aload_n 0, 1) := by decide +kernel
theorem dX2_match_29 : decode cX2_match 29 = .ok (.dup, 1) := by decide +kernel
theorem dX2_match_30 : decode cX2_match 30 = .ok (.getfield 42, 3) := by decide +kernel
theorem dX2_match_33 : decode cX2_match 33 = .ok (.iload_n 1, 1) := by decide +kernel
theorem dX2_match_34 : decode cX2_match 34 = .ok (.iadd, 1) := by decide +kernel
theorem dX2_match_35 : decode cX2_match 35 = .ok (.putfield 42, 3) := by decide +kernel
theorem dX2_match_38 : decode cX2_match 38 = .ok (.aload_n 0, 1) := by decide +kernel
theorem dX2_match_39 : decode cX2_match 39 = .ok (.getfield 42, 3) := by decide +kernel
theorem dX2_match_42 : decode cX2_match 42 = .ok (.ireturn, 1) := by decide +kernel
theorem dX2_vouchers_0 : decode cX2_vouchers 0 = .ok (.aload_n 0, 1) := by decide +kernel
theorem dX2_vouchers_1 : decode cX2_vouchers 1 = .ok (.getfield 39, 3) := by decide +kernel
theorem dX2_vouchers_4 : decode cX2_vouchers 4 = .ok (.ireturn, 1) := by decide +kernel
set_option maxRecDepth 20000 in
theorem ggX2_fits_X2_findVoucher : GoodIn wsX2_fits wsX2_findVoucher := goodIn_ca (goodIn_r _ [6, 7, 8, 9, 25, 26, 27, 28, 29, 30, 31, 32, 33, 34, 35, 36, 37] (by decide +kernel) (by decide +kernel)) (goodIn_sub (fun _ h => List.mem_cons_of_mem _ (List.mem_append_right _ h)) (by decide +kernel))
set_option maxRecDepth 20000 in
theorem gX2_fits_X2_findVoucher : GoodIn wsX2_fits (wsV RX2 123 RX2 yX2_findVoucher wsX2_findVoucher) := goodIn_app (goodIn_of _ (by decide +kernel)) ggX2_fits_X2_findVoucher
set_option maxRecDepth 20000 in
theorem ggX2_fits_X0_accepts : GoodIn wsX2_fits wsX0_accepts := goodIn_r _ [14, 15, 16, 17, 18, 19, 20, 21, 22, 23, 24, 38, 39, 40, 41, 42, 43, 44] (by decide +kernel) (by decide +kernel)
set_option maxRecDepth 20000 in
theorem gX2_fits_X0_accepts : GoodIn wsX2_fits (wsV RX2 145 RX0 yX0_accepts wsX0_accepts) := goodIn_app (goodIn_of _ (by decide +kernel)) ggX2_fits_X0_accepts
theorem dX2_fits_0 : decode cX2_fits 0 = .ok (.aload_n 0, 1) := by decide +kernel
theorem dX2_fits_1 : decode cX2_fits 1 = .ok (.iload_n 1, 1) := by decide +kernel
theorem dX2_fits_2 : decode cX2_fits 2 = .ok (.invokevirtual 123, 3) := by decide +kernel
theorem dX2_fits_5 : decode cX2_fits 5 = .ok (.astore_n 2, 1) := by decide +kernel
theorem dX2_fits_6 : decode cX2_fits 6 = .ok (.aload_n 2, 1) := by decide +kernel
theorem dX2_fits_7 : decode cX2_fits 7 = .ok (.getfield 141, 3) := by decide +kernel
theorem dX2_fits_10 : decode cX2_fits 10 = .ok (.aload_n 2, 1) := by decide +kernel
theorem dX2_fits_11 : decode cX2_fits 11 = .ok (.invokevirtual 145, 3) := by decide +kernel
theorem dX2_fits_14 : decode cX2_fits 14 = .ok (.ireturn, 1) := by decide +kernel
set_option maxRecDepth 20000 in
theorem ggX2_eligible_X2_findVoucher : GoodIn wsX2_eligible wsX2_findVoucher := goodIn_ca (goodIn_r _ [6, 7, 8, 9, 16, 17, 18, 19, 20, 21, 22, 23, 24, 25, 26, 27, 28] (by decide +kernel) (by decide +kernel)) (goodIn_sub (fun _ h => List.mem_cons_of_mem _ (List.mem_append_right _ h)) (by decide +kernel))
set_option maxRecDepth 20000 in
theorem gX2_eligible_X2_findVoucher : GoodIn wsX2_eligible (wsV RX2 123 RX2 yX2_findVoucher wsX2_findVoucher) := goodIn_app (goodIn_of _ (by decide +kernel)) ggX2_eligible_X2_findVoucher
theorem dX2_eligible_0 : decode cX2_eligible 0 = .ok (.aload_n 0, 1) := by decide +kernel
theorem dX2_eligible_1 : decode cX2_eligible 1 = .ok (.iload_n 1, 1) := by decide +kernel
theorem dX2_eligible_2 : decode cX2_eligible 2 = .ok (.invokevirtual 123, 3) := by decide +kernel
theorem dX2_eligible_5 : decode cX2_eligible 5 = .ok (.getfield 149, 3) := by decide +kernel
theorem dX2_eligible_8 : decode cX2_eligible 8 = .ok (.ireturn, 1) := by decide +kernel
set_option maxRecDepth 20000 in
theorem ggX2_costs_X2_checkDay : GoodIn wsX2_costs wsX2_checkDay := goodIn_ca (goodIn_r _ [4, 5, 6, 3, 7, 8, 9] (by decide +kernel) (by decide +kernel)) (goodIn_sub (fun _ h => List.mem_cons_of_mem _ (List.mem_append_right _ h)) (by decide +kernel))
set_option maxRecDepth 20000 in
theorem gX2_costs_X2_checkDay : GoodIn wsX2_costs (va_wsS RX2 71 yX2_checkDay wsX2_checkDay) := goodIn_app (goodIn_of _ (by decide +kernel)) ggX2_costs_X2_checkDay
set_option maxRecDepth 20000 in
theorem ggX2_costs_X2_costsUpTo : GoodIn wsX2_costs wsX2_costsUpTo := goodIn_r _ [13, 14, 15, 16, 3, 17, 18, 19, 20, 21, 22, 23, 24, 25, 26, 27, 28, 29, 30, 31, 32, 33, 34, 35, 36, 37, 38, 39, 40, 41, 42, 43, 44, 45, 46, 47, 48, 49, 50, 51, 52, 53, 54] (by decide +kernel) (by decide +kernel)
set_option maxRecDepth 20000 in
theorem gX2_costs_X2_costsUpTo : GoodIn wsX2_costs (wsV RX2 152 RX2 yX2_costsUpTo wsX2_costsUpTo) := goodIn_app (goodIn_of _ (by decide +kernel)) ggX2_costs_X2_costsUpTo
theorem dX2_costs_0 : decode cX2_costs 0 = .ok (.iload_n 1, 1) := by decide +kernel
theorem dX2_costs_1 : decode cX2_costs 1 = .ok (.invokestatic 71, 3) := by decide +kernel
theorem dX2_costs_4 : decode cX2_costs 4 = .ok (.aload_n 0, 1) := by decide +kernel
theorem dX2_costs_5 : decode cX2_costs 5 = .ok (.iload_n 1, 1) := by decide +kernel
theorem dX2_costs_6 : decode cX2_costs 6 = .ok (.invokevirtual 152, 3) := by decide +kernel
theorem dX2_costs_9 : decode cX2_costs 9 = .ok (.ireturn, 1) := by decide +kernel
set_option maxRecDepth 20000 in
theorem ggX2_overhead_X2_checkDay : GoodIn wsX2_overhead wsX2_checkDay := goodIn_ca (goodIn_r _ [4, 5, 6, 3, 7, 8, 9] (by decide +kernel) (by decide +kernel)) (goodIn_sub (fun _ h => List.mem_cons_of_mem _ (List.mem_append_right _ h)) (by decide +kernel))
set_option maxRecDepth 20000 in
theorem gX2_overhead_X2_checkDay : GoodIn wsX2_overhead (va_wsS RX2 71 yX2_checkDay wsX2_checkDay) := goodIn_app (goodIn_of _ (by decide +kernel)) ggX2_overhead_X2_checkDay
set_option maxRecDepth 20000 in
theorem ggX2_overhead_X2_overheadUpTo : GoodIn wsX2_overhead wsX2_overheadUpTo := goodIn_r _ [13, 14, 15, 16, 17, 18, 19, 20, 21, 22, 23, 3, 24, 25, 26, 27, 28, 29, 30, 31, 32, 33, 34, 35, 36, 37, 38, 39, 40, 41, 42, 43, 44, 45, 46, 47, 48, 49, 50, 51, 52, 53, 54, 55, 56, 57, 58, 59, 60, 61] (by decide +kernel) (by decide +kernel)
set_option maxRecDepth 20000 in
theorem gX2_overhead_X2_overheadUpTo : GoodIn wsX2_overhead (wsV RX2 155 RX2 yX2_overheadUpTo wsX2_overheadUpTo) := goodIn_app (goodIn_of _ (by decide +kernel)) ggX2_overhead_X2_overheadUpTo
theorem dX2_overhead_0 : decode cX2_overhead 0 = .ok (.iload_n 1, 1) := by decide +kernel
theorem dX2_overhead_1 : decode cX2_overhead 1 = .ok (.invokestatic 71, 3) := by decide +kernel
theorem dX2_overhead_4 : decode cX2_overhead 4 = .ok (.aload_n 0, 1) := by decide +kernel
theorem dX2_overhead_5 : decode cX2_overhead 5 = .ok (.iload_n 1, 1) := by decide +kernel
theorem dX2_overhead_6 : decode cX2_overhead 6 = .ok (.invokevirtual 155, 3) := by decide +kernel
theorem dX2_overhead_9 : decode cX2_overhead 9 = .ok (.ireturn, 1) := by decide +kernel
set_option maxRecDepth 20000 in
theorem ggX2_earned_X2_checkDay : GoodIn wsX2_earned wsX2_checkDay := goodIn_ca (goodIn_r _ [4, 5, 6, 3, 7, 8, 9] (by decide +kernel) (by decide +kernel)) (goodIn_sub (fun _ h => List.mem_cons_of_mem _ (List.mem_append_right _ h)) (by decide +kernel))
set_option maxRecDepth 20000 in
theorem gX2_earned_X2_checkDay : GoodIn wsX2_earned (va_wsS RX2 71 yX2_checkDay wsX2_checkDay) := goodIn_app (goodIn_of _ (by decide +kernel)) ggX2_earned_X2_checkDay
set_option maxRecDepth 20000 in
theorem ggX2_earned_X2_earnedUpTo : GoodIn wsX2_earned wsX2_earnedUpTo := goodIn_r _ [13, 14, 15, 16, 17, 18, 19, 20, 21, 22, 3, 23, 24, 25, 26, 27, 28, 29, 30, 31, 32, 33, 34, 35, 36, 37, 38, 39, 40, 41, 42, 43, 44, 45, 46, 47, 48, 49, 50, 51, 52, 53, 54, 55, 56, 57, 58, 59, 60, 61, 62, 63, 64, 65, 66, 67, 68, 69, 70, 71, 72, 73, 74, 75, 76] (by decide +kernel) (by decide +kernel)
set_option maxRecDepth 20000 in
theorem gX2_earned_X2_earnedUpTo : GoodIn wsX2_earned (wsV RX2 158 RX2 yX2_earnedUpTo wsX2_earnedUpTo) := goodIn_app (goodIn_of _ (by decide +kernel)) ggX2_earned_X2_earnedUpTo
theorem dX2_earned_0 : decode cX2_earned 0 = .ok (.iload_n 1, 1) := by decide +kernel
theorem dX2_earned_1 : decode cX2_earned 1 = .ok (.invokestatic 71, 3) := by decide +kernel
theorem dX2_earned_4 : decode cX2_earned 4 = .ok (.aload_n 0, 1) := by decide +kernel
theorem dX2_earned_5 : decode cX2_earned 5 = .ok (.iload_n 1, 1) := by decide +kernel
theorem dX2_earned_6 : decode cX2_earned 6 = .ok (.invokevirtual 158, 3) := by decide +kernel
theorem dX2_earned_9 : decode cX2_earned 9 = .ok (.ireturn, 1) := by decide +kernel
set_option maxRecDepth 20000 in
theorem ggX2_missingMatch_X2_checkDay : GoodIn wsX2_missingMatch wsX2_checkDay := goodIn_ca (goodIn_r _ [9, 10, 11, 8, 12, 13, 14] (by decide +kernel) (by decide +kernel)) (goodIn_sub (fun _ h => List.mem_cons_of_mem _ (List.mem_append_right _ h)) (by decide +kernel))
set_option maxRecDepth 20000 in
theorem gX2_missingMatch_X2_checkDay : GoodIn wsX2_missingMatch (va_wsS RX2 71 yX2_checkDay wsX2_checkDay) := goodIn_app (goodIn_of _ (by decide +kernel)) ggX2_missingMatch_X2_checkDay
set_option maxRecDepth 20000 in
theorem ggX2_missingMatch_X2_earnedButForMatch : GoodIn wsX2_missingMatch wsX2_earnedButForMatch := goodIn_r _ [18, 19, 20, 21, 22, 23, 4, 24, 25, 26, 27, 8, 28, 29, 30, 31, 32, 33, 34, 35, 36, 37, 38, 39, 40, 41, 42, 43, 44, 45, 46, 47, 48, 49, 54, 55, 56, 57, 58, 59, 60, 61, 62, 63, 64, 65, 66, 67, 68, 69, 70, 71, 72, 73, 74, 75, 76, 77, 78, 79] (by decide +kernel) (by decide +kernel)
set_option maxRecDepth 20000 in
theorem gX2_missingMatch_X2_earnedButForMatch : GoodIn wsX2_missingMatch (wsV RX2 161 RX2 yX2_earnedButForMatch wsX2_earnedButForMatch) := goodIn_app (goodIn_of _ (by decide +kernel)) ggX2_missingMatch_X2_earnedButForMatch
set_option maxRecDepth 20000 in
theorem ggX2_missingMatch_X2_leastMatchFor : GoodIn wsX2_missingMatch wsX2_leastMatchFor := goodIn_r _ [53, 19, 54, 55, 56, 57, 58, 59, 60, 61, 62, 63, 64, 65, 66] (by decide +kernel) (by decide +kernel)
set_option maxRecDepth 20000 in
theorem gX2_missingMatch_X2_leastMatchFor : GoodIn wsX2_missingMatch (wsV RX2 165 RX2 yX2_leastMatchFor wsX2_leastMatchFor) := goodIn_app (goodIn_of _ (by decide +kernel)) ggX2_missingMatch_X2_leastMatchFor
theorem dX2_missingMatch_0 : decode cX2_missingMatch 0 = .ok (.iload_n 1, 1) := by decide +kernel
theorem dX2_missingMatch_1 : decode cX2_missingMatch 1 = .ok (.invokestatic 71, 3) := by decide +kernel
theorem dX2_missingMatch_4 : decode cX2_missingMatch 4 = .ok (.aload_n 0, 1) := by decide +kernel
theorem dX2_missingMatch_5 : decode cX2_missingMatch 5 = .ok (.aload_n 0, 1) := by decide +kernel
theorem dX2_missingMatch_6 : decode cX2_missingMatch 6 = .ok (.iload_n 1, 1) := by decide +kernel
theorem dX2_missingMatch_7 : decode cX2_missingMatch 7 = .ok (.invokevirtual 161, 3) := by decide +kernel
theorem dX2_missingMatch_10 : decode cX2_missingMatch 10 = .ok (.invokevirtual 165, 3) := by decide +kernel
theorem dX2_missingMatch_13 : decode cX2_missingMatch 13 = .ok (.aload_n 0, 1) := by decide +kernel
theorem dX2_missingMatch_14 : decode cX2_missingMatch 14 = .ok (.getfield 42, 3) := by decide +kernel
theorem dX2_missingMatch_17 : decode cX2_missingMatch 17 = .ok (.i2l, 1) := by decide +kernel
theorem dX2_missingMatch_18 : decode cX2_missingMatch 18 = .ok (.lsub, 1) := by decide +kernel
theorem dX2_missingMatch_19 : decode cX2_missingMatch 19 = .ok (.lstore_n 2, 1) := by decide +kernel
theorem dX2_missingMatch_20 : decode cX2_missingMatch 20 = .ok (.lload_n 2, 1) := by decide +kernel
theorem dX2_missingMatch_21 : decode cX2_missingMatch 21 = .ok (.lconst 0, 1) := by decide +kernel
theorem dX2_missingMatch_22 : decode cX2_missingMatch 22 = .ok (.invokestatic 169, 3) := by decide +kernel
theorem dX2_missingMatch_25 : decode cX2_missingMatch 25 = .ok (.l2i, 1) := by decide +kernel
theorem dX2_missingMatch_26 : decode cX2_missingMatch 26 = .ok (.ireturn, 1) := by decide +kernel
set_option maxRecDepth 20000 in
theorem ggX2_claim_X2_checkRange : GoodIn wsX2_claim wsX2_checkRange := goodIn_ca (goodIn_r _ [10, 11, 12] (by decide +kernel) (by decide +kernel)) (goodIn_sub (fun _ h => List.mem_cons_of_mem _ (List.mem_append_right _ h)) (by decide +kernel))
set_option maxRecDepth 20000 in
theorem gX2_claim_X2_checkRange : GoodIn wsX2_claim (va_wsS RX2 59 yX2_checkRange wsX2_checkRange) := goodIn_app (goodIn_of _ (by decide +kernel)) ggX2_claim_X2_checkRange
set_option maxRecDepth 20000 in
theorem ggX2_claim_X2_earnedUpTo : GoodIn wsX2_claim wsX2_earnedUpTo := goodIn_r _ [16, 17, 18, 19, 20, 21, 22, 23, 24, 25, 9, 26, 27, 28, 29, 30, 31, 32, 33, 34, 35, 36, 37, 38, 39, 40, 41, 42, 43, 44, 45, 46, 47, 48, 49, 50, 51, 52, 53, 54, 55, 56, 57, 58, 59, 60, 61, 62, 63, 64, 65, 66, 67, 68, 69, 70, 71, 72, 73, 74, 75, 76, 77, 78, 79] (by decide +kernel) (by decide +kernel)
set_option maxRecDepth 20000 in
theorem gX2_claim_X2_earnedUpTo : GoodIn wsX2_claim (wsV RX2 158 RX2 yX2_earnedUpTo wsX2_earnedUpTo) := goodIn_app (goodIn_of _ (by decide +kernel)) ggX2_claim_X2_earnedUpTo
theorem dX2_claim_0 : decode cX2_claim 0 = .ok (.iload_n 1, 1) := by decide +kernel
theorem dX2_claim_1 : decode cX2_claim 1 = .ok (.aload_n 0, 1) := by decide +kernel
theorem dX2_claim_2 : decode cX2_claim 2 = .ok (.getfield 52, 3) := by decide +kernel
theorem dX2_claim_5 : decode cX2_claim 5 = .ok (.sipush 9999, 3) := by decide +kernel
theorem dX2_claim_8 : decode cX2_claim 8 = .ok (.invokestatic 59, 3) := by decide +kernel
theorem dX2_claim_11 : decode cX2_claim 11 = .ok (.aload_n 0, 1) := by decide +kernel
theorem dX2_claim_12 : decode cX2_claim 12 = .ok (.getfield 49, 3) := by decide +kernel
theorem dX2_claim_15 : decode cX2_claim 15 = .ok (.istore_n 2, 1) := by decide +kernel
theorem dX2_claim_16 : decode cX2_claim 16 = .ok (.iload_n 2, 1) := by decide +kernel
theorem dX2_claim_17 : decode cX2_claim 17 = .ok (.ifCond .lt 12, 3) := by decide +kernel
theorem dX2_claim_20 : decode cX2_claim 20 = .ok (.iload_n 2, 1) := by decide +kernel
theorem dX2_claim_21 : decode cX2_claim 21 = .ok (.aload_n 0, 1) := by decide +kernel
theorem dX2_claim_22 : decode cX2_claim 22 = .ok (.getfield 45, 3) := by decide +kernel
theorem dX2_claim_25 : decode cX2_claim 25 = .ok (.arraylength, 1) := by decide +kernel
theorem dX2_claim_26 : decode cX2_claim 26 = .ok (.if_icmp .lt 13, 3) := by decide +kernel
theorem dX2_claim_29 : decode cX2_claim 29 = .ok (.new 63, 3) := by decide +kernel
theorem dX2_claim_32 : decode cX2_claim 32 = .ok (.dup, 1) := by decide +kernel
theorem dX2_claim_33 : decode cX2_claim 33 = .ok (.ldc 175, 2) := by decide +kernel
theorem dX2_claim_35 : decode cX2_claim 35 = .ok (.invokespecial 67, 3) := by decide +kernel
theorem dX2_claim_38 : decode cX2_claim 38 = .ok (.athrow, 1) := by decide +kernel
theorem dX2_claim_39 : decode cX2_claim 39 = .ok (.aload_n 0, 1) := by decide +kernel
theorem dX2_claim_40 : decode cX2_claim 40 = .ok (.iload_n 1, 1) := by decide +kernel
theorem dX2_claim_41 : decode cX2_claim 41 = .ok (.invokevirtual 158, 3) := by decide +kernel
theorem dX2_claim_44 : decode cX2_claim 44 = .ok (.aload_n 0, 1) := by decide +kernel
theorem dX2_claim_45 : decode cX2_claim 45 = .ok (.getfield 55, 3) := by decide +kernel
theorem dX2_claim_48 : decode cX2_claim 48 = .ok (.isub, 1) := by decide +kernel
theorem dX2_claim_49 : decode cX2_claim 49 = .ok (.istore_n 3, 1) := by decide +kernel
theorem dX2_claim_50 : decode cX2_claim 50 = .ok (.aload_n 0, 1) := by decide +kernel
theorem dX2_claim_51 : decode cX2_claim 51 = .ok (.getfield 45, 3) := by decide +kernel
theorem dX2_claim_54 : decode cX2_claim 54 = .ok (.iload_n 2, 1) := by decide +kernel
theorem dX2_claim_55 : decode cX2_claim 55 = .ok (.iload_n 3, 1) := by decide +kernel
theorem dX2_claim_56 : decode cX2_claim 56 = .ok (.iastore, 1) := by decide +kernel
theorem dX2_claim_57 : decode cX2_claim 57 = .ok (.aload_n 0, 1) := by decide +kernel
theorem dX2_claim_58 : decode cX2_claim 58 = .ok (.iload_n 2, 1) := by decide +kernel
theorem dX2_claim_59 : decode cX2_claim 59 = .ok (.iconst 1, 1) := by decide +kernel
theorem dX2_claim_60 : decode cX2_claim 60 = .ok (.iadd, 1) := by decide +kernel
theorem dX2_claim_61 : decode cX2_claim 61 = .ok (.putfield 49, 3) := by decide +kernel
theorem dX2_claim_64 : decode cX2_claim 64 = .ok (.aload_n 0, 1) := by decide +kernel
theorem dX2_claim_65 : decode cX2_claim 65 = .ok (.iload_n 1, 1) := by decide +kernel
theorem dX2_claim_66 : decode cX2_claim 66 = .ok (.putfield 52, 3) := by decide +kernel
theorem dX2_claim_69 : decode cX2_claim 69 = .ok (.aload_n 0, 1) := by decide +kernel
theorem dX2_claim_70 : decode cX2_claim 70 = .ok (.dup, 1) := by decide +kernel
theorem dX2_claim_71 : decode cX2_claim 71 = .ok (.getfield 55, 3) := by decide +kernel
theorem dX2_claim_74 : decode cX2_claim 74 = .ok (.iload_n 3, 1) := by decide +kernel
theorem dX2_claim_75 : decode cX2_claim 75 = .ok (.iadd, 1) := by decide +kernel
theorem dX2_claim_76 : decode cX2_claim 76 = .ok (.putfield 55, 3) := by decide +kernel
theorem dX2_claim_79 : decode cX2_claim 79 = .ok (.iload_n 3, 1) := by decide +kernel
theorem dX2_claim_80 : decode cX2_claim 80 = .ok (.ireturn, 1) := by decide +kernel
theorem dX2_claims_0 : decode cX2_claims 0 = .ok (.aload_n 0, 1) := by decide +kernel
theorem dX2_claims_1 : decode cX2_claims 1 = .ok (.getfield 49, 3) := by decide +kernel
theorem dX2_claims_4 : decode cX2_claims 4 = .ok (.ireturn, 1) := by decide +kernel
theorem dX2_paid_0 : decode cX2_paid 0 = .ok (.iload_n 1, 1) := by decide +kernel
theorem dX2_paid_1 : decode cX2_paid 1 = .ok (.ifCond .lt 20, 3) := by decide +kernel
theorem dX2_paid_4 : decode cX2_paid 4 = .ok (.iload_n 1, 1) := by decide +kernel
theorem dX2_paid_5 : decode cX2_paid 5 = .ok (.aload_n 0, 1) := by decide +kernel
theorem dX2_paid_6 : decode cX2_paid 6 = .ok (.getfield 49, 3) := by decide +kernel
theorem dX2_paid_9 : decode cX2_paid 9 = .ok (.if_icmp .ge 12, 3) := by decide +kernel
theorem dX2_paid_12 : decode cX2_paid 12 = .ok (.iload_n 1, 1) := by decide +kernel
theorem dX2_paid_13 : decode cX2_paid 13 = .ok (.aload_n 0, 1) := by decide +kernel
theorem dX2_paid_14 : decode cX2_paid 14 = .ok (.getfield 45, 3) := by decide +kernel
theorem dX2_paid_17 : decode cX2_paid 17 = .ok (.arraylength, 1) := by decide +kernel
theorem dX2_paid_18 : decode cX2_paid 18 = .ok (.if_icmp .lt 13, 3) := by decide +kernel
theorem dX2_paid_21 : decode cX2_paid 21 = .ok (.new 177, 3) := by decide +kernel
theorem dX2_paid_24 : decode cX2_paid 24 = .ok (.dup, 1) := by decide +kernel
theorem dX2_paid_25 : decode cX2_paid 25 = .ok (.ldc 179, 2) := by decide +kernel
theorem dX2_paid_27 : decode cX2_paid 27 = .ok (.invokespecial 181, 3) := by decide +kernel
theorem dX2_paid_30 : decode cX2_paid 30 = .ok (.athrow, 1) := by decide +kernel
theorem dX2_paid_31 : decode cX2_paid 31 = .ok (.aload_n 0, 1) := by decide +kernel
theorem dX2_paid_32 : decode cX2_paid 32 = .ok (.getfield 45, 3) := by decide +kernel
theorem dX2_paid_35 : decode cX2_paid 35 = .ok (.iload_n 1, 1) := by decide +kernel
theorem dX2_paid_36 : decode cX2_paid 36 = .ok (.iaload, 1) := by decide +kernel
theorem dX2_paid_37 : decode cX2_paid 37 = .ok (.ireturn, 1) := by decide +kernel
set_option maxRecDepth 20000 in
theorem ggX2_unsettled_X2_earnedUpTo : GoodIn wsX2_unsettled wsX2_earnedUpTo := goodIn_r _ [8, 9, 10, 11, 12, 13, 14, 15, 16, 17, 7, 18, 19, 20, 21, 22, 23, 24, 25, 26, 27, 28, 29, 30, 31, 32, 33, 34, 35, 36, 37, 38, 39, 40, 41, 42, 43, 44, 45, 46, 47, 48, 49, 50, 51, 52, 53, 54, 55, 56, 57, 58, 59, 60, 61, 62, 63, 64, 65, 66, 67, 68, 69, 70, 71] (by decide +kernel) (by decide +kernel)
set_option maxRecDepth 20000 in
theorem gX2_unsettled_X2_earnedUpTo : GoodIn wsX2_unsettled (wsV RX2 158 RX2 yX2_earnedUpTo wsX2_earnedUpTo) := goodIn_app (goodIn_of _ (by decide +kernel)) ggX2_unsettled_X2_earnedUpTo
theorem dX2_unsettled_0 : decode cX2_unsettled 0 = .ok (.aload_n 0, 1) := by decide +kernel
theorem dX2_unsettled_1 : decode cX2_unsettled 1 = .ok (.getfield 49, 3) := by decide +kernel
theorem dX2_unsettled_4 : decode cX2_unsettled 4 = .ok (.ifCond .ne 7, 3) := by decide +kernel
theorem dX2_unsettled_7 : decode cX2_unsettled 7 = .ok (.iconst 0, 1) := by decide +kernel
theorem dX2_unsettled_8 : decode cX2_unsettled 8 = .ok (.goto 16, 3) := by decide +kernel
theorem dX2_unsettled_11 : decode cX2_unsettled 11 = .ok (.aload_n 0, 1) := by decide +kernel
theorem dX2_unsettled_12 : decode cX2_unsettled 12 = .ok (.aload_n 0, 1) := by decide +kernel
theorem dX2_unsettled_13 : decode cX2_unsettled 13 = .ok (.getfield 52, 3) := by decide +kernel
theorem dX2_unsettled_16 : decode cX2_unsettled 16 = .ok (.invokevirtual 158, 3) := by decide +kernel
theorem dX2_unsettled_19 : decode cX2_unsettled 19 = .ok (.aload_n 0, 1) := by decide +kernel
theorem dX2_unsettled_20 : decode cX2_unsettled 20 = .ok (.getfield 55, 3) := by decide +kernel
theorem dX2_unsettled_23 : decode cX2_unsettled 23 = .ok (.isub, 1) := by decide +kernel
theorem dX2_unsettled_24 : decode cX2_unsettled 24 = .ok (.ireturn, 1) := by decide +kernel
theorem dX2_checkRange_0 : decode cX2_checkRange 0 = .ok (.iload_n 0, 1) := by decide +kernel
theorem dX2_checkRange_1 : decode cX2_checkRange 1 = .ok (.iload_n 1, 1) := by decide +kernel
theorem dX2_checkRange_2 : decode cX2_checkRange 2 = .ok (.if_icmp .lt 8, 3) := by decide +kernel
theorem dX2_checkRange_5 : decode cX2_checkRange 5 = .ok (.iload_n 0, 1) := by decide +kernel
theorem dX2_checkRange_6 : decode cX2_checkRange 6 = .ok (.iload_n 2, 1) := by decide +kernel
theorem dX2_checkRange_7 : decode cX2_checkRange 7 = .ok (.if_icmp .le 13, 3) := by decide +kernel
theorem dX2_checkRange_10 : decode cX2_checkRange 10 = .ok (.new 90, 3) := by decide +kernel
theorem dX2_checkRange_13 : decode cX2_checkRange 13 = .ok (.dup, 1) := by decide +kernel
theorem dX2_checkRange_14 : decode cX2_checkRange 14 = .ok (.ldc 182, 2) := by decide +kernel
theorem dX2_checkRange_16 : decode cX2_checkRange 16 = .ok (.invokespecial 94, 3) := by decide +kernel
theorem dX2_checkRange_19 : decode cX2_checkRange 19 = .ok (.athrow, 1) := by decide +kernel
theorem dX2_checkRange_20 : decode cX2_checkRange 20 = .ok (.return_, 1) := by decide +kernel
set_option maxRecDepth 20000 in
theorem ggX2_checkDay_X2_checkRange : GoodIn wsX2_checkDay wsX2_checkRange := goodIn_ca (goodIn_r _ [4, 5, 6] (by decide +kernel) (by decide +kernel)) (goodIn_sub (fun _ h => List.mem_cons_of_mem _ (List.mem_append_right _ h)) (by decide +kernel))
set_option maxRecDepth 20000 in
theorem gX2_checkDay_X2_checkRange : GoodIn wsX2_checkDay (va_wsS RX2 59 yX2_checkRange wsX2_checkRange) := goodIn_app (goodIn_of _ (by decide +kernel)) ggX2_checkDay_X2_checkRange
theorem dX2_checkDay_0 : decode cX2_checkDay 0 = .ok (.iload_n 0, 1) := by decide +kernel
theorem dX2_checkDay_1 : decode cX2_checkDay 1 = .ok (.iconst 0, 1) := by decide +kernel
theorem dX2_checkDay_2 : decode cX2_checkDay 2 = .ok (.sipush 9999, 3) := by decide +kernel
theorem dX2_checkDay_5 : decode cX2_checkDay 5 = .ok (.invokestatic 59, 3) := by decide +kernel
theorem dX2_checkDay_8 : decode cX2_checkDay 8 = .ok (.return_, 1) := by decide +kernel
theorem dX2_findLine_0 : decode cX2_findLine 0 = .ok (.iload_n 1, 1) := by decide +kernel
theorem dX2_findLine_1 : decode cX2_findLine 1 = .ok (.ifCond .lt 21, 3) := by decide +kernel
theorem dX2_findLine_4 : decode cX2_findLine 4 = .ok (.iload_n 1, 1) := by decide +kernel
theorem dX2_findLine_5 : decode cX2_findLine 5 = .ok (.aload_n 0, 1) := by decide +kernel
theorem dX2_findLine_6 : decode cX2_findLine 6 = .ok (.getfield 26, 3) := by decide +kernel
theorem dX2_findLine_9 : decode cX2_findLine 9 = .ok (.arraylength, 1) := by decide +kernel
theorem dX2_findLine_10 : decode cX2_findLine 10 = .ok (.if_icmp .ge 12, 3) := by decide +kernel
theorem dX2_findLine_13 : decode cX2_findLine 13 = .ok (.aload_n 0, 1) := by decide +kernel
theorem dX2_findLine_14 : decode cX2_findLine 14 = .ok (.getfield 26, 3) := by decide +kernel
theorem dX2_findLine_17 : decode cX2_findLine 17 = .ok (.iload_n 1, 1) := by decide +kernel
theorem dX2_findLine_18 : decode cX2_findLine 18 = .ok (.aaload, 1) := by decide +kernel
theorem dX2_findLine_19 : decode cX2_findLine 19 = .ok (.goto 4, 3) := by decide +kernel
theorem dX2_findLine_22 : decode cX2_findLine 22 = .ok (.aconst_null, 1) := by decide +kernel
theorem dX2_findLine_23 : decode cX2_findLine 23 = .ok (.astore_n 2, 1) := by decide +kernel
theorem dX2_findLine_24 : decode cX2_findLine 24 = .ok (.aload_n 2, 1) := by decide +kernel
theorem dX2_findLine_25 : decode cX2_findLine 25 = .ok (.ifnonnull 13, 3) := by decide +kernel
theorem dX2_findLine_28 : decode cX2_findLine 28 = .ok (.new 177, 3) := by decide +kernel
theorem dX2_findLine_31 : decode cX2_findLine 31 = .ok (.dup, 1) := by decide +kernel
theorem dX2_findLine_32 : decode cX2_findLine 32 = .ok (.ldc 184, 2) := by decide +kernel
theorem dX2_findLine_34 : decode cX2_findLine 34 = .ok (.invokespecial 181, 3) := by decide +kernel
theorem dX2_findLine_37 : decode cX2_findLine 37 = .ok (.athrow, 1) := by decide +kernel
theorem dX2_findLine_38 : decode cX2_findLine 38 = .ok (.aload_n 2, 1) := by decide +kernel
theorem dX2_findLine_39 : decode cX2_findLine 39 = .ok (.areturn, 1) := by decide +kernel
theorem dX2_findVoucher_0 : decode cX2_findVoucher 0 = .ok (.iload_n 1, 1) := by decide +kernel
theorem dX2_findVoucher_1 : decode cX2_findVoucher 1 = .ok (.ifCond .lt 21, 3) := by decide +kernel
theorem dX2_findVoucher_4 : decode cX2_findVoucher 4 = .ok (.iload_n 1, 1) := by decide +kernel
theorem dX2_findVoucher_5 : decode cX2_findVoucher 5 = .ok (.aload_n 0, 1) := by decide +kernel
theorem dX2_findVoucher_6 : decode cX2_findVoucher 6 = .ok (.getfield 35, 3) := by decide +kernel
theorem dX2_findVoucher_9 : decode cX2_findVoucher 9 = .ok (.arraylength, 1) := by decide +kernel
theorem dX2_findVoucher_10 : decode cX2_findVoucher 10 = .ok (.if_icmp .ge 12, 3) := by decide +kernel
theorem dX2_findVoucher_13 : decode cX2_findVoucher 13 = .ok (.aload_n 0, 1) := by decide +kernel
theorem dX2_findVoucher_14 : decode cX2_findVoucher 14 = .ok (.getfield 35, 3) := by decide +kernel
theorem dX2_findVoucher_17 : decode cX2_findVoucher 17 = .ok (.iload_n 1, 1) := by decide +kernel
theorem dX2_findVoucher_18 : decode cX2_findVoucher 18 = .ok (.aaload, 1) := by decide +kernel
theorem dX2_findVoucher_19 : decode cX2_findVoucher 19 = .ok (.goto 4, 3) := by decide +kernel
theorem dX2_findVoucher_22 : decode cX2_findVoucher 22 = .ok (.aconst_null, 1) := by decide +kernel
theorem dX2_findVoucher_23 : decode cX2_findVoucher 23 = .ok (.astore_n 2, 1) := by decide +kernel
theorem dX2_findVoucher_24 : decode cX2_findVoucher 24 = .ok (.aload_n 2, 1) := by decide +kernel
theorem dX2_findVoucher_25 : decode cX2_findVoucher 25 = .ok (.ifnonnull 13, 3) := by decide +kernel
theorem dX2_findVoucher_28 : decode cX2_findVoucher 28 = .ok (.new 177, 3) := by decide +kernel
theorem dX2_findVoucher_31 : decode cX2_findVoucher 31 = .ok (.dup, 1) := by decide +kernel
theorem dX2_findVoucher_32 : decode cX2_findVoucher 32 = .ok (.ldc 186, 2) := by decide +kernel
theorem dX2_findVoucher_34 : decode cX2_findVoucher 34 = .ok (.invokespecial 181, 3) := by decide +kernel
theorem dX2_findVoucher_37 : decode cX2_findVoucher 37 = .ok (.athrow, 1) := by decide +kernel
theorem dX2_findVoucher_38 : decode cX2_findVoucher 38 = .ok (.aload_n 2, 1) := by decide +kernel
theorem dX2_findVoucher_39 : decode cX2_findVoucher 39 = .ok (.areturn, 1) := by decide +kernel
set_option maxRecDepth 20000 in
theorem ggX2_eligibleMoreWith_X0_eligibleUpTo : GoodIn wsX2_eligibleMoreWith wsX0_eligibleUpTo := goodIn_r _ [7, 8, 9, 10, 11, 41, 42, 43, 44, 45, 46, 47, 35, 36, 37, 38, 39, 40] (by decide +kernel) (by decide +kernel)
set_option maxRecDepth 20000 in
theorem gX2_eligibleMoreWith_X0_eligibleUpTo : GoodIn wsX2_eligibleMoreWith (wsV RX2 110 RX0 yX0_eligibleUpTo wsX0_eligibleUpTo) := goodIn_app (goodIn_of _ (by decide +kernel)) ggX2_eligibleMoreWith_X0_eligibleUpTo
set_option maxRecDepth 20000 in
theorem ggX2_eligibleMoreWith_X0_reckon : GoodIn wsX2_eligibleMoreWith wsX0_reckon := goodIn_r _ [15, 8, 16, 17, 18, 19, 20, 10, 11, 21, 22, 23, 6, 24, 25, 26, 27, 28, 29, 30, 31, 32, 9, 33, 34, 41, 42, 43, 44, 45, 46, 47, 35, 36, 37, 38, 39, 40] (by decide +kernel) (by decide +kernel)
set_option maxRecDepth 20000 in
theorem gX2_eligibleMoreWith_X0_reckon : GoodIn wsX2_eligibleMoreWith (wsV RX2 87 RX0 yX0_reckon wsX0_reckon) := goodIn_app (goodIn_of _ (by decide +kernel)) ggX2_eligibleMoreWith_X0_reckon
theorem dX2_eligibleMoreWith_0 : decode cX2_eligibleMoreWith 0 = .ok (.aload_n 0, 1) := by decide +kernel
theorem dX2_eligibleMoreWith_1 : decode cX2_eligibleMoreWith 1 = .ok (.getfield 141, 3) := by decide +kernel
theorem dX2_eligibleMoreWith_4 : decode cX2_eligibleMoreWith 4 = .ok (.astore_n 2, 1) := by decide +kernel
theorem dX2_eligibleMoreWith_5 : decode cX2_eligibleMoreWith 5 = .ok (.aload_n 2, 1) := by decide +kernel
theorem dX2_eligibleMoreWith_6 : decode cX2_eligibleMoreWith 6 = .ok (.sipush 9999, 3) := by decide +kernel
theorem dX2_eligibleMoreWith_9 : decode cX2_eligibleMoreWith 9 = .ok (.invokevirtual 110, 3) := by decide +kernel
theorem dX2_eligibleMoreWith_12 : decode cX2_eligibleMoreWith 12 = .ok (.istore_n 3, 1) := by decide +kernel
theorem dX2_eligibleMoreWith_13 : decode cX2_eligibleMoreWith 13 = .ok (.aload_n 0, 1) := by decide +kernel
theorem dX2_eligibleMoreWith_14 : decode cX2_eligibleMoreWith 14 = .ok (.iload_n 1, 1) := by decide +kernel
theorem dX2_eligibleMoreWith_15 : decode cX2_eligibleMoreWith 15 = .ok (.putfield 127, 3) := by decide +kernel
theorem dX2_eligibleMoreWith_18 : decode cX2_eligibleMoreWith 18 = .ok (.aload_n 2, 1) := by decide +kernel
theorem dX2_eligibleMoreWith_19 : decode cX2_eligibleMoreWith 19 = .ok (.invokevirtual 87, 3) := by decide +kernel
theorem dX2_eligibleMoreWith_22 : decode cX2_eligibleMoreWith 22 = .ok (.aload_n 2, 1) := by decide +kernel
theorem dX2_eligibleMoreWith_23 : decode cX2_eligibleMoreWith 23 = .ok (.sipush 9999, 3) := by decide +kernel
theorem dX2_eligibleMoreWith_26 : decode cX2_eligibleMoreWith 26 = .ok (.invokevirtual 110, 3) := by decide +kernel
theorem dX2_eligibleMoreWith_29 : decode cX2_eligibleMoreWith 29 = .ok (.iload_n 3, 1) := by decide +kernel
theorem dX2_eligibleMoreWith_30 : decode cX2_eligibleMoreWith 30 = .ok (.isub, 1) := by decide +kernel
theorem dX2_eligibleMoreWith_31 : decode cX2_eligibleMoreWith 31 = .ok (.ireturn, 1) := by decide +kernel
set_option maxRecDepth 20000 in
theorem ggX2_costsUpTo_X2_eligibleInAll : GoodIn wsX2_costsUpTo wsX2_eligibleInAll := goodIn_r _ [5, 6, 7, 8, 9, 10, 11, 12, 13, 14, 15, 16, 17, 18, 19, 20, 21, 22, 23, 24, 25, 26, 27, 28, 29, 30, 31, 32, 33, 34, 35, 36, 37, 38, 39, 40, 41, 42] (by decide +kernel) (by decide +kernel)
set_option maxRecDepth 20000 in
theorem gX2_costsUpTo_X2_eligibleInAll : GoodIn wsX2_costsUpTo (wsV RX2 188 RX2 yX2_eligibleInAll wsX2_eligibleInAll) := goodIn_app (goodIn_of _ (by decide +kernel)) ggX2_costsUpTo_X2_eligibleInAll
theorem dX2_costsUpTo_0 : decode cX2_costsUpTo 0 = .ok (.aload_n 0, 1) := by decide +kernel
theorem dX2_costsUpTo_1 : decode cX2_costsUpTo 1 = .ok (.iload_n 1, 1) := by decide +kernel
theorem dX2_costsUpTo_2 : decode cX2_costsUpTo 2 = .ok (.iconst 0, 1) := by decide +kernel
theorem dX2_costsUpTo_3 : decode cX2_costsUpTo 3 = .ok (.invokevirtual 188, 3) := by decide +kernel
theorem dX2_costsUpTo_6 : decode cX2_costsUpTo 6 = .ok (.ireturn, 1) := by decide +kernel
set_option maxRecDepth 20000 in
theorem ggX2_overheadUpTo_X2_eligibleInAll : GoodIn wsX2_overheadUpTo wsX2_eligibleInAll := goodIn_r _ [12, 13, 14, 15, 16, 17, 18, 19, 20, 21, 22, 23, 24, 25, 26, 27, 28, 29, 30, 31, 32, 33, 34, 35, 36, 37, 38, 39, 40, 41, 42, 43, 44, 45, 46, 47, 48, 49] (by decide +kernel) (by decide +kernel)
set_option maxRecDepth 20000 in
theorem gX2_overheadUpTo_X2_eligibleInAll : GoodIn wsX2_overheadUpTo (wsV RX2 188 RX2 yX2_eligibleInAll wsX2_eligibleInAll) := goodIn_app (goodIn_of _ (by decide +kernel)) ggX2_overheadUpTo_X2_eligibleInAll
theorem dX2_overheadUpTo_0 : decode cX2_overheadUpTo 0 = .ok (.aload_n 0, 1) := by decide +kernel
theorem dX2_overheadUpTo_1 : decode cX2_overheadUpTo 1 = .ok (.getfield 17, 3) := by decide +kernel
theorem dX2_overheadUpTo_4 : decode cX2_overheadUpTo 4 = .ok (.i2l, 1) := by decide +kernel
theorem dX2_overheadUpTo_5 : decode cX2_overheadUpTo 5 = .ok (.aload_n 0, 1) := by decide +kernel
theorem dX2_overheadUpTo_6 : decode cX2_overheadUpTo 6 = .ok (.iload_n 1, 1) := by decide +kernel
theorem dX2_overheadUpTo_7 : decode cX2_overheadUpTo 7 = .ok (.iconst 1, 1) := by decide +kernel
theorem dX2_overheadUpTo_8 : decode cX2_overheadUpTo 8 = .ok (.invokevirtual 188, 3) := by decide +kernel
theorem dX2_overheadUpTo_11 : decode cX2_overheadUpTo 11 = .ok (.i2l, 1) := by decide +kernel
theorem dX2_overheadUpTo_12 : decode cX2_overheadUpTo 12 = .ok (.lmul, 1) := by decide +kernel
theorem dX2_overheadUpTo_13 : decode cX2_overheadUpTo 13 = .ok (.ldc2_w 192, 3) := by decide +kernel
theorem dX2_overheadUpTo_16 : decode cX2_overheadUpTo 16 = .ok (.ldiv, 1) := by decide +kernel
theorem dX2_overheadUpTo_17 : decode cX2_overheadUpTo 17 = .ok (.lstore_n 2, 1) := by decide +kernel
theorem dX2_overheadUpTo_18 : decode cX2_overheadUpTo 18 = .ok (.lload_n 2, 1) := by decide +kernel
theorem dX2_overheadUpTo_19 : decode cX2_overheadUpTo 19 = .ok (.aload_n 0, 1) := by decide +kernel
theorem dX2_overheadUpTo_20 : decode cX2_overheadUpTo 20 = .ok (.getfield 21, 3) := by decide +kernel
theorem dX2_overheadUpTo_23 : decode cX2_overheadUpTo 23 = .ok (.i2l, 1) := by decide +kernel
theorem dX2_overheadUpTo_24 : decode cX2_overheadUpTo 24 = .ok (.invokestatic 194, 3) := by decide +kernel
theorem dX2_overheadUpTo_27 : decode cX2_overheadUpTo 27 = .ok (.l2i, 1) := by decide +kernel
theorem dX2_overheadUpTo_28 : decode cX2_overheadUpTo 28 = .ok (.ireturn, 1) := by decide +kernel
set_option maxRecDepth 20000 in
theorem ggX2_eligibleInAll_X0_eligibleUpTo : GoodIn wsX2_eligibleInAll wsX0_eligibleUpTo := goodIn_r _ [7, 8, 9, 10, 11, 25, 26, 27, 28, 29, 30, 31, 32, 33, 34, 35, 36, 37] (by decide +kernel) (by decide +kernel)
set_option maxRecDepth 20000 in
theorem gX2_eligibleInAll_X0_eligibleUpTo : GoodIn wsX2_eligibleInAll (wsV RX2 110 RX0 yX0_eligibleUpTo wsX0_eligibleUpTo) := goodIn_app (goodIn_of _ (by decide +kernel)) ggX2_eligibleInAll_X0_eligibleUpTo
theorem dX2_eligibleInAll_0 : decode cX2_eligibleInAll 0 = .ok (.iconst 0, 1) := by decide +kernel
theorem dX2_eligibleInAll_1 : decode cX2_eligibleInAll 1 = .ok (.istore_n 3, 1) := by decide +kernel
theorem dX2_eligibleInAll_2 : decode cX2_eligibleInAll 2 = .ok (.aload_n 0, 1) := by decide +kernel
theorem dX2_eligibleInAll_3 : decode cX2_eligibleInAll 3 = .ok (.getfield 26, 3) := by decide +kernel
theorem dX2_eligibleInAll_6 : decode cX2_eligibleInAll 6 = .ok (.astore 4, 2) := by decide +kernel
theorem dX2_eligibleInAll_8 : decode cX2_eligibleInAll 8 = .ok (.aload 4, 2) := by decide +kernel
theorem dX2_eligibleInAll_10 : decode cX2_eligibleInAll 10 = .ok (.arraylength, 1) := by decide +kernel
theorem dX2_eligibleInAll_11 : decode cX2_eligibleInAll 11 = .ok (.istore 5, 2) := by decide +kernel
theorem dX2_eligibleInAll_13 : decode cX2_eligibleInAll 13 = .ok (.iconst 0, 1) := by decide +kernel
theorem dX2_eligibleInAll_14 : decode cX2_eligibleInAll 14 = .ok (.istore 6, 2) := by decide +kernel
theorem dX2_eligibleInAll_16 : decode cX2_eligibleInAll 16 = .ok (.iload 6, 2) := by decide +kernel
theorem dX2_eligibleInAll_18 : decode cX2_eligibleInAll 18 = .ok (.iload 5, 2) := by decide +kernel
theorem dX2_eligibleInAll_20 : decode cX2_eligibleInAll 20 = .ok (.if_icmp .ge 42, 3) := by decide +kernel
theorem dX2_eligibleInAll_23 : decode cX2_eligibleInAll 23 = .ok (.aload 4, 2) := by decide +kernel
theorem dX2_eligibleInAll_25 : decode cX2_eligibleInAll 25 = .ok (.iload 6, 2) := by decide +kernel
theorem dX2_eligibleInAll_27 : decode cX2_eligibleInAll 27 = .ok (.aaload, 1) := by decide +kernel
theorem dX2_eligibleInAll_28 : decode cX2_eligibleInAll 28 = .ok (.astore 7, 2) := by decide +kernel
theorem dX2_eligibleInAll_30 : decode cX2_eligibleInAll 30 = .ok (.aload 7, 2) := by decide +kernel
theorem dX2_eligibleInAll_32 : decode cX2_eligibleInAll 32 = .ok (.ifnull 24, 3) := by decide +kernel
theorem dX2_eligibleInAll_35 : decode cX2_eligibleInAll 35 = .ok (.aload 7, 2) := by decide +kernel
theorem dX2_eligibleInAll_37 : decode cX2_eligibleInAll 37 = .ok (.getfield 197, 3) := by decide +kernel
theorem dX2_eligibleInAll_40 : decode cX2_eligibleInAll 40 = .ok (.ifCond .ne 7, 3) := by decide +kernel
theorem dX2_eligibleInAll_43 : decode cX2_eligibleInAll 43 = .ok (.iload_n 2, 1) := by decide +kernel
theorem dX2_eligibleInAll_44 : decode cX2_eligibleInAll 44 = .ok (.ifCond .ne 12, 3) := by decide +kernel
theorem dX2_eligibleInAll_47 : decode cX2_eligibleInAll 47 = .ok (.iload_n 3, 1) := by decide +kernel
theorem dX2_eligibleInAll_48 : decode cX2_eligibleInAll 48 = .ok (.aload 7, 2) := by decide +kernel
theorem dX2_eligibleInAll_50 : decode cX2_eligibleInAll 50 = .ok (.iload_n 1, 1) := by decide +kernel
theorem dX2_eligibleInAll_51 : decode cX2_eligibleInAll 51 = .ok (.invokevirtual 110, 3) := by decide +kernel
theorem dX2_eligibleInAll_54 : decode cX2_eligibleInAll 54 = .ok (.iadd, 1) := by decide +kernel
theorem dX2_eligibleInAll_55 : decode cX2_eligibleInAll 55 = .ok (.istore_n 3, 1) := by decide +kernel
theorem dX2_eligibleInAll_56 : decode cX2_eligibleInAll 56 = .ok (.iinc 6 1, 3) := by decide +kernel
theorem dX2_eligibleInAll_59 : decode cX2_eligibleInAll 59 = .ok (.goto (-43), 3) := by decide +kernel
theorem dX2_eligibleInAll_62 : decode cX2_eligibleInAll 62 = .ok (.iload_n 3, 1) := by decide +kernel
theorem dX2_eligibleInAll_63 : decode cX2_eligibleInAll 63 = .ok (.ireturn, 1) := by decide +kernel
set_option maxRecDepth 20000 in
theorem ggX2_earnedUpTo_X2_earnedButForMatch : GoodIn wsX2_earnedUpTo wsX2_earnedButForMatch := goodIn_r _ [11, 1, 12, 13, 3, 4, 5, 6, 14, 15, 16, 10, 17, 18, 19, 20, 21, 22, 23, 24, 25, 26, 27, 28, 29, 30, 31, 32, 33, 34, 35, 36, 37, 38, 39, 40, 41, 42, 43, 44, 45, 46, 47, 48, 49, 50, 51, 52, 53, 54, 55, 56, 57, 58, 59, 60, 61, 62, 63, 64] (by decide +kernel) (by decide +kernel)
set_option maxRecDepth 20000 in
theorem gX2_earnedUpTo_X2_earnedButForMatch : GoodIn wsX2_earnedUpTo (wsV RX2 161 RX2 yX2_earnedButForMatch wsX2_earnedButForMatch) := goodIn_app (goodIn_of _ (by decide +kernel)) ggX2_earnedUpTo_X2_earnedButForMatch
theorem dX2_earnedUpTo_0 : decode cX2_earnedUpTo 0 = .ok (.aload_n 0, 1) := by decide +kernel
theorem dX2_earnedUpTo_1 : decode cX2_earnedUpTo 1 = .ok (.iload_n 1, 1) := by decide +kernel
theorem dX2_earnedUpTo_2 : decode cX2_earnedUpTo 2 = .ok (.invokevirtual 161, 3) := by decide +kernel
theorem dX2_earnedUpTo_5 : decode cX2_earnedUpTo 5 = .ok (.lstore_n 2, 1) := by decide +kernel
theorem dX2_earnedUpTo_6 : decode cX2_earnedUpTo 6 = .ok (.bipush 100, 2) := by decide +kernel
theorem dX2_earnedUpTo_8 : decode cX2_earnedUpTo 8 = .ok (.aload_n 0, 1) := by decide +kernel
theorem dX2_earnedUpTo_9 : decode cX2_earnedUpTo 9 = .ok (.getfield 14, 3) := by decide +kernel
theorem dX2_earnedUpTo_12 : decode cX2_earnedUpTo 12 = .ok (.isub, 1) := by decide +kernel
theorem dX2_earnedUpTo_13 : decode cX2_earnedUpTo 13 = .ok (.istore 4, 2) := by decide +kernel
theorem dX2_earnedUpTo_15 : decode cX2_earnedUpTo 15 = .ok (.iload 4, 2) := by decide +kernel
theorem dX2_earnedUpTo_17 : decode cX2_earnedUpTo 17 = .ok (.ifCond .le 23, 3) := by decide +kernel
theorem dX2_earnedUpTo_20 : decode cX2_earnedUpTo 20 = .ok (.lload_n 2, 1) := by decide +kernel
theorem dX2_earnedUpTo_21 : decode cX2_earnedUpTo 21 = .ok (.aload_n 0, 1) := by decide +kernel
theorem dX2_earnedUpTo_22 : decode cX2_earnedUpTo 22 = .ok (.getfield 42, 3) := by decide +kernel
theorem dX2_earnedUpTo_25 : decode cX2_earnedUpTo 25 = .ok (.i2l, 1) := by decide +kernel
theorem dX2_earnedUpTo_26 : decode cX2_earnedUpTo 26 = .ok (.aload_n 0, 1) := by decide +kernel
theorem dX2_earnedUpTo_27 : decode cX2_earnedUpTo 27 = .ok (.getfield 14, 3) := by decide +kernel
theorem dX2_earnedUpTo_30 : decode cX2_earnedUpTo 30 = .ok (.i2l, 1) := by decide +kernel
theorem dX2_earnedUpTo_31 : decode cX2_earnedUpTo 31 = .ok (.lmul, 1) := by decide +kernel
theorem dX2_earnedUpTo_32 : decode cX2_earnedUpTo 32 = .ok (.iload 4, 2) := by decide +kernel
theorem dX2_earnedUpTo_34 : decode cX2_earnedUpTo 34 = .ok (.i2l, 1) := by decide +kernel
theorem dX2_earnedUpTo_35 : decode cX2_earnedUpTo 35 = .ok (.ldiv, 1) := by decide +kernel
theorem dX2_earnedUpTo_36 : decode cX2_earnedUpTo 36 = .ok (.invokestatic 194, 3) := by decide +kernel
theorem dX2_earnedUpTo_39 : decode cX2_earnedUpTo 39 = .ok (.lstore_n 2, 1) := by decide +kernel
theorem dX2_earnedUpTo_40 : decode cX2_earnedUpTo 40 = .ok (.lload_n 2, 1) := by decide +kernel
theorem dX2_earnedUpTo_41 : decode cX2_earnedUpTo 41 = .ok (.l2i, 1) := by decide +kernel
theorem dX2_earnedUpTo_42 : decode cX2_earnedUpTo 42 = .ok (.ireturn, 1) := by decide +kernel
set_option maxRecDepth 20000 in
theorem ggX2_earnedButForMatch_X2_costsUpTo : GoodIn wsX2_earnedButForMatch wsX2_costsUpTo := goodIn_r _ [12, 13, 14, 15, 11, 16, 17, 18, 19, 20, 21, 22, 23, 24, 25, 26, 27, 34, 35, 36, 37, 38, 39, 40, 41, 42, 43, 44, 45, 46, 47, 48, 49, 50, 51, 52, 53, 54, 55, 56, 57, 58, 59] (by decide +kernel) (by decide +kernel)
set_option maxRecDepth 20000 in
theorem gX2_earnedButForMatch_X2_costsUpTo : GoodIn wsX2_earnedButForMatch (wsV RX2 152 RX2 yX2_costsUpTo wsX2_costsUpTo) := goodIn_app (goodIn_of _ (by decide +kernel)) ggX2_earnedButForMatch_X2_costsUpTo
set_option maxRecDepth 20000 in
theorem ggX2_earnedButForMatch_X2_overheadUpTo : GoodIn wsX2_earnedButForMatch wsX2_overheadUpTo := goodIn_r _ [31, 32, 2, 33, 4, 5, 6, 7, 13, 14, 15, 11, 16, 17, 18, 19, 20, 21, 22, 23, 24, 25, 26, 27, 34, 35, 36, 37, 38, 39, 40, 41, 42, 43, 44, 45, 46, 47, 48, 49, 50, 51, 52, 53, 54, 55, 56, 57, 58, 59] (by decide +kernel) (by decide +kernel)
set_option maxRecDepth 20000 in
theorem gX2_earnedButForMatch_X2_overheadUpTo : GoodIn wsX2_earnedButForMatch (wsV RX2 155 RX2 yX2_overheadUpTo wsX2_overheadUpTo) := goodIn_app (goodIn_of _ (by decide +kernel)) ggX2_earnedButForMatch_X2_overheadUpTo
theorem dX2_earnedButForMatch_0 : decode cX2_earnedButForMatch 0 = .ok (.aload_n 0, 1) := by decide +kernel
theorem dX2_earnedButForMatch_1 : decode cX2_earnedButForMatch 1 = .ok (.iload_n 1, 1) := by decide +kernel
theorem dX2_earnedButForMatch_2 : decode cX2_earnedButForMatch 2 = .ok (.invokevirtual 152, 3) := by decide +kernel
theorem dX2_earnedButForMatch_5 : decode cX2_earnedButForMatch 5 = .ok (.i2l, 1) := by decide +kernel
theorem dX2_earnedButForMatch_6 : decode cX2_earnedButForMatch 6 = .ok (.aload_n 0, 1) := by decide +kernel
theorem dX2_earnedButForMatch_7 : decode cX2_earnedButForMatch 7 = .ok (.iload_n 1, 1) := by decide +kernel
theorem dX2_earnedButForMatch_8 : decode cX2_earnedButForMatch 8 = .ok (.invokevirtual 155, 3) := by decide +kernel
theorem dX2_earnedButForMatch_11 : decode cX2_earnedButForMatch 11 = .ok (.i2l, 1) := by decide +kernel
theorem dX2_earnedButForMatch_12 : decode cX2_earnedButForMatch 12 = .ok (.ladd, 1) := by decide +kernel
theorem dX2_earnedButForMatch_13 : decode cX2_earnedButForMatch 13 = .ok (.lstore_n 2, 1) := by decide +kernel
theorem dX2_earnedButForMatch_14 : decode cX2_earnedButForMatch 14 = .ok (.lload_n 2, 1) := by decide +kernel
theorem dX2_earnedButForMatch_15 : decode cX2_earnedButForMatch 15 = .ok (.aload_n 0, 1) := by decide +kernel
theorem dX2_earnedButForMatch_16 : decode cX2_earnedButForMatch 16 = .ok (.getfield 14, 3) := by decide +kernel
theorem dX2_earnedButForMatch_19 : decode cX2_earnedButForMatch 19 = .ok (.i2l, 1) := by decide +kernel
theorem dX2_earnedButForMatch_20 : decode cX2_earnedButForMatch 20 = .ok (.lmul, 1) := by decide +kernel
theorem dX2_earnedButForMatch_21 : decode cX2_earnedButForMatch 21 = .ok (.ldc2_w 192, 3) := by decide +kernel
theorem dX2_earnedButForMatch_24 : decode cX2_earnedButForMatch 24 = .ok (.ldiv, 1) := by decide +kernel
theorem dX2_earnedButForMatch_25 : decode cX2_earnedButForMatch 25 = .ok (.aload_n 0, 1) := by decide +kernel
theorem dX2_earnedButForMatch_26 : decode cX2_earnedButForMatch 26 = .ok (.getfield 8, 3) := by decide +kernel
theorem dX2_earnedButForMatch_29 : decode cX2_earnedButForMatch 29 = .ok (.i2l, 1) := by decide +kernel
theorem dX2_earnedButForMatch_30 : decode cX2_earnedButForMatch 30 = .ok (.invokestatic 194, 3) := by decide +kernel
theorem dX2_earnedButForMatch_33 : decode cX2_earnedButForMatch 33 = .ok (.lreturn, 1) := by decide +kernel
theorem dX2_leastMatchFor_0 : decode cX2_leastMatchFor 0 = .ok (.bipush 100, 2) := by decide +kernel
theorem dX2_leastMatchFor_2 : decode cX2_leastMatchFor 2 = .ok (.aload_n 0, 1) := by decide +kernel
theorem dX2_leastMatchFor_3 : decode cX2_leastMatchFor 3 = .ok (.getfield 14, 3) := by decide +kernel
theorem dX2_leastMatchFor_6 : decode cX2_leastMatchFor 6 = .ok (.isub, 1) := by decide +kernel
theorem dX2_leastMatchFor_7 : decode cX2_leastMatchFor 7 = .ok (.istore_n 3, 1) := by decide +kernel
theorem dX2_leastMatchFor_8 : decode cX2_leastMatchFor 8 = .ok (.aload_n 0, 1) := by decide +kernel
theorem dX2_leastMatchFor_9 : decode cX2_leastMatchFor 9 = .ok (.getfield 14, 3) := by decide +kernel
theorem dX2_leastMatchFor_12 : decode cX2_leastMatchFor 12 = .ok (.ifCond .le 24, 3) := by decide +kernel
theorem dX2_leastMatchFor_15 : decode cX2_leastMatchFor 15 = .ok (.lload_n 1, 1) := by decide +kernel
theorem dX2_leastMatchFor_16 : decode cX2_leastMatchFor 16 = .ok (.iload_n 3, 1) := by decide +kernel
theorem dX2_leastMatchFor_17 : decode cX2_leastMatchFor 17 = .ok (.i2l, 1) := by decide +kernel
theorem dX2_leastMatchFor_18 : decode cX2_leastMatchFor 18 = .ok (.lmul, 1) := by decide +kernel
theorem dX2_leastMatchFor_19 : decode cX2_leastMatchFor 19 = .ok (.aload_n 0, 1) := by decide +kernel
theorem dX2_leastMatchFor_20 : decode cX2_leastMatchFor 20 = .ok (.getfield 14, 3) := by decide +kernel
theorem dX2_leastMatchFor_23 : decode cX2_leastMatchFor 23 = .ok (.i2l, 1) := by decide +kernel
theorem dX2_leastMatchFor_24 : decode cX2_leastMatchFor 24 = .ok (.ladd, 1) := by decide +kernel
theorem dX2_leastMatchFor_25 : decode cX2_leastMatchFor 25 = .ok (.lconst 1, 1) := by decide +kernel
theorem dX2_leastMatchFor_26 : decode cX2_leastMatchFor 26 = .ok (.lsub, 1) := by decide +kernel
theorem dX2_leastMatchFor_27 : decode cX2_leastMatchFor 27 = .ok (.aload_n 0, 1) := by decide +kernel
theorem dX2_leastMatchFor_28 : decode cX2_leastMatchFor 28 = .ok (.getfield 14, 3) := by decide +kernel
theorem dX2_leastMatchFor_31 : decode cX2_leastMatchFor 31 = .ok (.i2l, 1) := by decide +kernel
theorem dX2_leastMatchFor_32 : decode cX2_leastMatchFor 32 = .ok (.ldiv, 1) := by decide +kernel
theorem dX2_leastMatchFor_33 : decode cX2_leastMatchFor 33 = .ok (.goto 4, 3) := by decide +kernel
theorem dX2_leastMatchFor_36 : decode cX2_leastMatchFor 36 = .ok (.lconst 0, 1) := by decide +kernel
theorem dX2_leastMatchFor_37 : decode cX2_leastMatchFor 37 = .ok (.lreturn, 1) := by decide +kernel
theorem dJ9_max_f86c9_0 : decode cJ9_max_f86c9 0 = .ok (.lload_n 0, 1) := by decide +kernel
theorem dJ9_max_f86c9_1 : decode cJ9_max_f86c9 1 = .ok (.lload_n 2, 1) := by decide +kernel
theorem dJ9_max_f86c9_2 : decode cJ9_max_f86c9 2 = .ok (.lcmp, 1) := by decide +kernel
theorem dJ9_max_f86c9_3 : decode cJ9_max_f86c9 3 = .ok (.ifCond .lt 7, 3) := by decide +kernel
theorem dJ9_max_f86c9_6 : decode cJ9_max_f86c9 6 = .ok (.lload_n 0, 1) := by decide +kernel
theorem dJ9_max_f86c9_7 : decode cJ9_max_f86c9 7 = .ok (.goto 4, 3) := by decide +kernel
theorem dJ9_max_f86c9_10 : decode cJ9_max_f86c9 10 = .ok (.lload_n 2, 1) := by decide +kernel
theorem dJ9_max_f86c9_11 : decode cJ9_max_f86c9 11 = .ok (.lreturn, 1) := by decide +kernel
theorem dJ9_min_7cf53_0 : decode cJ9_min_7cf53 0 = .ok (.iload_n 0, 1) := by decide +kernel
theorem dJ9_min_7cf53_1 : decode cJ9_min_7cf53 1 = .ok (.iload_n 1, 1) := by decide +kernel
theorem dJ9_min_7cf53_2 : decode cJ9_min_7cf53 2 = .ok (.if_icmp .gt 7, 3) := by decide +kernel
theorem dJ9_min_7cf53_5 : decode cJ9_min_7cf53 5 = .ok (.iload_n 0, 1) := by decide +kernel
theorem dJ9_min_7cf53_6 : decode cJ9_min_7cf53 6 = .ok (.goto 4, 3) := by decide +kernel
theorem dJ9_min_7cf53_9 : decode cJ9_min_7cf53 9 = .ok (.iload_n 1, 1) := by decide +kernel
theorem dJ9_min_7cf53_10 : decode cJ9_min_7cf53 10 = .ok (.ireturn, 1) := by decide +kernel
theorem dJ9_min_f86c9_0 : decode cJ9_min_f86c9 0 = .ok (.lload_n 0, 1) := by decide +kernel
theorem dJ9_min_f86c9_1 : decode cJ9_min_f86c9 1 = .ok (.lload_n 2, 1) := by decide +kernel
theorem dJ9_min_f86c9_2 : decode cJ9_min_f86c9 2 = .ok (.lcmp, 1) := by decide +kernel
theorem dJ9_min_f86c9_3 : decode cJ9_min_f86c9 3 = .ok (.ifCond .gt 7, 3) := by decide +kernel
theorem dJ9_min_f86c9_6 : decode cJ9_min_f86c9 6 = .ok (.lload_n 0, 1) := by decide +kernel
theorem dJ9_min_f86c9_7 : decode cJ9_min_f86c9 7 = .ok (.goto 4, 3) := by decide +kernel
theorem dJ9_min_f86c9_10 : decode cJ9_min_f86c9 10 = .ok (.lload_n 2, 1) := by decide +kernel
theorem dJ9_min_f86c9_11 : decode cJ9_min_f86c9 11 = .ok (.lreturn, 1) := by decide +kernel
