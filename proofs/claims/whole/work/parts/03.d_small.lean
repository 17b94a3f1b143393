theorem dX0_init_0 : decode cX0_init 0 = .ok (.aload_n 0, 1) := by decide +kernel
theorem dX0_init_1 : decode cX0_init 1 = .ok (.invokespecial 3, 3) := by decide +kernel
theorem dX0_init_4 : decode cX0_init 4 = .ok (.aload_n 0, 1) := by decide +kernel
theorem dX0_init_5 : decode cX0_init 5 = .ok (.bipush 15, 2) := by decide +kernel
theorem dX0_init_7 : decode cX0_init 7 = .ok (.newarray .int, 2) := by decide +kernel
theorem dX0_init_9 : decode cX0_init 9 = .ok (.putfield 9, 3) := by decide +kernel
theorem dX0_init_12 : decode cX0_init 12 = .ok (.aload_n 0, 1) := by decide +kernel
theorem dX0_init_13 : decode cX0_init 13 = .ok (.bipush 15, 2) := by decide +kernel
theorem dX0_init_15 : decode cX0_init 15 = .ok (.newarray .boolean, 2) := by decide +kernel
theorem dX0_init_17 : decode cX0_init 17 = .ok (.putfield 15, 3) := by decide +kernel
theorem dX0_init_20 : decode cX0_init 20 = .ok (.return_, 1) := by decide +kernel
theorem dX0_add_0 : decode cX0_add 0 = .ok (.aload_n 0, 1) := by decide +kernel
theorem dX0_add_1 : decode cX0_add 1 = .ok (.getfield 19, 3) := by decide +kernel
theorem dX0_add_4 : decode cX0_add 4 = .ok (.bipush 15, 2) := by decide +kernel
theorem dX0_add_6 : decode cX0_add 6 = .ok (.if_icmp .lt 5, 3) := by decide +kernel
theorem dX0_add_9 : decode cX0_add 9 = .ok (.iconst 0, 1) := by decide +kernel
theorem dX0_add_10 : decode cX0_add 10 = .ok (.ireturn, 1) := by decide +kernel
theorem dX0_add_11 : decode cX0_add 11 = .ok (.aload_n 0, 1) := by decide +kernel
theorem dX0_add_12 : decode cX0_add 12 = .ok (.getfield 9, 3) := by decide +kernel
theorem dX0_add_15 : decode cX0_add 15 = .ok (.aload_n 0, 1) := by decide +kernel
theorem dX0_add_16 : decode cX0_add 16 = .ok (.getfield 19, 3) := by decide +kernel
theorem dX0_add_19 : decode cX0_add 19 = .ok (.iload_n 1, 1) := by decide +kernel
theorem dX0_add_20 : decode cX0_add 20 = .ok (.iastore, 1) := by decide +kernel
theorem dX0_add_21 : decode cX0_add 21 = .ok (.aload_n 0, 1) := by decide +kernel
theorem dX0_add_22 : decode cX0_add 22 = .ok (.getfield 15, 3) := by decide +kernel
theorem dX0_add_25 : decode cX0_add 25 = .ok (.aload_n 0, 1) := by decide +kernel
theorem dX0_add_26 : decode cX0_add 26 = .ok (.getfield 19, 3) := by decide +kernel
theorem dX0_add_29 : decode cX0_add 29 = .ok (.iload_n 2, 1) := by decide +kernel
theorem dX0_add_30 : decode cX0_add 30 = .ok (.bastore, 1) := by decide +kernel
theorem dX0_add_31 : decode cX0_add 31 = .ok (.aload_n 0, 1) := by decide +kernel
theorem dX0_add_32 : decode cX0_add 32 = .ok (.dup, 1) := by decide +kernel
theorem dX0_add_33 : decode cX0_add 33 = .ok (.getfield 19, 3) := by decide +kernel
theorem dX0_add_36 : decode cX0_add 36 = .ok (.iconst 1, 1) := by decide +kernel
theorem dX0_add_37 : decode cX0_add 37 = .ok (.iadd, 1) := by decide +kernel
theorem dX0_add_38 : decode cX0_add 38 = .ok (.putfield 19, 3) := by decide +kernel
theorem dX0_add_41 : decode cX0_add 41 = .ok (.iconst 1, 1) := by decide +kernel
theorem dX0_add_42 : decode cX0_add 42 = .ok (.ireturn, 1) := by decide +kernel
set_option maxRecDepth 20000 in
theorem ggX0_firstWrong_X7_isIn : GoodIn wsX0_firstWrong wsX7_isIn := goodIn_r _ [7] (by decide +kernel) (by decide +kernel)
set_option maxRecDepth 20000 in
theorem gX0_firstWrong_X7_isIn : GoodIn wsX0_firstWrong (va_wsS RX0 23 yX7_isIn wsX7_isIn) := goodIn_app (goodIn_of _ (by decide +kernel)) ggX0_firstWrong_X7_isIn
theorem dX0_firstWrong_0 : decode cX0_firstWrong 0 = .ok (.iconst 0, 1) := by decide +kernel
theorem dX0_firstWrong_1 : decode cX0_firstWrong 1 = .ok (.istore_n 2, 1) := by decide +kernel
theorem dX0_firstWrong_2 : decode cX0_firstWrong 2 = .ok (.iload_n 2, 1) := by decide +kernel
theorem dX0_firstWrong_3 : decode cX0_firstWrong 3 = .ok (.aload_n 0, 1) := by decide +kernel
theorem dX0_firstWrong_4 : decode cX0_firstWrong 4 = .ok (.getfield 19, 3) := by decide +kernel
theorem dX0_firstWrong_7 : decode cX0_firstWrong 7 = .ok (.if_icmp .ge 36, 3) := by decide +kernel
theorem dX0_firstWrong_10 : decode cX0_firstWrong 10 = .ok (.iload_n 2, 1) := by decide +kernel
theorem dX0_firstWrong_11 : decode cX0_firstWrong 11 = .ok (.bipush 15, 2) := by decide +kernel
theorem dX0_firstWrong_13 : decode cX0_firstWrong 13 = .ok (.if_icmp .ge 30, 3) := by decide +kernel
theorem dX0_firstWrong_16 : decode cX0_firstWrong 16 = .ok (.aload_n 0, 1) := by decide +kernel
theorem dX0_firstWrong_17 : decode cX0_firstWrong 17 = .ok (.getfield 9, 3) := by decide +kernel
theorem dX0_firstWrong_20 : decode cX0_firstWrong 20 = .ok (.iload_n 2, 1) := by decide +kernel
theorem dX0_firstWrong_21 : decode cX0_firstWrong 21 = .ok (.iaload, 1) := by decide +kernel
theorem dX0_firstWrong_22 : decode cX0_firstWrong 22 = .ok (.iload_n 1, 1) := by decide +kernel
theorem dX0_firstWrong_23 : decode cX0_firstWrong 23 = .ok (.invokestatic 23, 3) := by decide +kernel
theorem dX0_firstWrong_26 : decode cX0_firstWrong 26 = .ok (.aload_n 0, 1) := by decide +kernel
theorem dX0_firstWrong_27 : decode cX0_firstWrong 27 = .ok (.getfield 15, 3) := by decide +kernel
theorem dX0_firstWrong_30 : decode cX0_firstWrong 30 = .ok (.iload_n 2, 1) := by decide +kernel
theorem dX0_firstWrong_31 : decode cX0_firstWrong 31 = .ok (.baload, 1) := by decide +kernel
theorem dX0_firstWrong_32 : decode cX0_firstWrong 32 = .ok (.if_icmp .eq 5, 3) := by decide +kernel
theorem dX0_firstWrong_35 : decode cX0_firstWrong 35 = .ok (.iload_n 2, 1) := by decide +kernel
theorem dX0_firstWrong_36 : decode cX0_firstWrong 36 = .ok (.ireturn, 1) := by decide +kernel
theorem dX0_firstWrong_37 : decode cX0_firstWrong 37 = .ok (.iinc 2 1, 3) := by decide +kernel
theorem dX0_firstWrong_40 : decode cX0_firstWrong 40 = .ok (.goto (-38), 3) := by decide +kernel
theorem dX0_firstWrong_43 : decode cX0_firstWrong 43 = .ok (.iconst (-1), 1) := by decide +kernel
theorem dX0_firstWrong_44 : decode cX0_firstWrong 44 = .ok (.ireturn, 1) := by decide +kernel
theorem dX1_init_0 : decode cX1_init 0 = .ok (.aload_n 0, 1) := by decide +kernel
theorem dX1_init_1 : decode cX1_init 1 = .ok (.invokespecial 1, 3) := by decide +kernel
theorem dX1_init_4 : decode cX1_init 4 = .ok (.return_, 1) := by decide +kernel
theorem dX1_next_0 : decode cX1_next 0 = .ok (.aload_n 0, 1) := by decide +kernel
theorem dX1_next_1 : decode cX1_next 1 = .ok (.aload_n 0, 1) := by decide +kernel
theorem dX1_next_2 : decode cX1_next 2 = .ok (.getfield 7, 3) := by decide +kernel
theorem dX1_next_5 : decode cX1_next 5 = .ok (.i2l, 1) := by decide +kernel
theorem dX1_next_6 : decode cX1_next 6 = .ok (.ldc2_w 13, 3) := by decide +kernel
theorem dX1_next_9 : decode cX1_next 9 = .ok (.lmul, 1) := by decide +kernel
theorem dX1_next_10 : decode cX1_next 10 = .ok (.ldc2_w 15, 3) := by decide +kernel
theorem dX1_next_13 : decode cX1_next 13 = .ok (.ladd, 1) := by decide +kernel
theorem dX1_next_14 : decode cX1_next 14 = .ok (.ldc2_w 17, 3) := by decide +kernel
theorem dX1_next_17 : decode cX1_next 17 = .ok (.land, 1) := by decide +kernel
theorem dX1_next_18 : decode cX1_next 18 = .ok (.l2i, 1) := by decide +kernel
theorem dX1_next_19 : decode cX1_next 19 = .ok (.putfield 7, 3) := by decide +kernel
theorem dX1_next_22 : decode cX1_next 22 = .ok (.iload_n 1, 1) := by decide +kernel
theorem dX1_next_23 : decode cX1_next 23 = .ok (.ifCond .le 15, 3) := by decide +kernel
theorem dX1_next_26 : decode cX1_next 26 = .ok (.aload_n 0, 1) := by decide +kernel
theorem dX1_next_27 : decode cX1_next 27 = .ok (.getfield 7, 3) := by decide +kernel
theorem dX1_next_30 : decode cX1_next 30 = .ok (.ldc 19, 2) := by decide +kernel
theorem dX1_next_32 : decode cX1_next 32 = .ok (.idiv, 1) := by decide +kernel
theorem dX1_next_33 : decode cX1_next 33 = .ok (.iload_n 1, 1) := by decide +kernel
theorem dX1_next_34 : decode cX1_next 34 = .ok (.irem, 1) := by decide +kernel
theorem dX1_next_35 : decode cX1_next 35 = .ok (.goto 4, 3) := by decide +kernel
theorem dX1_next_38 : decode cX1_next 38 = .ok (.iconst 0, 1) := by decide +kernel
theorem dX1_next_39 : decode cX1_next 39 = .ok (.ireturn, 1) := by decide +kernel
set_option maxRecDepth 20000 in
theorem ggX2_init_X6_init : GoodIn wsX2_init wsX6_init := goodIn_r _ [13, 14, 2, 3, 6, 15, 16, 17, 21, 22, 23, 24, 25, 26, 27, 28, 29, 30] (by decide +kernel) (by decide +kernel)
set_option maxRecDepth 20000 in
theorem gX2_init_X6_init_n25 : GoodIn wsX2_init (wsX6_init) := ggX2_init_X6_init
theorem dX2_init_0 : decode cX2_init 0 = .ok (.aload_n 0, 1) := by decide +kernel
theorem dX2_init_1 : decode cX2_init 1 = .ok (.invokespecial 3, 3) := by decide +kernel
theorem dX2_init_4 : decode cX2_init 4 = .ok (.aload_n 0, 1) := by decide +kernel
theorem dX2_init_5 : decode cX2_init 5 = .ok (.iconst 2, 1) := by decide +kernel
theorem dX2_init_6 : decode cX2_init 6 = .ok (.anewarray 9, 3) := by decide +kernel
theorem dX2_init_9 : decode cX2_init 9 = .ok (.putfield 11, 3) := by decide +kernel
theorem dX2_init_12 : decode cX2_init 12 = .ok (.aload_n 0, 1) := by decide +kernel
theorem dX2_init_13 : decode cX2_init 13 = .ok (.iconst 2, 1) := by decide +kernel
theorem dX2_init_14 : decode cX2_init 14 = .ok (.newarray .int, 2) := by decide +kernel
theorem dX2_init_16 : decode cX2_init 16 = .ok (.putfield 17, 3) := by decide +kernel
theorem dX2_init_19 : decode cX2_init 19 = .ok (.aload_n 0, 1) := by decide +kernel
theorem dX2_init_20 : decode cX2_init 20 = .ok (.iconst 2, 1) := by decide +kernel
theorem dX2_init_21 : decode cX2_init 21 = .ok (.newarray .boolean, 2) := by decide +kernel
theorem dX2_init_23 : decode cX2_init 23 = .ok (.putfield 21, 3) := by decide +kernel
theorem dX2_init_26 : decode cX2_init 26 = .ok (.iconst 0, 1) := by decide +kernel
theorem dX2_init_27 : decode cX2_init 27 = .ok (.istore_n 1, 1) := by decide +kernel
theorem dX2_init_28 : decode cX2_init 28 = .ok (.iload_n 1, 1) := by decide +kernel
theorem dX2_init_29 : decode cX2_init 29 = .ok (.iconst 2, 1) := by decide +kernel
theorem dX2_init_30 : decode cX2_init 30 = .ok (.if_icmp .ge 22, 3) := by decide +kernel
theorem dX2_init_33 : decode cX2_init 33 = .ok (.aload_n 0, 1) := by decide +kernel
theorem dX2_init_34 : decode cX2_init 34 = .ok (.getfield 11, 3) := by decide +kernel
theorem dX2_init_37 : decode cX2_init 37 = .ok (.iload_n 1, 1) := by decide +kernel
theorem dX2_init_38 : decode cX2_init 38 = .ok (.new 9, 3) := by decide +kernel
theorem dX2_init_41 : decode cX2_init 41 = .ok (.dup, 1) := by decide +kernel
theorem dX2_init_42 : decode cX2_init 42 = .ok (.invokespecial 25, 3) := by decide +kernel
theorem dX2_init_45 : decode cX2_init 45 = .ok (.aastore, 1) := by decide +kernel
theorem dX2_init_46 : decode cX2_init 46 = .ok (.iinc 1 1, 3) := by decide +kernel
theorem dX2_init_49 : decode cX2_init 49 = .ok (.goto (-21), 3) := by decide +kernel
theorem dX2_init_52 : decode cX2_init 52 = .ok (.return_, 1) := by decide +kernel
theorem dX2_isKept_0 : decode cX2_isKept 0 = .ok (.iload_n 1, 1) := by decide +kernel
theorem dX2_isKept_1 : decode cX2_isKept 1 = .ok (.ifCond .lt 30, 3) := by decide +kernel
theorem dX2_isKept_4 : decode cX2_isKept 4 = .ok (.iload_n 1, 1) := by decide +kernel
theorem dX2_isKept_5 : decode cX2_isKept 5 = .ok (.iconst 2, 1) := by decide +kernel
theorem dX2_isKept_6 : decode cX2_isKept 6 = .ok (.if_icmp .ge 25, 3) := by decide +kernel
theorem dX2_isKept_9 : decode cX2_isKept 9 = .ok (.aload_n 0, 1) := by decide +kernel
theorem dX2_isKept_10 : decode cX2_isKept 10 = .ok (.getfield 11, 3) := by decide +kernel
theorem dX2_isKept_13 : decode cX2_isKept 13 = .ok (.iload_n 1, 1) := by decide +kernel
theorem dX2_isKept_14 : decode cX2_isKept 14 = .ok (.aaload, 1) := by decide +kernel
theorem dX2_isKept_15 : decode cX2_isKept 15 = .ok (.ifnull 16, 3) := by decide +kernel
theorem dX2_isKept_18 : decode cX2_isKept 18 = .ok (.aload_n 0, 1) := by decide +kernel
theorem dX2_isKept_19 : decode cX2_isKept 19 = .ok (.getfield 21, 3) := by decide +kernel
theorem dX2_isKept_22 : decode cX2_isKept 22 = .ok (.iload_n 1, 1) := by decide +kernel
theorem dX2_isKept_23 : decode cX2_isKept 23 = .ok (.baload, 1) := by decide +kernel
theorem dX2_isKept_24 : decode cX2_isKept 24 = .ok (.ifCond .eq 7, 3) := by decide +kernel
theorem dX2_isKept_27 : decode cX2_isKept 27 = .ok (.iconst 1, 1) := by decide +kernel
theorem dX2_isKept_28 : decode cX2_isKept 28 = .ok (.goto 4, 3) := by decide +kernel
theorem dX2_isKept_31 : decode cX2_isKept 31 = .ok (.iconst 0, 1) := by decide +kernel
theorem dX2_isKept_32 : decode cX2_isKept 32 = .ok (.ireturn, 1) := by decide +kernel
set_option maxRecDepth 20000 in
theorem ggX2_take_X6_copyFrom : GoodIn wsX2_take wsX6_copyFrom := goodIn_r _ [9, 10, 11, 12, 13, 14, 15, 16, 17, 18, 19, 20, 21, 22, 23, 28, 29, 30, 31, 32, 33, 34, 35, 36, 37] (by decide +kernel) (by decide +kernel)
set_option maxRecDepth 20000 in
theorem gX2_take_X6_copyFrom : GoodIn wsX2_take (wsV RX2 26 RX6 yX6_copyFrom wsX6_copyFrom) := goodIn_app (goodIn_of _ (by decide +kernel)) ggX2_take_X6_copyFrom
theorem dX2_take_0 : decode cX2_take 0 = .ok (.iload_n 1, 1) := by decide +kernel
theorem dX2_take_1 : decode cX2_take 1 = .ok (.ifCond .lt 44, 3) := by decide +kernel
theorem dX2_take_4 : decode cX2_take 4 = .ok (.iload_n 1, 1) := by decide +kernel
theorem dX2_take_5 : decode cX2_take 5 = .ok (.iconst 2, 1) := by decide +kernel
theorem dX2_take_6 : decode cX2_take 6 = .ok (.if_icmp .ge 39, 3) := by decide +kernel
theorem dX2_take_9 : decode cX2_take 9 = .ok (.aload_n 0, 1) := by decide +kernel
theorem dX2_take_10 : decode cX2_take 10 = .ok (.getfield 11, 3) := by decide +kernel
theorem dX2_take_13 : decode cX2_take 13 = .ok (.iload_n 1, 1) := by decide +kernel
theorem dX2_take_14 : decode cX2_take 14 = .ok (.aaload, 1) := by decide +kernel
theorem dX2_take_15 : decode cX2_take 15 = .ok (.ifnull 30, 3) := by decide +kernel
theorem dX2_take_18 : decode cX2_take 18 = .ok (.aload_n 0, 1) := by decide +kernel
theorem dX2_take_19 : decode cX2_take 19 = .ok (.getfield 11, 3) := by decide +kernel
theorem dX2_take_22 : decode cX2_take 22 = .ok (.iload_n 1, 1) := by decide +kernel
theorem dX2_take_23 : decode cX2_take 23 = .ok (.aaload, 1) := by decide +kernel
theorem dX2_take_24 : decode cX2_take 24 = .ok (.aload_n 2, 1) := by decide +kernel
theorem dX2_take_25 : decode cX2_take 25 = .ok (.invokevirtual 26, 3) := by decide +kernel
theorem dX2_take_28 : decode cX2_take 28 = .ok (.aload_n 0, 1) := by decide +kernel
theorem dX2_take_29 : decode cX2_take 29 = .ok (.getfield 17, 3) := by decide +kernel
theorem dX2_take_32 : decode cX2_take 32 = .ok (.iload_n 1, 1) := by decide +kernel
theorem dX2_take_33 : decode cX2_take 33 = .ok (.aload_n 3, 1) := by decide +kernel
theorem dX2_take_34 : decode cX2_take 34 = .ok (.getfield 30, 3) := by decide +kernel
theorem dX2_take_37 : decode cX2_take 37 = .ok (.iastore, 1) := by decide +kernel
theorem dX2_take_38 : decode cX2_take 38 = .ok (.aload_n 0, 1) := by decide +kernel
theorem dX2_take_39 : decode cX2_take 39 = .ok (.getfield 21, 3) := by decide +kernel
theorem dX2_take_42 : decode cX2_take 42 = .ok (.iload_n 1, 1) := by decide +kernel
theorem dX2_take_43 : decode cX2_take 43 = .ok (.iconst 1, 1) := by decide +kernel
theorem dX2_take_44 : decode cX2_take 44 = .ok (.bastore, 1) := by decide +kernel
theorem dX2_take_45 : decode cX2_take 45 = .ok (.return_, 1) := by decide +kernel
set_option maxRecDepth 20000 in
theorem ggX2_giveBack_X2_isKept : GoodIn wsX2_giveBack wsX2_isKept := goodIn_r _ [8, 1, 9, 29, 30, 31] (by decide +kernel) (by decide +kernel)
set_option maxRecDepth 20000 in
theorem gX2_giveBack_X2_isKept : GoodIn wsX2_giveBack (wsV RX2 36 RX2 yX2_isKept wsX2_isKept) := goodIn_app (goodIn_of _ (by decide +kernel)) ggX2_giveBack_X2_isKept
set_option maxRecDepth 20000 in
theorem ggX2_giveBack_X6_copyFrom : GoodIn wsX2_giveBack wsX6_copyFrom := goodIn_r _ [14, 15, 16, 17, 18, 19, 20, 21, 22, 23, 24, 25, 26, 27, 28, 33, 34, 35, 36, 37, 38, 39, 40, 41, 42] (by decide +kernel) (by decide +kernel)
set_option maxRecDepth 20000 in
theorem gX2_giveBack_X6_copyFrom : GoodIn wsX2_giveBack (wsV RX2 26 RX6 yX6_copyFrom wsX6_copyFrom) := goodIn_app (goodIn_of _ (by decide +kernel)) ggX2_giveBack_X6_copyFrom
theorem dX2_giveBack_0 : decode cX2_giveBack 0 = .ok (.aload_n 0, 1) := by decide +kernel
theorem dX2_giveBack_1 : decode cX2_giveBack 1 = .ok (.iload_n 1, 1) := by decide +kernel
theorem dX2_giveBack_2 : decode cX2_giveBack 2 = .ok (.invokevirtual 36, 3) := by decide +kernel
theorem dX2_giveBack_5 : decode cX2_giveBack 5 = .ok (.ifCond .eq 23, 3) := by decide +kernel
theorem dX2_giveBack_8 : decode cX2_giveBack 8 = .ok (.aload_n 2, 1) := by decide +kernel
theorem dX2_giveBack_9 : decode cX2_giveBack 9 = .ok (.aload_n 0, 1) := by decide +kernel
theorem dX2_giveBack_10 : decode cX2_giveBack 10 = .ok (.getfield 11, 3) := by decide +kernel
theorem dX2_giveBack_13 : decode cX2_giveBack 13 = .ok (.iload_n 1, 1) := by decide +kernel
theorem dX2_giveBack_14 : decode cX2_giveBack 14 = .ok (.aaload, 1) := by decide +kernel
theorem dX2_giveBack_15 : decode cX2_giveBack 15 = .ok (.invokevirtual 26, 3) := by decide +kernel
theorem dX2_giveBack_18 : decode cX2_giveBack 18 = .ok (.aload_n 3, 1) := by decide +kernel
theorem dX2_giveBack_19 : decode cX2_giveBack 19 = .ok (.aload_n 0, 1) := by decide +kernel
theorem dX2_giveBack_20 : decode cX2_giveBack 20 = .ok (.getfield 17, 3) := by decide +kernel
theorem dX2_giveBack_23 : decode cX2_giveBack 23 = .ok (.iload_n 1, 1) := by decide +kernel
theorem dX2_giveBack_24 : decode cX2_giveBack 24 = .ok (.iaload, 1) := by decide +kernel
theorem dX2_giveBack_25 : decode cX2_giveBack 25 = .ok (.putfield 30, 3) := by decide +kernel
theorem dX2_giveBack_28 : decode cX2_giveBack 28 = .ok (.return_, 1) := by decide +kernel
theorem dX2_forget_0 : decode cX2_forget 0 = .ok (.iconst 0, 1) := by decide +kernel
theorem dX2_forget_1 : decode cX2_forget 1 = .ok (.istore_n 1, 1) := by decide +kernel
theorem dX2_forget_2 : decode cX2_forget 2 = .ok (.iload_n 1, 1) := by decide +kernel
theorem dX2_forget_3 : decode cX2_forget 3 = .ok (.iconst 2, 1) := by decide +kernel
theorem dX2_forget_4 : decode cX2_forget 4 = .ok (.if_icmp .ge 16, 3) := by decide +kernel
theorem dX2_forget_7 : decode cX2_forget 7 = .ok (.aload_n 0, 1) := by decide +kernel
theorem dX2_forget_8 : decode cX2_forget 8 = .ok (.getfield 21, 3) := by decide +kernel
theorem dX2_forget_11 : decode cX2_forget 11 = .ok (.iload_n 1, 1) := by decide +kernel
theorem dX2_forget_12 : decode cX2_forget 12 = .ok (.iconst 0, 1) := by decide +kernel
theorem dX2_forget_13 : decode cX2_forget 13 = .ok (.bastore, 1) := by decide +kernel
theorem dX2_forget_14 : decode cX2_forget 14 = .ok (.iinc 1 1, 3) := by decide +kernel
theorem dX2_forget_17 : decode cX2_forget 17 = .ok (.goto (-15), 3) := by decide +kernel
theorem dX2_forget_20 : decode cX2_forget 20 = .ok (.return_, 1) := by decide +kernel
set_option maxRecDepth 20000 in
theorem ggX3_init_X6_init : GoodIn wsX3_init wsX6_init := goodIn_r _ [9, 10, 2, 3, 11, 12, 13, 14, 18, 19, 20, 21, 22, 23, 24, 25, 26, 27] (by decide +kernel) (by decide +kernel)
set_option maxRecDepth 20000 in
theorem gX3_init_X6_init_n17 : GoodIn wsX3_init (wsX6_init) := ggX3_init_X6_init
theorem dX3_init_0 : decode cX3_init 0 = .ok (.aload_n 0, 1) := by decide +kernel
theorem dX3_init_1 : decode cX3_init 1 = .ok (.invokespecial 3, 3) := by decide +kernel
theorem dX3_init_4 : decode cX3_init 4 = .ok (.aload_n 0, 1) := by decide +kernel
theorem dX3_init_5 : decode cX3_init 5 = .ok (.bipush 16, 2) := by decide +kernel
theorem dX3_init_7 : decode cX3_init 7 = .ok (.anewarray 9, 3) := by decide +kernel
theorem dX3_init_10 : decode cX3_init 10 = .ok (.putfield 11, 3) := by decide +kernel
theorem dX3_init_13 : decode cX3_init 13 = .ok (.iconst 0, 1) := by decide +kernel
theorem dX3_init_14 : decode cX3_init 14 = .ok (.istore_n 1, 1) := by decide +kernel
theorem dX3_init_15 : decode cX3_init 15 = .ok (.iload_n 1, 1) := by decide +kernel
theorem dX3_init_16 : decode cX3_init 16 = .ok (.bipush 16, 2) := by decide +kernel
theorem dX3_init_18 : decode cX3_init 18 = .ok (.if_icmp .ge 22, 3) := by decide +kernel
theorem dX3_init_21 : decode cX3_init 21 = .ok (.aload_n 0, 1) := by decide +kernel
theorem dX3_init_22 : decode cX3_init 22 = .ok (.getfield 11, 3) := by decide +kernel
theorem dX3_init_25 : decode cX3_init 25 = .ok (.iload_n 1, 1) := by decide +kernel
theorem dX3_init_26 : decode cX3_init 26 = .ok (.new 9, 3) := by decide +kernel
theorem dX3_init_29 : decode cX3_init 29 = .ok (.dup, 1) := by decide +kernel
theorem dX3_init_30 : decode cX3_init 30 = .ok (.invokespecial 17, 3) := by decide +kernel
theorem dX3_init_33 : decode cX3_init 33 = .ok (.aastore, 1) := by decide +kernel
theorem dX3_init_34 : decode cX3_init 34 = .ok (.iinc 1 1, 3) := by decide +kernel
theorem dX3_init_37 : decode cX3_init 37 = .ok (.goto (-22), 3) := by decide +kernel
theorem dX3_init_40 : decode cX3_init 40 = .ok (.return_, 1) := by decide +kernel
set_option maxRecDepth 20000 in
theorem ggX3_remember_X6_copyFrom : GoodIn wsX3_remember wsX6_copyFrom := goodIn_r _ [12, 13, 14, 15, 16, 17, 18, 19, 20, 21, 22, 23, 24, 25, 26, 30, 31, 32, 33, 34, 35, 36, 37, 38, 39] (by decide +kernel) (by decide +kernel)
set_option maxRecDepth 20000 in
theorem gX3_remember_X6_copyFrom : GoodIn wsX3_remember (wsV RX3 22 RX6 yX6_copyFrom wsX6_copyFrom) := goodIn_app (goodIn_of _ (by decide +kernel)) ggX3_remember_X6_copyFrom
theorem dX3_remember_0 : decode cX3_remember 0 = .ok (.aload_n 0, 1) := by decide +kernel
theorem dX3_remember_1 : decode cX3_remember 1 = .ok (.getfield 11, 3) := by decide +kernel
theorem dX3_remember_4 : decode cX3_remember 4 = .ok (.aload_n 0, 1) := by decide +kernel
theorem dX3_remember_5 : decode cX3_remember 5 = .ok (.getfield 18, 3) := by decide +kernel
theorem dX3_remember_8 : decode cX3_remember 8 = .ok (.aaload, 1) := by decide +kernel
theorem dX3_remember_9 : decode cX3_remember 9 = .ok (.astore_n 2, 1) := by decide +kernel
theorem dX3_remember_10 : decode cX3_remember 10 = .ok (.aload_n 2, 1) := by decide +kernel
theorem dX3_remember_11 : decode cX3_remember 11 = .ok (.ifnull 36, 3) := by decide +kernel
theorem dX3_remember_14 : decode cX3_remember 14 = .ok (.aload_n 2, 1) := by decide +kernel
theorem dX3_remember_15 : decode cX3_remember 15 = .ok (.aload_n 1, 1) := by decide +kernel
theorem dX3_remember_16 : decode cX3_remember 16 = .ok (.invokevirtual 22, 3) := by decide +kernel
theorem dX3_remember_19 : decode cX3_remember 19 = .ok (.aload_n 0, 1) := by decide +kernel
theorem dX3_remember_20 : decode cX3_remember 20 = .ok (.aload_n 0, 1) := by decide +kernel
theorem dX3_remember_21 : decode cX3_remember 21 = .ok (.getfield 18, 3) := by decide +kernel
theorem dX3_remember_24 : decode cX3_remember 24 = .ok (.iconst 1, 1) := by decide +kernel
theorem dX3_remember_25 : decode cX3_remember 25 = .ok (.iadd, 1) := by decide +kernel
theorem dX3_remember_26 : decode cX3_remember 26 = .ok (.bipush 16, 2) := by decide +kernel
theorem dX3_remember_28 : decode cX3_remember 28 = .ok (.irem, 1) := by decide +kernel
theorem dX3_remember_29 : decode cX3_remember 29 = .ok (.putfield 18, 3) := by decide +kernel
theorem dX3_remember_32 : decode cX3_remember 32 = .ok (.aload_n 0, 1) := by decide +kernel
theorem dX3_remember_33 : decode cX3_remember 33 = .ok (.aload_n 0, 1) := by decide +kernel
theorem dX3_remember_34 : decode cX3_remember 34 = .ok (.getfield 26, 3) := by decide +kernel
theorem dX3_remember_37 : decode cX3_remember 37 = .ok (.iconst 1, 1) := by decide +kernel
theorem dX3_remember_38 : decode cX3_remember 38 = .ok (.iadd, 1) := by decide +kernel
theorem dX3_remember_39 : decode cX3_remember 39 = .ok (.bipush 16, 2) := by decide +kernel
theorem dX3_remember_41 : decode cX3_remember 41 = .ok (.invokestatic 29, 3) := by decide +kernel
theorem dX3_remember_44 : decode cX3_remember 44 = .ok (.putfield 26, 3) := by decide +kernel
theorem dX3_remember_47 : decode cX3_remember 47 = .ok (.return_, 1) := by decide +kernel
set_option maxRecDepth 20000 in
theorem ggX3_takeBack_X6_copyFrom : GoodIn wsX3_takeBack wsX6_copyFrom := goodIn_r _ [8, 9, 10, 11, 12, 13, 14, 15, 16, 17, 18, 19, 20, 21, 22, 26, 27, 28, 29, 30, 31, 32, 33, 34, 35] (by decide +kernel) (by decide +kernel)
set_option maxRecDepth 20000 in
theorem gX3_takeBack_X6_copyFrom : GoodIn wsX3_takeBack (wsV RX3 22 RX6 yX6_copyFrom wsX6_copyFrom) := goodIn_app (goodIn_of _ (by decide +kernel)) ggX3_takeBack_X6_copyFrom
theorem dX3_takeBack_0 : decode cX3_takeBack 0 = .ok (.aload_n 0, 1) := by decide +kernel
theorem dX3_takeBack_1 : decode cX3_takeBack 1 = .ok (.getfield 18, 3) := by decide +kernel
theorem dX3_takeBack_4 : decode cX3_takeBack 4 = .ok (.bipush 16, 2) := by decide +kernel
theorem dX3_takeBack_6 : decode cX3_takeBack 6 = .ok (.iadd, 1) := by decide +kernel
theorem dX3_takeBack_7 : decode cX3_takeBack 7 = .ok (.iconst 1, 1) := by decide +kernel
theorem dX3_takeBack_8 : decode cX3_takeBack 8 = .ok (.isub, 1) := by decide +kernel
theorem dX3_takeBack_9 : decode cX3_takeBack 9 = .ok (.bipush 16, 2) := by decide +kernel
theorem dX3_takeBack_11 : decode cX3_takeBack 11 = .ok (.irem, 1) := by decide +kernel
theorem dX3_takeBack_12 : decode cX3_takeBack 12 = .ok (.istore_n 2, 1) := by decide +kernel
theorem dX3_takeBack_13 : decode cX3_takeBack 13 = .ok (.aload_n 0, 1) := by decide +kernel
theorem dX3_takeBack_14 : decode cX3_takeBack 14 = .ok (.getfield 11, 3) := by decide +kernel
theorem dX3_takeBack_17 : decode cX3_takeBack 17 = .ok (.iload_n 2, 1) := by decide +kernel
theorem dX3_takeBack_18 : decode cX3_takeBack 18 = .ok (.aaload, 1) := by decide +kernel
theorem dX3_takeBack_19 : decode cX3_takeBack 19 = .ok (.astore_n 3, 1) := by decide +kernel
theorem dX3_takeBack_20 : decode cX3_takeBack 20 = .ok (.aload_n 0, 1) := by decide +kernel
theorem dX3_takeBack_21 : decode cX3_takeBack 21 = .ok (.getfield 26, 3) := by decide +kernel
theorem dX3_takeBack_24 : decode cX3_takeBack 24 = .ok (.ifCond .le 27, 3) := by decide +kernel
theorem dX3_takeBack_27 : decode cX3_takeBack 27 = .ok (.aload_n 3, 1) := by decide +kernel
theorem dX3_takeBack_28 : decode cX3_takeBack 28 = .ok (.ifnull 23, 3) := by decide +kernel
theorem dX3_takeBack_31 : decode cX3_takeBack 31 = .ok (.aload_n 1, 1) := by decide +kernel
theorem dX3_takeBack_32 : decode cX3_takeBack 32 = .ok (.aload_n 3, 1) := by decide +kernel
theorem dX3_takeBack_33 : decode cX3_takeBack 33 = .ok (.invokevirtual 22, 3) := by decide +kernel
theorem dX3_takeBack_36 : decode cX3_takeBack 36 = .ok (.aload_n 0, 1) := by decide +kernel
theorem dX3_takeBack_37 : decode cX3_takeBack 37 = .ok (.iload_n 2, 1) := by decide +kernel
theorem dX3_takeBack_38 : decode cX3_takeBack 38 = .ok (.putfield 18, 3) := by decide +kernel
theorem dX3_takeBack_41 : decode cX3_takeBack 41 = .ok (.aload_n 0, 1) := by decide +kernel
theorem dX3_takeBack_42 : decode cX3_takeBack 42 = .ok (.dup, 1) := by decide +kernel
theorem dX3_takeBack_43 : decode cX3_takeBack 43 = .ok (.getfield 26, 3) := by decide +kernel
theorem dX3_takeBack_46 : decode cX3_takeBack 46 = .ok (.iconst 1, 1) := by decide +kernel
theorem dX3_takeBack_47 : decode cX3_takeBack 47 = .ok (.isub, 1) := by decide +kernel
theorem dX3_takeBack_48 : decode cX3_takeBack 48 = .ok (.putfield 26, 3) := by decide +kernel
theorem dX3_takeBack_51 : decode cX3_takeBack 51 = .ok (.return_, 1) := by decide +kernel
theorem dX3_forget_0 : decode cX3_forget 0 = .ok (.aload_n 0, 1) := by decide +kernel
theorem dX3_forget_1 : decode cX3_forget 1 = .ok (.iconst 0, 1) := by decide +kernel
theorem dX3_forget_2 : decode cX3_forget 2 = .ok (.putfield 26, 3) := by decide +kernel
theorem dX3_forget_5 : decode cX3_forget 5 = .ok (.return_, 1) := by decide +kernel
theorem dX4_init_0 : decode cX4_init 0 = .ok (.aload_n 0, 1) := by decide +kernel
theorem dX4_init_1 : decode cX4_init 1 = .ok (.invokespecial 3, 3) := by decide +kernel
theorem dX4_init_4 : decode cX4_init 4 = .ok (.aload_n 0, 1) := by decide +kernel
theorem dX4_init_5 : decode cX4_init 5 = .ok (.sipush 240, 3) := by decide +kernel
theorem dX4_init_8 : decode cX4_init 8 = .ok (.newarray .int, 2) := by decide +kernel
theorem dX4_init_10 : decode cX4_init 10 = .ok (.putfield 9, 3) := by decide +kernel
theorem dX4_init_13 : decode cX4_init 13 = .ok (.aload_n 0, 1) := by decide +kernel
theorem dX4_init_14 : decode cX4_init 14 = .ok (.iconst (-1), 1) := by decide +kernel
theorem dX4_init_15 : decode cX4_init 15 = .ok (.putfield 15, 3) := by decide +kernel
theorem dX4_init_18 : decode cX4_init 18 = .ok (.return_, 1) := by decide +kernel
theorem dX4_add_0 : decode cX4_add 0 = .ok (.aload_n 0, 1) := by decide +kernel
theorem dX4_add_1 : decode cX4_add 1 = .ok (.getfield 19, 3) := by decide +kernel
theorem dX4_add_4 : decode cX4_add 4 = .ok (.aload_n 0, 1) := by decide +kernel
theorem dX4_add_5 : decode cX4_add 5 = .ok (.getfield 9, 3) := by decide +kernel
theorem dX4_add_8 : decode cX4_add 8 = .ok (.arraylength, 1) := by decide +kernel
theorem dX4_add_9 : decode cX4_add 9 = .ok (.if_icmp .lt 5, 3) := by decide +kernel
theorem dX4_add_12 : decode cX4_add 12 = .ok (.iconst 0, 1) := by decide +kernel
theorem dX4_add_13 : decode cX4_add 13 = .ok (.ireturn, 1) := by decide +kernel
theorem dX4_add_14 : decode cX4_add 14 = .ok (.aload_n 0, 1) := by decide +kernel
theorem dX4_add_15 : decode cX4_add 15 = .ok (.getfield 9, 3) := by decide +kernel
theorem dX4_add_18 : decode cX4_add 18 = .ok (.aload_n 0, 1) := by decide +kernel
theorem dX4_add_19 : decode cX4_add 19 = .ok (.getfield 19, 3) := by decide +kernel
theorem dX4_add_22 : decode cX4_add 22 = .ok (.iload_n 1, 1) := by decide +kernel
theorem dX4_add_23 : decode cX4_add 23 = .ok (.iastore, 1) := by decide +kernel
theorem dX4_add_24 : decode cX4_add 24 = .ok (.aload_n 0, 1) := by decide +kernel
theorem dX4_add_25 : decode cX4_add 25 = .ok (.dup, 1) := by decide +kernel
theorem dX4_add_26 : decode cX4_add 26 = .ok (.getfield 19, 3) := by decide +kernel
theorem dX4_add_29 : decode cX4_add 29 = .ok (.iconst 1, 1) := by decide +kernel
theorem dX4_add_30 : decode cX4_add 30 = .ok (.iadd, 1) := by decide +kernel
theorem dX4_add_31 : decode cX4_add 31 = .ok (.putfield 19, 3) := by decide +kernel
theorem dX4_add_34 : decode cX4_add 34 = .ok (.iconst 1, 1) := by decide +kernel
theorem dX4_add_35 : decode cX4_add 35 = .ok (.ireturn, 1) := by decide +kernel
set_option maxRecDepth 20000 in
theorem ggX4_readInto_X7_clear : GoodIn wsX4_readInto wsX7_clear := goodIn_r _ [9, 10, 11, 12, 13, 14, 15, 105, 106, 107, 108, 109, 110, 111, 112, 113, 114, 115, 116] (by decide +kernel) (by decide +kernel)
set_option maxRecDepth 20000 in
theorem gX4_readInto_X7_clear : GoodIn wsX4_readInto (wsV RX4 22 RX7 yX7_clear wsX7_clear) := goodIn_app (goodIn_of _ (by decide +kernel)) ggX4_readInto_X7_clear
set_option maxRecDepth 20000 in
theorem ggX4_readInto_X4_skipBlanks : GoodIn wsX4_readInto wsX4_skipBlanks := goodIn_r _ [20, 1, 4, 21, 22, 23, 19, 24, 25, 99, 100, 101, 102, 103, 104] (by decide +kernel) (by decide +kernel)
set_option maxRecDepth 20000 in
theorem gX4_readInto_X4_skipBlanks : GoodIn wsX4_readInto (wsV RX4 33 RX4 yX4_skipBlanks wsX4_skipBlanks) := goodIn_app (goodIn_of _ (by decide +kernel)) ggX4_readInto_X4_skipBlanks
set_option maxRecDepth 20000 in
theorem ggX4_readInto_X4_readClause : GoodIn wsX4_readInto wsX4_readClause := goodIn_r _ [29, 1, 21, 22, 23, 19, 24, 4, 25, 30, 31, 32, 33, 34, 35, 36, 37, 38, 39, 40, 2, 3, 41, 42, 43, 44, 45, 46, 47, 48, 49, 50, 51, 16, 17, 18, 20, 52, 53, 54, 55, 56, 57, 58, 59, 60, 61, 62, 63, 64, 65, 8, 66, 13, 67, 68, 69, 70, 71, 72, 73, 74, 75, 14, 76, 77, 78, 79, 80, 81, 82, 83, 84, 85, 86, 87, 88, 89, 90, 91, 92, 93, 94, 95, 96, 97, 98, 15, 99, 100, 101, 102, 103, 104, 105, 106, 107, 108, 109, 110, 111, 112, 113, 114, 115, 116] (by decide +kernel) (by decide +kernel)
set_option maxRecDepth 20000 in
theorem gX4_readInto_X4_readClause : GoodIn wsX4_readInto (wsV RX4 36 RX4 yX4_readClause wsX4_readClause) := goodIn_app (goodIn_of _ (by decide +kernel)) ggX4_readInto_X4_readClause
theorem dX4_readInto_0 : decode cX4_readInto 0 = .ok (.aload_n 1, 1) := by decide +kernel
theorem dX4_readInto_1 : decode cX4_readInto 1 = .ok (.invokevirtual 22, 3) := by decide +kernel
theorem dX4_readInto_4 : decode cX4_readInto 4 = .ok (.aload_n 0, 1) := by decide +kernel
theorem dX4_readInto_5 : decode cX4_readInto 5 = .ok (.iconst 0, 1) := by decide +kernel
theorem dX4_readInto_6 : decode cX4_readInto 6 = .ok (.putfield 27, 3) := by decide +kernel
theorem dX4_readInto_9 : decode cX4_readInto 9 = .ok (.aload_n 0, 1) := by decide +kernel
theorem dX4_readInto_10 : decode cX4_readInto 10 = .ok (.iconst 0, 1) := by decide +kernel
theorem dX4_readInto_11 : decode cX4_readInto 11 = .ok (.putfield 30, 3) := by decide +kernel
theorem dX4_readInto_14 : decode cX4_readInto 14 = .ok (.aload_n 0, 1) := by decide +kernel
theorem dX4_readInto_15 : decode cX4_readInto 15 = .ok (.iconst (-1), 1) := by decide +kernel
theorem dX4_readInto_16 : decode cX4_readInto 16 = .ok (.putfield 15, 3) := by decide +kernel
theorem dX4_readInto_19 : decode cX4_readInto 19 = .ok (.aload_n 0, 1) := by decide +kernel
theorem dX4_readInto_20 : decode cX4_readInto 20 = .ok (.invokevirtual 33, 3) := by decide +kernel
theorem dX4_readInto_23 : decode cX4_readInto 23 = .ok (.iconst 0, 1) := by decide +kernel
theorem dX4_readInto_24 : decode cX4_readInto 24 = .ok (.istore_n 2, 1) := by decide +kernel
theorem dX4_readInto_25 : decode cX4_readInto 25 = .ok (.iload_n 2, 1) := by decide +kernel
theorem dX4_readInto_26 : decode cX4_readInto 26 = .ok (.sipush 240, 3) := by decide +kernel
theorem dX4_readInto_29 : decode cX4_readInto 29 = .ok (.if_icmp .ge 36, 3) := by decide +kernel
theorem dX4_readInto_32 : decode cX4_readInto 32 = .ok (.aload_n 0, 1) := by decide +kernel
theorem dX4_readInto_33 : decode cX4_readInto 33 = .ok (.getfield 30, 3) := by decide +kernel
theorem dX4_readInto_36 : decode cX4_readInto 36 = .ok (.ifCond .ne 29, 3) := by decide +kernel
theorem dX4_readInto_39 : decode cX4_readInto 39 = .ok (.aload_n 0, 1) := by decide +kernel
theorem dX4_readInto_40 : decode cX4_readInto 40 = .ok (.getfield 27, 3) := by decide +kernel
theorem dX4_readInto_43 : decode cX4_readInto 43 = .ok (.aload_n 0, 1) := by decide +kernel
theorem dX4_readInto_44 : decode cX4_readInto 44 = .ok (.getfield 19, 3) := by decide +kernel
theorem dX4_readInto_47 : decode cX4_readInto 47 = .ok (.if_icmp .ge 18, 3) := by decide +kernel
theorem dX4_readInto_50 : decode cX4_readInto 50 = .ok (.aload_n 0, 1) := by decide +kernel
theorem dX4_readInto_51 : decode cX4_readInto 51 = .ok (.aload_n 1, 1) := by decide +kernel
theorem dX4_readInto_52 : decode cX4_readInto 52 = .ok (.invokevirtual 36, 3) := by decide +kernel
theorem dX4_readInto_55 : decode cX4_readInto 55 = .ok (.aload_n 0, 1) := by decide +kernel
theorem dX4_readInto_56 : decode cX4_readInto 56 = .ok (.invokevirtual 33, 3) := by decide +kernel
theorem dX4_readInto_59 : decode cX4_readInto 59 = .ok (.iinc 2 1, 3) := by decide +kernel
theorem dX4_readInto_62 : decode cX4_readInto 62 = .ok (.goto (-37), 3) := by decide +kernel
theorem dX4_readInto_65 : decode cX4_readInto 65 = .ok (.aload_n 0, 1) := by decide +kernel
theorem dX4_readInto_66 : decode cX4_readInto 66 = .ok (.iconst 0, 1) := by decide +kernel
theorem dX4_readInto_67 : decode cX4_readInto 67 = .ok (.putfield 19, 3) := by decide +kernel
theorem dX4_readInto_70 : decode cX4_readInto 70 = .ok (.aload_n 0, 1) := by decide +kernel
theorem dX4_readInto_71 : decode cX4_readInto 71 = .ok (.getfield 30, 3) := by decide +kernel
theorem dX4_readInto_74 : decode cX4_readInto 74 = .ok (.ireturn, 1) := by decide +kernel
set_option maxRecDepth 20000 in
theorem ggX4_readClause_X4_letterAt : GoodIn wsX4_readClause wsX4_letterAt := goodIn_r _ [6, 7, 8, 88, 89, 90, 91, 92, 93] (by decide +kernel) (by decide +kernel)
set_option maxRecDepth 20000 in
theorem gX4_readClause_X4_letterAt : GoodIn wsX4_readClause (wsV RX4 40 RX4 yX4_letterAt wsX4_letterAt) := goodIn_app (goodIn_of _ (by decide +kernel)) ggX4_readClause_X4_letterAt
set_option maxRecDepth 20000 in
theorem ggX4_readClause_X4_faultOfWord : GoodIn wsX4_readClause wsX4_faultOfWord := goodIn_r _ [11, 12, 13, 14, 15, 94, 95, 96, 97, 98, 99, 100, 101, 102, 103, 104, 105] (by decide +kernel) (by decide +kernel)
set_option maxRecDepth 20000 in
theorem gX4_readClause_X4_faultOfWord : GoodIn wsX4_readClause (va_wsS RX4 44 yX4_faultOfWord wsX4_faultOfWord) := goodIn_app (goodIn_of _ (by decide +kernel)) ggX4_readClause_X4_faultOfWord
set_option maxRecDepth 20000 in
theorem ggX4_readClause_X4_blame : GoodIn wsX4_readClause wsX4_blame := goodIn_r _ [19, 20, 21, 88, 89, 90, 91, 92, 93] (by decide +kernel) (by decide +kernel)
set_option maxRecDepth 20000 in
theorem gX4_readClause_X4_blame : GoodIn wsX4_readClause (wsV RX4 48 RX4 yX4_blame wsX4_blame) := goodIn_app (goodIn_of _ (by decide +kernel)) ggX4_readClause_X4_blame
set_option maxRecDepth 20000 in
theorem ggX4_readClause_X4_readWell : GoodIn wsX4_readClause wsX4_readWell := goodIn_r _ [25, 12, 26, 27, 28, 29, 30, 5, 31, 20, 1, 32, 7, 33, 34, 35, 36, 2, 3, 4, 6, 8, 37, 38, 39, 16, 17, 18, 19, 21, 40, 41, 42, 43, 94, 95, 96, 97, 98, 99, 100, 101, 102, 103, 104, 105, 88, 89, 90, 91, 92, 93] (by decide +kernel) (by decide +kernel)
set_option maxRecDepth 20000 in
theorem gX4_readClause_X4_readWell : GoodIn wsX4_readClause (wsV RX4 52 RX4 yX4_readWell wsX4_readWell) := goodIn_app (goodIn_of _ (by decide +kernel)) ggX4_readClause_X4_readWell
set_option maxRecDepth 20000 in
theorem ggX4_readClause_X4_readPerson : GoodIn wsX4_readClause wsX4_readPerson := goodIn_r _ [47, 28, 29, 30, 5, 31, 20, 1, 32, 7, 33, 34, 35, 36, 2, 3, 4, 6, 8, 37, 38, 39, 16, 17, 18, 19, 21, 40, 41, 42, 43, 48, 49, 50, 51, 52, 53, 54, 88, 89, 90, 91, 92, 93, 94, 95, 96, 97, 98, 99, 100, 101, 102, 103, 104, 105] (by decide +kernel) (by decide +kernel)
set_option maxRecDepth 20000 in
theorem gX4_readClause_X4_readPerson : GoodIn wsX4_readClause (wsV RX4 55 RX4 yX4_readPerson wsX4_readPerson) := goodIn_app (goodIn_of _ (by decide +kernel)) ggX4_readClause_X4_readPerson
set_option maxRecDepth 20000 in
theorem ggX4_readClause_X4_readSaying : GoodIn wsX4_readClause wsX4_readSaying := goodIn_r _ [58, 13, 28, 29, 30, 5, 31, 20, 1, 32, 7, 33, 34, 35, 36, 2, 3, 4, 6, 8, 37, 38, 39, 16, 17, 18, 19, 21, 40, 41, 42, 43, 59, 60, 61, 51, 62, 63, 64, 65, 66, 67, 94, 95, 96, 97, 98, 99, 100, 101, 102, 103, 104, 105, 88, 89, 90, 91, 92, 93] (by decide +kernel) (by decide +kernel)
set_option maxRecDepth 20000 in
theorem gX4_readClause_X4_readSaying : GoodIn wsX4_readClause (wsV RX4 58 RX4 yX4_readSaying wsX4_readSaying) := goodIn_app (goodIn_of _ (by decide +kernel)) ggX4_readClause_X4_readSaying
set_option maxRecDepth 20000 in
theorem ggX4_readClause_X4_readLink : GoodIn wsX4_readClause wsX4_readLink := goodIn_r _ [71, 14, 20, 32, 28, 29, 30, 5, 31, 1, 7, 33, 34, 35, 36, 2, 3, 4, 6, 8, 37, 38, 39, 16, 17, 18, 19, 21, 72, 73, 74, 51, 75, 67, 76, 77, 78, 79, 63, 80, 81, 82, 40, 41, 42, 43, 83, 84, 85, 86, 87, 94, 95, 96, 97, 98, 99, 100, 101, 102, 103, 104, 105, 88, 89, 90, 91, 92, 93] (by decide +kernel) (by decide +kernel)
set_option maxRecDepth 20000 in
theorem gX4_readClause_X4_readLink : GoodIn wsX4_readClause (wsV RX4 61 RX4 yX4_readLink wsX4_readLink) := goodIn_app (goodIn_of _ (by decide +kernel)) ggX4_readClause_X4_readLink
theorem dX4_readClause_0 : decode cX4_readClause 0 = .ok (.aload_n 0, 1) := by decide +kernel
theorem dX4_readClause_1 : decode cX4_readClause 1 = .ok (.aload_n 0, 1) := by decide +kernel
theorem dX4_readClause_2 : decode cX4_readClause 2 = .ok (.getfield 27, 3) := by decide +kernel
theorem dX4_readClause_5 : decode cX4_readClause 5 = .ok (.invokevirtual 40, 3) := by decide +kernel
theorem dX4_readClause_8 : decode cX4_readClause 8 = .ok (.istore_n 2, 1) := by decide +kernel
theorem dX4_readClause_9 : decode cX4_readClause 9 = .ok (.aload_n 1, 1) := by decide +kernel
theorem dX4_readClause_10 : decode cX4_readClause 10 = .ok (.iload_n 2, 1) := by decide +kernel
theorem dX4_readClause_11 : decode cX4_readClause 11 = .ok (.invokestatic 44, 3) := by decide +kernel
theorem dX4_readClause_14 : decode cX4_readClause 14 = .ok (.istore_n 3, 1) := by decide +kernel
theorem dX4_readClause_15 : decode cX4_readClause 15 = .ok (.iload_n 3, 1) := by decide +kernel
theorem dX4_readClause_16 : decode cX4_readClause 16 = .ok (.ifCond .eq 13, 3) := by decide +kernel
theorem dX4_readClause_19 : decode cX4_readClause 19 = .ok (.aload_n 0, 1) := by decide +kernel
theorem dX4_readClause_20 : decode cX4_readClause 20 = .ok (.iload_n 3, 1) := by decide +kernel
theorem dX4_readClause_21 : decode cX4_readClause 21 = .ok (.aload_n 0, 1) := by decide +kernel
theorem dX4_readClause_22 : decode cX4_readClause 22 = .ok (.getfield 27, 3) := by decide +kernel
theorem dX4_readClause_25 : decode cX4_readClause 25 = .ok (.invokevirtual 48, 3) := by decide +kernel
theorem dX4_readClause_28 : decode cX4_readClause 28 = .ok (.return_, 1) := by decide +kernel
theorem dX4_readClause_29 : decode cX4_readClause 29 = .ok (.aload_n 0, 1) := by decide +kernel
theorem dX4_readClause_30 : decode cX4_readClause 30 = .ok (.dup, 1) := by decide +kernel
theorem dX4_readClause_31 : decode cX4_readClause 31 = .ok (.getfield 27, 3) := by decide +kernel
theorem dX4_readClause_34 : decode cX4_readClause 34 = .ok (.iconst 1, 1) := by decide +kernel
theorem dX4_readClause_35 : decode cX4_readClause 35 = .ok (.iadd, 1) := by decide +kernel
theorem dX4_readClause_36 : decode cX4_readClause 36 = .ok (.putfield 27, 3) := by decide +kernel
theorem dX4_readClause_39 : decode cX4_readClause 39 = .ok (.iload_n 2, 1) := by decide +kernel
theorem dX4_readClause_40 : decode cX4_readClause 40 = .ok (.lookupswitch 60 #[(112, 44), (115, 52), (121, 36)], 36) := by decide +kernel
theorem dX4_readClause_76 : decode cX4_readClause 76 = .ok (.aload_n 0, 1) := by decide +kernel
theorem dX4_readClause_77 : decode cX4_readClause 77 = .ok (.aload_n 1, 1) := by decide +kernel
theorem dX4_readClause_78 : decode cX4_readClause 78 = .ok (.invokevirtual 52, 3) := by decide +kernel
theorem dX4_readClause_81 : decode cX4_readClause 81 = .ok (.goto 24, 3) := by decide +kernel
theorem dX4_readClause_84 : decode cX4_readClause 84 = .ok (.aload_n 0, 1) := by decide +kernel
theorem dX4_readClause_85 : decode cX4_readClause 85 = .ok (.aload_n 1, 1) := by decide +kernel
theorem dX4_readClause_86 : decode cX4_readClause 86 = .ok (.invokevirtual 55, 3) := by decide +kernel
theorem dX4_readClause_89 : decode cX4_readClause 89 = .ok (.goto 16, 3) := by decide +kernel
theorem dX4_readClause_92 : decode cX4_readClause 92 = .ok (.aload_n 0, 1) := by decide +kernel
theorem dX4_readClause_93 : decode cX4_readClause 93 = .ok (.aload_n 1, 1) := by decide +kernel
theorem dX4_readClause_94 : decode cX4_readClause 94 = .ok (.invokevirtual 58, 3) := by decide +kernel
theorem dX4_readClause_97 : decode cX4_readClause 97 = .ok (.goto 8, 3) := by decide +kernel
theorem dX4_readClause_100 : decode cX4_readClause 100 = .ok (.aload_n 0, 1) := by decide +kernel
theorem dX4_readClause_101 : decode cX4_readClause 101 = .ok (.aload_n 1, 1) := by decide +kernel
theorem dX4_readClause_102 : decode cX4_readClause 102 = .ok (.invokevirtual 61, 3) := by decide +kernel
theorem dX4_readClause_105 : decode cX4_readClause 105 = .ok (.return_, 1) := by decide +kernel
theorem dX4_faultOfWord_0 : decode cX4_faultOfWord 0 = .ok (.iload_n 1, 1) := by decide +kernel
theorem dX4_faultOfWord_1 : decode cX4_faultOfWord 1 = .ok (.bipush 121, 2) := by decide +kernel
theorem dX4_faultOfWord_3 : decode cX4_faultOfWord 3 = .ok (.if_icmp .eq 21, 3) := by decide +kernel
theorem dX4_faultOfWord_6 : decode cX4_faultOfWord 6 = .ok (.iload_n 1, 1) := by decide +kernel
theorem dX4_faultOfWord_7 : decode cX4_faultOfWord 7 = .ok (.bipush 112, 2) := by decide +kernel
theorem dX4_faultOfWord_9 : decode cX4_faultOfWord 9 = .ok (.if_icmp .eq 15, 3) := by decide +kernel
theorem dX4_faultOfWord_12 : decode cX4_faultOfWord 12 = .ok (.iload_n 1, 1) := by decide +kernel
theorem dX4_faultOfWord_13 : decode cX4_faultOfWord 13 = .ok (.bipush 115, 2) := by decide +kernel
theorem dX4_faultOfWord_15 : decode cX4_faultOfWord 15 = .ok (.if_icmp .eq 9, 3) := by decide +kernel
theorem dX4_faultOfWord_18 : decode cX4_faultOfWord 18 = .ok (.iload_n 1, 1) := by decide +kernel
theorem dX4_faultOfWord_19 : decode cX4_faultOfWord 19 = .ok (.bipush 102, 2) := by decide +kernel
theorem dX4_faultOfWord_21 : decode cX4_faultOfWord 21 = .ok (.if_icmp .ne 7, 3) := by decide +kernel
theorem dX4_faultOfWord_24 : decode cX4_faultOfWord 24 = .ok (.iconst 1, 1) := by decide +kernel
theorem dX4_faultOfWord_25 : decode cX4_faultOfWord 25 = .ok (.goto 4, 3) := by decide +kernel
theorem dX4_faultOfWord_28 : decode cX4_faultOfWord 28 = .ok (.iconst 0, 1) := by decide +kernel
theorem dX4_faultOfWord_29 : decode cX4_faultOfWord 29 = .ok (.istore_n 2, 1) := by decide +kernel
theorem dX4_faultOfWord_30 : decode cX4_faultOfWord 30 = .ok (.iload_n 2, 1) := by decide +kernel
theorem dX4_faultOfWord_31 : decode cX4_faultOfWord 31 = .ok (.ifCond .eq 16, 3) := by decide +kernel
theorem dX4_faultOfWord_34 : decode cX4_faultOfWord 34 = .ok (.aload_n 0, 1) := by decide +kernel
theorem dX4_faultOfWord_35 : decode cX4_faultOfWord 35 = .ok (.getfield 64, 3) := by decide +kernel
theorem dX4_faultOfWord_38 : decode cX4_faultOfWord 38 = .ok (.ifCond .ne 11, 3) := by decide +kernel
theorem dX4_faultOfWord_41 : decode cX4_faultOfWord 41 = .ok (.iload_n 1, 1) := by decide +kernel
theorem dX4_faultOfWord_42 : decode cX4_faultOfWord 42 = .ok (.bipush 121, 2) := by decide +kernel
theorem dX4_faultOfWord_44 : decode cX4_faultOfWord 44 = .ok (.if_icmp .eq 5, 3) := by decide +kernel
theorem dX4_faultOfWord_47 : decode cX4_faultOfWord 47 = .ok (.iconst 1, 1) := by decide +kernel
theorem dX4_faultOfWord_48 : decode cX4_faultOfWord 48 = .ok (.ireturn, 1) := by decide +kernel
theorem dX4_faultOfWord_49 : decode cX4_faultOfWord 49 = .ok (.iload_n 1, 1) := by decide +kernel
theorem dX4_faultOfWord_50 : decode cX4_faultOfWord 50 = .ok (.bipush 121, 2) := by decide +kernel
theorem dX4_faultOfWord_52 : decode cX4_faultOfWord 52 = .ok (.if_icmp .ne 10, 3) := by decide +kernel
theorem dX4_faultOfWord_55 : decode cX4_faultOfWord 55 = .ok (.aload_n 0, 1) := by decide +kernel
theorem dX4_faultOfWord_56 : decode cX4_faultOfWord 56 = .ok (.getfield 64, 3) := by decide +kernel
theorem dX4_faultOfWord_59 : decode cX4_faultOfWord 59 = .ok (.ifCond .ne 47, 3) := by decide +kernel
theorem dX4_faultOfWord_62 : decode cX4_faultOfWord 62 = .ok (.iload_n 1, 1) := by decide +kernel
theorem dX4_faultOfWord_63 : decode cX4_faultOfWord 63 = .ok (.bipush 112, 2) := by decide +kernel
theorem dX4_faultOfWord_65 : decode cX4_faultOfWord 65 = .ok (.if_icmp .ne 11, 3) := by decide +kernel
theorem dX4_faultOfWord_68 : decode cX4_faultOfWord 68 = .ok (.aload_n 0, 1) := by decide +kernel
theorem dX4_faultOfWord_69 : decode cX4_faultOfWord 69 = .ok (.getfield 68, 3) := by decide +kernel
theorem dX4_faultOfWord_72 : decode cX4_faultOfWord 72 = .ok (.iconst 5, 1) := by decide +kernel
theorem dX4_faultOfWord_73 : decode cX4_faultOfWord 73 = .ok (.if_icmp .ge 33, 3) := by decide +kernel
theorem dX4_faultOfWord_76 : decode cX4_faultOfWord 76 = .ok (.iload_n 1, 1) := by decide +kernel
theorem dX4_faultOfWord_77 : decode cX4_faultOfWord 77 = .ok (.bipush 115, 2) := by decide +kernel
theorem dX4_faultOfWord_79 : decode cX4_faultOfWord 79 = .ok (.if_icmp .ne 12, 3) := by decide +kernel
theorem dX4_faultOfWord_82 : decode cX4_faultOfWord 82 = .ok (.aload_n 0, 1) := by decide +kernel
theorem dX4_faultOfWord_83 : decode cX4_faultOfWord 83 = .ok (.getfield 71, 3) := by decide +kernel
theorem dX4_faultOfWord_86 : decode cX4_faultOfWord 86 = .ok (.bipush 10, 2) := by decide +kernel
theorem dX4_faultOfWord_88 : decode cX4_faultOfWord 88 = .ok (.if_icmp .ge 18, 3) := by decide +kernel
theorem dX4_faultOfWord_91 : decode cX4_faultOfWord 91 = .ok (.iload_n 1, 1) := by decide +kernel
theorem dX4_faultOfWord_92 : decode cX4_faultOfWord 92 = .ok (.bipush 102, 2) := by decide +kernel
theorem dX4_faultOfWord_94 : decode cX4_faultOfWord 94 = .ok (.if_icmp .ne 16, 3) := by decide +kernel
theorem dX4_faultOfWord_97 : decode cX4_faultOfWord 97 = .ok (.aload_n 0, 1) := by decide +kernel
theorem dX4_faultOfWord_98 : decode cX4_faultOfWord 98 = .ok (.getfield 74, 3) := by decide +kernel
theorem dX4_faultOfWord_101 : decode cX4_faultOfWord 101 = .ok (.bipush 15, 2) := by decide +kernel
theorem dX4_faultOfWord_103 : decode cX4_faultOfWord 103 = .ok (.if_icmp .lt 7, 3) := by decide +kernel
theorem dX4_faultOfWord_106 : decode cX4_faultOfWord 106 = .ok (.iconst 1, 1) := by decide +kernel
theorem dX4_faultOfWord_107 : decode cX4_faultOfWord 107 = .ok (.goto 4, 3) := by decide +kernel
theorem dX4_faultOfWord_110 : decode cX4_faultOfWord 110 = .ok (.iconst 0, 1) := by decide +kernel
theorem dX4_faultOfWord_111 : decode cX4_faultOfWord 111 = .ok (.istore_n 3, 1) := by decide +kernel
theorem dX4_faultOfWord_112 : decode cX4_faultOfWord 112 = .ok (.iload_n 3, 1) := by decide +kernel
theorem dX4_faultOfWord_113 : decode cX4_faultOfWord 113 = .ok (.ifCond .eq 7, 3) := by decide +kernel
theorem dX4_faultOfWord_116 : decode cX4_faultOfWord 116 = .ok (.iconst 3, 1) := by decide +kernel
theorem dX4_faultOfWord_117 : decode cX4_faultOfWord 117 = .ok (.goto 4, 3) := by decide +kernel
theorem dX4_faultOfWord_120 : decode cX4_faultOfWord 120 = .ok (.iconst 0, 1) := by decide +kernel
theorem dX4_faultOfWord_121 : decode cX4_faultOfWord 121 = .ok (.ireturn, 1) := by decide +kernel
set_option maxRecDepth 20000 in
theorem ggX4_readWell_X4_readNumber : GoodIn wsX4_readWell wsX4_readNumber := goodIn_r _ [8, 9, 10, 11, 12, 13, 14, 15, 7, 16, 17, 18, 19, 20, 21, 22, 23, 24, 25, 26, 27, 28, 29, 46, 47, 48, 49, 50, 51] (by decide +kernel) (by decide +kernel)
set_option maxRecDepth 20000 in
theorem gX4_readWell_X4_readNumber : GoodIn wsX4_readWell (wsV RX4 77 RX4 yX4_readNumber wsX4_readNumber) := goodIn_app (goodIn_of _ (by decide +kernel)) ggX4_readWell_X4_readNumber
set_option maxRecDepth 20000 in
theorem ggX4_readWell_X4_clauseEnds : GoodIn wsX4_readWell wsX4_clauseEnds := goodIn_r _ [33, 9, 10, 13, 14, 15, 7, 16, 12, 17, 18, 19, 20, 21, 25, 26, 27, 28, 29, 46, 47, 48, 49, 50, 51] (by decide +kernel) (by decide +kernel)
set_option maxRecDepth 20000 in
theorem gX4_readWell_X4_clauseEnds : GoodIn wsX4_readWell (wsV RX4 81 RX4 yX4_clauseEnds wsX4_clauseEnds) := goodIn_app (goodIn_of _ (by decide +kernel)) ggX4_readWell_X4_clauseEnds
theorem dX4_readWell_0 : decode cX4_readWell 0 = .ok (.aload_n 0, 1) := by decide +kernel
theorem dX4_readWell_1 : decode cX4_readWell 1 = .ok (.iconst 0, 1) := by decide +kernel
theorem dX4_readWell_2 : decode cX4_readWell 2 = .ok (.bipush 99, 2) := by decide +kernel
theorem dX4_readWell_4 : decode cX4_readWell 4 = .ok (.invokevirtual 77, 3) := by decide +kernel
theorem dX4_readWell_7 : decode cX4_readWell 7 = .ok (.istore_n 2, 1) := by decide +kernel
theorem dX4_readWell_8 : decode cX4_readWell 8 = .ok (.aload_n 0, 1) := by decide +kernel
theorem dX4_readWell_9 : decode cX4_readWell 9 = .ok (.iconst 0, 1) := by decide +kernel
theorem dX4_readWell_10 : decode cX4_readWell 10 = .ok (.bipush 20, 2) := by decide +kernel
theorem dX4_readWell_12 : decode cX4_readWell 12 = .ok (.invokevirtual 77, 3) := by decide +kernel
theorem dX4_readWell_15 : decode cX4_readWell 15 = .ok (.istore_n 3, 1) := by decide +kernel
theorem dX4_readWell_16 : decode cX4_readWell 16 = .ok (.aload_n 0, 1) := by decide +kernel
theorem dX4_readWell_17 : decode cX4_readWell 17 = .ok (.invokevirtual 81, 3) := by decide +kernel
theorem dX4_readWell_20 : decode cX4_readWell 20 = .ok (.ifCond .eq 18, 3) := by decide +kernel
theorem dX4_readWell_23 : decode cX4_readWell 23 = .ok (.aload_n 1, 1) := by decide +kernel
theorem dX4_readWell_24 : decode cX4_readWell 24 = .ok (.iconst 1, 1) := by decide +kernel
theorem dX4_readWell_25 : decode cX4_readWell 25 = .ok (.putfield 64, 3) := by decide +kernel
theorem dX4_readWell_28 : decode cX4_readWell 28 = .ok (.aload_n 1, 1) := by decide +kernel
theorem dX4_readWell_29 : decode cX4_readWell 29 = .ok (.iload_n 2, 1) := by decide +kernel
theorem dX4_readWell_30 : decode cX4_readWell 30 = .ok (.putfield 85, 3) := by decide +kernel
theorem dX4_readWell_33 : decode cX4_readWell 33 = .ok (.aload_n 1, 1) := by decide +kernel
theorem dX4_readWell_34 : decode cX4_readWell 34 = .ok (.iload_n 3, 1) := by decide +kernel
theorem dX4_readWell_35 : decode cX4_readWell 35 = .ok (.putfield 88, 3) := by decide +kernel
theorem dX4_readWell_38 : decode cX4_readWell 38 = .ok (.return_, 1) := by decide +kernel
set_option maxRecDepth 20000 in
theorem ggX4_readPerson_X4_readNumber : GoodIn wsX4_readPerson wsX4_readNumber := goodIn_r _ [5, 6, 7, 8, 9, 10, 11, 12, 4, 13, 14, 15, 16, 17, 18, 19, 20, 21, 22, 23, 24, 25, 26, 38, 39, 40, 41, 42, 43] (by decide +kernel) (by decide +kernel)
set_option maxRecDepth 20000 in
theorem gX4_readPerson_X4_readNumber : GoodIn wsX4_readPerson (wsV RX4 77 RX4 yX4_readNumber wsX4_readNumber) := goodIn_app (goodIn_of _ (by decide +kernel)) ggX4_readPerson_X4_readNumber
set_option maxRecDepth 20000 in
theorem ggX4_readPerson_X4_clauseEnds : GoodIn wsX4_readPerson wsX4_clauseEnds := goodIn_r _ [30, 6, 7, 10, 11, 12, 4, 13, 9, 14, 15, 16, 17, 18, 22, 23, 24, 25, 26, 38, 39, 40, 41, 42, 43] (by decide +kernel) (by decide +kernel)
set_option maxRecDepth 20000 in
theorem gX4_readPerson_X4_clauseEnds : GoodIn wsX4_readPerson (wsV RX4 81 RX4 yX4_clauseEnds wsX4_clauseEnds) := goodIn_app (goodIn_of _ (by decide +kernel)) ggX4_readPerson_X4_clauseEnds
set_option maxRecDepth 20000 in
theorem ggX4_readPerson_X7_addPerson : GoodIn wsX4_readPerson wsX7_addPerson := goodIn_r _ [35, 36, 37, 44, 45, 46, 47, 48, 49, 50, 51, 52, 53, 54, 55] (by decide +kernel) (by decide +kernel)
set_option maxRecDepth 20000 in
theorem gX4_readPerson_X7_addPerson : GoodIn wsX4_readPerson (wsV RX4 91 RX7 yX7_addPerson wsX7_addPerson) := goodIn_app (goodIn_of _ (by decide +kernel)) ggX4_readPerson_X7_addPerson
theorem dX4_readPerson_0 : decode cX4_readPerson 0 = .ok (.aload_n 0, 1) := by decide +kernel
theorem dX4_readPerson_1 : decode cX4_readPerson 1 = .ok (.iconst 1, 1) := by decide +kernel
theorem dX4_readPerson_2 : decode cX4_readPerson 2 = .ok (.bipush 9, 2) := by decide +kernel
theorem dX4_readPerson_4 : decode cX4_readPerson 4 = .ok (.invokevirtual 77, 3) := by decide +kernel
theorem dX4_readPerson_7 : decode cX4_readPerson 7 = .ok (.istore_n 2, 1) := by decide +kernel
theorem dX4_readPerson_8 : decode cX4_readPerson 8 = .ok (.aload_n 0, 1) := by decide +kernel
theorem dX4_readPerson_9 : decode cX4_readPerson 9 = .ok (.invokevirtual 81, 3) := by decide +kernel
theorem dX4_readPerson_12 : decode cX4_readPerson 12 = .ok (.ifCond .eq 8, 3) := by decide +kernel
theorem dX4_readPerson_15 : decode cX4_readPerson 15 = .ok (.aload_n 1, 1) := by decide +kernel
theorem dX4_readPerson_16 : decode cX4_readPerson 16 = .ok (.iload_n 2, 1) := by decide +kernel
theorem dX4_readPerson_17 : decode cX4_readPerson 17 = .ok (.invokevirtual 91, 3) := by decide +kernel
theorem dX4_readPerson_20 : decode cX4_readPerson 20 = .ok (.return_, 1) := by decide +kernel
set_option maxRecDepth 20000 in
theorem ggX4_readSaying_X4_readNumber : GoodIn wsX4_readSaying wsX4_readNumber := goodIn_r _ [6, 7, 8, 9, 10, 11, 12, 13, 5, 14, 15, 16, 17, 18, 19, 20, 21, 22, 23, 24, 25, 26, 27, 54, 55, 56, 57, 58, 59] (by decide +kernel) (by decide +kernel)
set_option maxRecDepth 20000 in
theorem gX4_readSaying_X4_readNumber : GoodIn wsX4_readSaying (wsV RX4 77 RX4 yX4_readNumber wsX4_readNumber) := goodIn_app (goodIn_of _ (by decide +kernel)) ggX4_readSaying_X4_readNumber
set_option maxRecDepth 20000 in
theorem ggX4_readSaying_X4_clauseEnds : GoodIn wsX4_readSaying wsX4_clauseEnds := goodIn_r _ [31, 7, 8, 11, 12, 13, 5, 14, 10, 15, 16, 17, 18, 19, 23, 24, 25, 26, 27, 54, 55, 56, 57, 58, 59] (by decide +kernel) (by decide +kernel)
set_option maxRecDepth 20000 in
theorem gX4_readSaying_X4_clauseEnds : GoodIn wsX4_readSaying (wsV RX4 81 RX4 yX4_clauseEnds wsX4_clauseEnds) := goodIn_app (goodIn_of _ (by decide +kernel)) ggX4_readSaying_X4_clauseEnds
set_option maxRecDepth 20000 in
theorem ggX4_readSaying_X7_addSaying : GoodIn wsX4_readSaying wsX7_addSaying := goodIn_r _ [36, 37, 38, 39, 40, 41, 42, 43, 44, 45, 46, 47, 48, 49, 50, 51, 52, 53] (by decide +kernel) (by decide +kernel)
set_option maxRecDepth 20000 in
theorem gX4_readSaying_X7_addSaying : GoodIn wsX4_readSaying (wsV RX4 95 RX7 yX7_addSaying wsX7_addSaying) := goodIn_app (goodIn_of _ (by decide +kernel)) ggX4_readSaying_X7_addSaying
theorem dX4_readSaying_0 : decode cX4_readSaying 0 = .ok (.aload_n 0, 1) := by decide +kernel
theorem dX4_readSaying_1 : decode cX4_readSaying 1 = .ok (.iconst 0, 1) := by decide +kernel
theorem dX4_readSaying_2 : decode cX4_readSaying 2 = .ok (.aload_n 1, 1) := by decide +kernel
theorem dX4_readSaying_3 : decode cX4_readSaying 3 = .ok (.getfield 68, 3) := by decide +kernel
theorem dX4_readSaying_6 : decode cX4_readSaying 6 = .ok (.iconst 1, 1) := by decide +kernel
theorem dX4_readSaying_7 : decode cX4_readSaying 7 = .ok (.isub, 1) := by decide +kernel
theorem dX4_readSaying_8 : decode cX4_readSaying 8 = .ok (.invokevirtual 77, 3) := by decide +kernel
theorem dX4_readSaying_11 : decode cX4_readSaying 11 = .ok (.istore_n 2, 1) := by decide +kernel
theorem dX4_readSaying_12 : decode cX4_readSaying 12 = .ok (.aload_n 0, 1) := by decide +kernel
theorem dX4_readSaying_13 : decode cX4_readSaying 13 = .ok (.iconst 1, 1) := by decide +kernel
theorem dX4_readSaying_14 : decode cX4_readSaying 14 = .ok (.bipush 20, 2) := by decide +kernel
theorem dX4_readSaying_16 : decode cX4_readSaying 16 = .ok (.invokevirtual 77, 3) := by decide +kernel
theorem dX4_readSaying_19 : decode cX4_readSaying 19 = .ok (.istore_n 3, 1) := by decide +kernel
theorem dX4_readSaying_20 : decode cX4_readSaying 20 = .ok (.aload_n 0, 1) := by decide +kernel
theorem dX4_readSaying_21 : decode cX4_readSaying 21 = .ok (.iconst 0, 1) := by decide +kernel
theorem dX4_readSaying_22 : decode cX4_readSaying 22 = .ok (.bipush 99, 2) := by decide +kernel
theorem dX4_readSaying_24 : decode cX4_readSaying 24 = .ok (.invokevirtual 77, 3) := by decide +kernel
theorem dX4_readSaying_27 : decode cX4_readSaying 27 = .ok (.bipush 50, 2) := by decide +kernel
theorem dX4_readSaying_29 : decode cX4_readSaying 29 = .ok (.isub, 1) := by decide +kernel
theorem dX4_readSaying_30 : decode cX4_readSaying 30 = .ok (.istore 4, 2) := by decide +kernel
theorem dX4_readSaying_32 : decode cX4_readSaying 32 = .ok (.aload_n 0, 1) := by decide +kernel
theorem dX4_readSaying_33 : decode cX4_readSaying 33 = .ok (.invokevirtual 81, 3) := by decide +kernel
theorem dX4_readSaying_36 : decode cX4_readSaying 36 = .ok (.ifCond .eq 11, 3) := by decide +kernel
theorem dX4_readSaying_39 : decode cX4_readSaying 39 = .ok (.aload_n 1, 1) := by decide +kernel
theorem dX4_readSaying_40 : decode cX4_readSaying 40 = .ok (.iload_n 2, 1) := by decide +kernel
theorem dX4_readSaying_41 : decode cX4_readSaying 41 = .ok (.iload_n 3, 1) := by decide +kernel
theorem dX4_readSaying_42 : decode cX4_readSaying 42 = .ok (.iload 4, 2) := by decide +kernel
theorem dX4_readSaying_44 : decode cX4_readSaying 44 = .ok (.invokevirtual 95, 3) := by decide +kernel
theorem dX4_readSaying_47 : decode cX4_readSaying 47 = .ok (.return_, 1) := by decide +kernel
set_option maxRecDepth 20000 in
theorem ggX4_readLink_X4_readNumber : GoodIn wsX4_readLink wsX4_readNumber := goodIn_r _ [8, 2, 9, 3, 10, 11, 12, 13, 7, 14, 15, 16, 17, 18, 19, 20, 21, 22, 23, 24, 25, 26, 27, 63, 64, 65, 66, 67, 68] (by decide +kernel) (by decide +kernel)
set_option maxRecDepth 20000 in
theorem gX4_readLink_X4_readNumber : GoodIn wsX4_readLink (wsV RX4 77 RX4 yX4_readNumber wsX4_readNumber) := goodIn_app (goodIn_of _ (by decide +kernel)) ggX4_readLink_X4_readNumber
set_option maxRecDepth 20000 in
theorem ggX4_readLink_X7_isLinked : GoodIn wsX4_readLink wsX7_isLinked := goodIn_r _ [32, 33, 34, 35, 36, 31, 37, 38, 39, 40, 41, 51, 52, 53, 54, 55, 56, 57, 58, 59, 60, 61, 62] (by decide +kernel) (by decide +kernel)
set_option maxRecDepth 20000 in
theorem gX4_readLink_X7_isLinked : GoodIn wsX4_readLink (wsV RX4 99 RX7 yX7_isLinked wsX7_isLinked) := goodIn_app (goodIn_of _ (by decide +kernel)) ggX4_readLink_X7_isLinked
set_option maxRecDepth 20000 in
theorem ggX4_readLink_X4_blame : GoodIn wsX4_readLink wsX4_blame := goodIn_r _ [26, 2, 27, 63, 64, 65, 66, 67, 68] (by decide +kernel) (by decide +kernel)
set_option maxRecDepth 20000 in
theorem gX4_readLink_X4_blame : GoodIn wsX4_readLink (wsV RX4 48 RX4 yX4_blame wsX4_blame) := goodIn_app (goodIn_of _ (by decide +kernel)) ggX4_readLink_X4_blame
set_option maxRecDepth 20000 in
theorem ggX4_readLink_X4_clauseEnds : GoodIn wsX4_readLink wsX4_clauseEnds := goodIn_r _ [45, 2, 9, 11, 12, 13, 7, 14, 10, 15, 16, 17, 18, 19, 23, 24, 25, 26, 27, 63, 64, 65, 66, 67, 68] (by decide +kernel) (by decide +kernel)
set_option maxRecDepth 20000 in
theorem gX4_readLink_X4_clauseEnds : GoodIn wsX4_readLink (wsV RX4 81 RX4 yX4_clauseEnds wsX4_clauseEnds) := goodIn_app (goodIn_of _ (by decide +kernel)) ggX4_readLink_X4_clauseEnds
set_option maxRecDepth 20000 in
theorem ggX4_readLink_X7_addLink : GoodIn wsX4_readLink wsX7_addLink := goodIn_r _ [49, 33, 50, 34, 35, 36, 31, 37, 38, 51, 52, 53, 54, 55, 56, 57, 58, 59, 60, 61, 62] (by decide +kernel) (by decide +kernel)
set_option maxRecDepth 20000 in
theorem gX4_readLink_X7_addLink : GoodIn wsX4_readLink (wsV RX4 106 RX7 yX7_addLink wsX7_addLink) := goodIn_app (goodIn_of _ (by decide +kernel)) ggX4_readLink_X7_addLink
theorem dX4_readLink_0 : decode cX4_readLink 0 = .ok (.aload_n 0, 1) := by decide +kernel
theorem dX4_readLink_1 : decode cX4_readLink 1 = .ok (.iconst 0, 1) := by decide +kernel
theorem dX4_readLink_2 : decode cX4_readLink 2 = .ok (.aload_n 1, 1) := by decide +kernel
theorem dX4_readLink_3 : decode cX4_readLink 3 = .ok (.getfield 71, 3) := by decide +kernel
theorem dX4_readLink_6 : decode cX4_readLink 6 = .ok (.iconst 1, 1) := by decide +kernel
theorem dX4_readLink_7 : decode cX4_readLink 7 = .ok (.isub, 1) := by decide +kernel
theorem dX4_readLink_8 : decode cX4_readLink 8 = .ok (.invokevirtual 77, 3) := by decide +kernel
theorem dX4_readLink_11 : decode cX4_readLink 11 = .ok (.istore_n 2, 1) := by decide +kernel
theorem dX4_readLink_12 : decode cX4_readLink 12 = .ok (.aload_n 0, 1) := by decide +kernel
theorem dX4_readLink_13 : decode cX4_readLink 13 = .ok (.iconst 0, 1) := by decide +kernel
theorem dX4_readLink_14 : decode cX4_readLink 14 = .ok (.aload_n 1, 1) := by decide +kernel
theorem dX4_readLink_15 : decode cX4_readLink 15 = .ok (.getfield 71, 3) := by decide +kernel
theorem dX4_readLink_18 : decode cX4_readLink 18 = .ok (.iconst 1, 1) := by decide +kernel
theorem dX4_readLink_19 : decode cX4_readLink 19 = .ok (.isub, 1) := by decide +kernel
theorem dX4_readLink_20 : decode cX4_readLink 20 = .ok (.invokevirtual 77, 3) := by decide +kernel
theorem dX4_readLink_23 : decode cX4_readLink 23 = .ok (.istore_n 3, 1) := by decide +kernel
theorem dX4_readLink_24 : decode cX4_readLink 24 = .ok (.aload_n 0, 1) := by decide +kernel
theorem dX4_readLink_25 : decode cX4_readLink 25 = .ok (.getfield 30, 3) := by decide +kernel
theorem dX4_readLink_28 : decode cX4_readLink 28 = .ok (.ifCond .ne 26, 3) := by decide +kernel
theorem dX4_readLink_31 : decode cX4_readLink 31 = .ok (.iload_n 2, 1) := by decide +kernel
theorem dX4_readLink_32 : decode cX4_readLink 32 = .ok (.iload_n 3, 1) := by decide +kernel
theorem dX4_readLink_33 : decode cX4_readLink 33 = .ok (.if_icmp .ge 12, 3) := by decide +kernel
theorem dX4_readLink_36 : decode cX4_readLink 36 = .ok (.aload_n 1, 1) := by decide +kernel
theorem dX4_readLink_37 : decode cX4_readLink 37 = .ok (.iload_n 2, 1) := by decide +kernel
theorem dX4_readLink_38 : decode cX4_readLink 38 = .ok (.iload_n 3, 1) := by decide +kernel
theorem dX4_readLink_39 : decode cX4_readLink 39 = .ok (.invokevirtual 99, 3) := by decide +kernel
theorem dX4_readLink_42 : decode cX4_readLink 42 = .ok (.ifCond .eq 12, 3) := by decide +kernel
theorem dX4_readLink_45 : decode cX4_readLink 45 = .ok (.aload_n 0, 1) := by decide +kernel
theorem dX4_readLink_46 : decode cX4_readLink 46 = .ok (.iconst 4, 1) := by decide +kernel
theorem dX4_readLink_47 : decode cX4_readLink 47 = .ok (.aload_n 0, 1) := by decide +kernel
theorem dX4_readLink_48 : decode cX4_readLink 48 = .ok (.getfield 103, 3) := by decide +kernel
theorem dX4_readLink_51 : decode cX4_readLink 51 = .ok (.invokevirtual 48, 3) := by decide +kernel
theorem dX4_readLink_54 : decode cX4_readLink 54 = .ok (.aload_n 0, 1) := by decide +kernel
theorem dX4_readLink_55 : decode cX4_readLink 55 = .ok (.invokevirtual 81, 3) := by decide +kernel
theorem dX4_readLink_58 : decode cX4_readLink 58 = .ok (.ifCond .eq 9, 3) := by decide +kernel
theorem dX4_readLink_61 : decode cX4_readLink 61 = .ok (.aload_n 1, 1) := by decide +kernel
theorem dX4_readLink_62 : decode cX4_readLink 62 = .ok (.iload_n 2, 1) := by decide +kernel
theorem dX4_readLink_63 : decode cX4_readLink 63 = .ok (.iload_n 3, 1) := by decide +kernel
theorem dX4_readLink_64 : decode cX4_readLink 64 = .ok (.invokevirtual 106, 3) := by decide +kernel
theorem dX4_readLink_67 : decode cX4_readLink 67 = .ok (.return_, 1) := by decide +kernel
set_option maxRecDepth 20000 in
theorem ggX4_readNumber_X4_skipBlanks : GoodIn wsX4_readNumber wsX4_skipBlanks := goodIn_r _ [9, 2, 4, 10, 11, 12, 8, 13, 14, 23, 24, 25, 26, 27, 28] (by decide +kernel) (by decide +kernel)
set_option maxRecDepth 20000 in
theorem gX4_readNumber_X4_skipBlanks : GoodIn wsX4_readNumber (wsV RX4 33 RX4 yX4_skipBlanks wsX4_skipBlanks) := goodIn_app (goodIn_of _ (by decide +kernel)) ggX4_readNumber_X4_skipBlanks
set_option maxRecDepth 20000 in
theorem ggX4_readNumber_X4_letterAt : GoodIn wsX4_readNumber wsX4_letterAt := goodIn_r _ [13, 4, 14, 23, 24, 25, 26, 27, 28] (by decide +kernel) (by decide +kernel)
set_option maxRecDepth 20000 in
theorem gX4_readNumber_X4_letterAt : GoodIn wsX4_readNumber (wsV RX4 40 RX4 yX4_letterAt wsX4_letterAt) := goodIn_app (goodIn_of _ (by decide +kernel)) ggX4_readNumber_X4_letterAt
set_option maxRecDepth 20000 in
theorem ggX4_readNumber_X4_isFigure : GoodIn wsX4_readNumber wsX4_isFigure := goodIn_r _ [17] (by decide +kernel) (by decide +kernel)
set_option maxRecDepth 20000 in
theorem gX4_readNumber_X4_isFigure : GoodIn wsX4_readNumber (va_wsS RX4 109 yX4_isFigure wsX4_isFigure) := goodIn_app (goodIn_of _ (by decide +kernel)) ggX4_readNumber_X4_isFigure
set_option maxRecDepth 20000 in
theorem ggX4_readNumber_X4_blame : GoodIn wsX4_readNumber wsX4_blame := goodIn_r _ [21, 1, 22, 23, 24, 25, 26, 27, 28] (by decide +kernel) (by decide +kernel)
set_option maxRecDepth 20000 in
theorem gX4_readNumber_X4_blame : GoodIn wsX4_readNumber (wsV RX4 48 RX4 yX4_blame wsX4_blame) := goodIn_app (goodIn_of _ (by decide +kernel)) ggX4_readNumber_X4_blame
theorem dX4_readNumber_0 : decode cX4_readNumber 0 = .ok (.aload_n 0, 1) := by decide +kernel
theorem dX4_readNumber_1 : decode cX4_readNumber 1 = .ok (.getfield 30, 3) := by decide +kernel
theorem dX4_readNumber_4 : decode cX4_readNumber 4 = .ok (.ifCond .eq 5, 3) := by decide +kernel
theorem dX4_readNumber_7 : decode cX4_readNumber 7 = .ok (.iconst (-1), 1) := by decide +kernel
theorem dX4_readNumber_8 : decode cX4_readNumber 8 = .ok (.ireturn, 1) := by decide +kernel
theorem dX4_readNumber_9 : decode cX4_readNumber 9 = .ok (.aload_n 0, 1) := by decide +kernel
theorem dX4_readNumber_10 : decode cX4_readNumber 10 = .ok (.invokevirtual 33, 3) := by decide +kernel
theorem dX4_readNumber_13 : decode cX4_readNumber 13 = .ok (.aload_n 0, 1) := by decide +kernel
theorem dX4_readNumber_14 : decode cX4_readNumber 14 = .ok (.aload_n 0, 1) := by decide +kernel
theorem dX4_readNumber_15 : decode cX4_readNumber 15 = .ok (.getfield 27, 3) := by decide +kernel
theorem dX4_readNumber_18 : decode cX4_readNumber 18 = .ok (.putfield 103, 3) := by decide +kernel
theorem dX4_readNumber_21 : decode cX4_readNumber 21 = .ok (.iconst 0, 1) := by decide +kernel
theorem dX4_readNumber_22 : decode cX4_readNumber 22 = .ok (.istore_n 3, 1) := by decide +kernel
theorem dX4_readNumber_23 : decode cX4_readNumber 23 = .ok (.aload_n 0, 1) := by decide +kernel
theorem dX4_readNumber_24 : decode cX4_readNumber 24 = .ok (.getfield 27, 3) := by decide +kernel
theorem dX4_readNumber_27 : decode cX4_readNumber 27 = .ok (.aload_n 0, 1) := by decide +kernel
theorem dX4_readNumber_28 : decode cX4_readNumber 28 = .ok (.getfield 19, 3) := by decide +kernel
theorem dX4_readNumber_31 : decode cX4_readNumber 31 = .ok (.if_icmp .ge 60, 3) := by decide +kernel
theorem dX4_readNumber_34 : decode cX4_readNumber 34 = .ok (.aload_n 0, 1) := by decide +kernel
theorem dX4_readNumber_35 : decode cX4_readNumber 35 = .ok (.aload_n 0, 1) := by decide +kernel
theorem dX4_readNumber_36 : decode cX4_readNumber 36 = .ok (.getfield 27, 3) := by decide +kernel
theorem dX4_readNumber_39 : decode cX4_readNumber 39 = .ok (.invokevirtual 40, 3) := by decide +kernel
theorem dX4_readNumber_42 : decode cX4_readNumber 42 = .ok (.invokestatic 109, 3) := by decide +kernel
theorem dX4_readNumber_45 : decode cX4_readNumber 45 = .ok (.ifCond .eq 46, 3) := by decide +kernel
theorem dX4_readNumber_48 : decode cX4_readNumber 48 = .ok (.aload_n 0, 1) := by decide +kernel
theorem dX4_readNumber_49 : decode cX4_readNumber 49 = .ok (.getfield 27, 3) := by decide +kernel
theorem dX4_readNumber_52 : decode cX4_readNumber 52 = .ok (.aload_n 0, 1) := by decide +kernel
theorem dX4_readNumber_53 : decode cX4_readNumber 53 = .ok (.getfield 103, 3) := by decide +kernel
theorem dX4_readNumber_56 : decode cX4_readNumber 56 = .ok (.isub, 1) := by decide +kernel
theorem dX4_readNumber_57 : decode cX4_readNumber 57 = .ok (.iconst 3, 1) := by decide +kernel
theorem dX4_readNumber_58 : decode cX4_readNumber 58 = .ok (.if_icmp .ge 20, 3) := by decide +kernel
theorem dX4_readNumber_61 : decode cX4_readNumber 61 = .ok (.iload_n 3, 1) := by decide +kernel
theorem dX4_readNumber_62 : decode cX4_readNumber 62 = .ok (.bipush 10, 2) := by decide +kernel
theorem dX4_readNumber_64 : decode cX4_readNumber 64 = .ok (.imul, 1) := by decide +kernel
theorem dX4_readNumber_65 : decode cX4_readNumber 65 = .ok (.aload_n 0, 1) := by decide +kernel
theorem dX4_readNumber_66 : decode cX4_readNumber 66 = .ok (.aload_n 0, 1) := by decide +kernel
theorem dX4_readNumber_67 : decode cX4_readNumber 67 = .ok (.getfield 27, 3) := by decide +kernel
theorem dX4_readNumber_70 : decode cX4_readNumber 70 = .ok (.invokevirtual 40, 3) := by decide +kernel
theorem dX4_readNumber_73 : decode cX4_readNumber 73 = .ok (.iadd, 1) := by decide +kernel
theorem dX4_readNumber_74 : decode cX4_readNumber 74 = .ok (.bipush 48, 2) := by decide +kernel
theorem dX4_readNumber_76 : decode cX4_readNumber 76 = .ok (.isub, 1) := by decide +kernel
theorem dX4_readNumber_77 : decode cX4_readNumber 77 = .ok (.istore_n 3, 1) := by decide +kernel
theorem dX4_readNumber_78 : decode cX4_readNumber 78 = .ok (.aload_n 0, 1) := by decide +kernel
theorem dX4_readNumber_79 : decode cX4_readNumber 79 = .ok (.dup, 1) := by decide +kernel
theorem dX4_readNumber_80 : decode cX4_readNumber 80 = .ok (.getfield 27, 3) := by decide +kernel
theorem dX4_readNumber_83 : decode cX4_readNumber 83 = .ok (.iconst 1, 1) := by decide +kernel
theorem dX4_readNumber_84 : decode cX4_readNumber 84 = .ok (.iadd, 1) := by decide +kernel
theorem dX4_readNumber_85 : decode cX4_readNumber 85 = .ok (.putfield 27, 3) := by decide +kernel
theorem dX4_readNumber_88 : decode cX4_readNumber 88 = .ok (.goto (-65), 3) := by decide +kernel
theorem dX4_readNumber_91 : decode cX4_readNumber 91 = .ok (.aload_n 0, 1) := by decide +kernel
theorem dX4_readNumber_92 : decode cX4_readNumber 92 = .ok (.getfield 27, 3) := by decide +kernel
theorem dX4_readNumber_95 : decode cX4_readNumber 95 = .ok (.aload_n 0, 1) := by decide +kernel
theorem dX4_readNumber_96 : decode cX4_readNumber 96 = .ok (.getfield 103, 3) := by decide +kernel
theorem dX4_readNumber_99 : decode cX4_readNumber 99 = .ok (.isub, 1) := by decide +kernel
theorem dX4_readNumber_100 : decode cX4_readNumber 100 = .ok (.istore 4, 2) := by decide +kernel
theorem dX4_readNumber_102 : decode cX4_readNumber 102 = .ok (.iload 4, 2) := by decide +kernel
theorem dX4_readNumber_104 : decode cX4_readNumber 104 = .ok (.ifCond .ne 15, 3) := by decide +kernel
theorem dX4_readNumber_107 : decode cX4_readNumber 107 = .ok (.aload_n 0, 1) := by decide +kernel
theorem dX4_readNumber_108 : decode cX4_readNumber 108 = .ok (.iconst 1, 1) := by decide +kernel
theorem dX4_readNumber_109 : decode cX4_readNumber 109 = .ok (.aload_n 0, 1) := by decide +kernel
theorem dX4_readNumber_110 : decode cX4_readNumber 110 = .ok (.getfield 27, 3) := by decide +kernel
theorem dX4_readNumber_113 : decode cX4_readNumber 113 = .ok (.invokevirtual 48, 3) := by decide +kernel
theorem dX4_readNumber_116 : decode cX4_readNumber 116 = .ok (.goto 28, 3) := by decide +kernel
theorem dX4_readNumber_119 : decode cX4_readNumber 119 = .ok (.iload 4, 2) := by decide +kernel
theorem dX4_readNumber_121 : decode cX4_readNumber 121 = .ok (.iconst 3, 1) := by decide +kernel
theorem dX4_readNumber_122 : decode cX4_readNumber 122 = .ok (.if_icmp .gt 13, 3) := by decide +kernel
theorem dX4_readNumber_125 : decode cX4_readNumber 125 = .ok (.iload_n 3, 1) := by decide +kernel
theorem dX4_readNumber_126 : decode cX4_readNumber 126 = .ok (.iload_n 1, 1) := by decide +kernel
theorem dX4_readNumber_127 : decode cX4_readNumber 127 = .ok (.if_icmp .lt 8, 3) := by decide +kernel
theorem dX4_readNumber_130 : decode cX4_readNumber 130 = .ok (.iload_n 3, 1) := by decide +kernel
theorem dX4_readNumber_131 : decode cX4_readNumber 131 = .ok (.iload_n 2, 1) := by decide +kernel
theorem dX4_readNumber_132 : decode cX4_readNumber 132 = .ok (.if_icmp .le 12, 3) := by decide +kernel
theorem dX4_readNumber_135 : decode cX4_readNumber 135 = .ok (.aload_n 0, 1) := by decide +kernel
theorem dX4_readNumber_136 : decode cX4_readNumber 136 = .ok (.iconst 2, 1) := by decide +kernel
theorem dX4_readNumber_137 : decode cX4_readNumber 137 = .ok (.aload_n 0, 1) := by decide +kernel
theorem dX4_readNumber_138 : decode cX4_readNumber 138 = .ok (.getfield 103, 3) := by decide +kernel
theorem dX4_readNumber_141 : decode cX4_readNumber 141 = .ok (.invokevirtual 48, 3) := by decide +kernel
theorem dX4_readNumber_144 : decode cX4_readNumber 144 = .ok (.aload_n 0, 1) := by decide +kernel
theorem dX4_readNumber_145 : decode cX4_readNumber 145 = .ok (.getfield 30, 3) := by decide +kernel
theorem dX4_readNumber_148 : decode cX4_readNumber 148 = .ok (.ifCond .ne 7, 3) := by decide +kernel
theorem dX4_readNumber_151 : decode cX4_readNumber 151 = .ok (.iload_n 3, 1) := by decide +kernel
theorem dX4_readNumber_152 : decode cX4_readNumber 152 = .ok (.goto 4, 3) := by decide +kernel
theorem dX4_readNumber_155 : decode cX4_readNumber 155 = .ok (.iconst (-1), 1) := by decide +kernel
theorem dX4_readNumber_156 : decode cX4_readNumber 156 = .ok (.ireturn, 1) := by decide +kernel
set_option maxRecDepth 20000 in
theorem ggX4_clauseEnds_X4_skipBlanks : GoodIn wsX4_clauseEnds wsX4_skipBlanks := goodIn_r _ [7, 2, 8, 9, 10, 11, 6, 12, 13, 19, 20, 21, 22, 23, 24] (by decide +kernel) (by decide +kernel)
set_option maxRecDepth 20000 in
theorem gX4_clauseEnds_X4_skipBlanks : GoodIn wsX4_clauseEnds (wsV RX4 33 RX4 yX4_skipBlanks wsX4_skipBlanks) := goodIn_app (goodIn_of _ (by decide +kernel)) ggX4_clauseEnds_X4_skipBlanks
set_option maxRecDepth 20000 in
theorem ggX4_clauseEnds_X4_letterAt : GoodIn wsX4_clauseEnds wsX4_letterAt := goodIn_r _ [12, 8, 13, 19, 20, 21, 22, 23, 24] (by decide +kernel) (by decide +kernel)
set_option maxRecDepth 20000 in
theorem gX4_clauseEnds_X4_letterAt : GoodIn wsX4_clauseEnds (wsV RX4 40 RX4 yX4_letterAt wsX4_letterAt) := goodIn_app (goodIn_of _ (by decide +kernel)) ggX4_clauseEnds_X4_letterAt
set_option maxRecDepth 20000 in
theorem ggX4_clauseEnds_X4_blame : GoodIn wsX4_clauseEnds wsX4_blame := goodIn_r _ [17, 1, 18, 19, 20, 21, 22, 23, 24] (by decide +kernel) (by decide +kernel)
set_option maxRecDepth 20000 in
theorem gX4_clauseEnds_X4_blame : GoodIn wsX4_clauseEnds (wsV RX4 48 RX4 yX4_blame wsX4_blame) := goodIn_app (goodIn_of _ (by decide +kernel)) ggX4_clauseEnds_X4_blame
theorem dX4_clauseEnds_0 : decode cX4_clauseEnds 0 = .ok (.aload_n 0, 1) := by decide +kernel
theorem dX4_clauseEnds_1 : decode cX4_clauseEnds 1 = .ok (.getfield 30, 3) := by decide +kernel
theorem dX4_clauseEnds_4 : decode cX4_clauseEnds 4 = .ok (.ifCond .eq 5, 3) := by decide +kernel
theorem dX4_clauseEnds_7 : decode cX4_clauseEnds 7 = .ok (.iconst 0, 1) := by decide +kernel
theorem dX4_clauseEnds_8 : decode cX4_clauseEnds 8 = .ok (.ireturn, 1) := by decide +kernel
theorem dX4_clauseEnds_9 : decode cX4_clauseEnds 9 = .ok (.aload_n 0, 1) := by decide +kernel
theorem dX4_clauseEnds_10 : decode cX4_clauseEnds 10 = .ok (.invokevirtual 33, 3) := by decide +kernel
theorem dX4_clauseEnds_13 : decode cX4_clauseEnds 13 = .ok (.aload_n 0, 1) := by decide +kernel
theorem dX4_clauseEnds_14 : decode cX4_clauseEnds 14 = .ok (.aload_n 0, 1) := by decide +kernel
theorem dX4_clauseEnds_15 : decode cX4_clauseEnds 15 = .ok (.getfield 27, 3) := by decide +kernel
theorem dX4_clauseEnds_18 : decode cX4_clauseEnds 18 = .ok (.invokevirtual 40, 3) := by decide +kernel
theorem dX4_clauseEnds_21 : decode cX4_clauseEnds 21 = .ok (.bipush 59, 2) := by decide +kernel
theorem dX4_clauseEnds_23 : decode cX4_clauseEnds 23 = .ok (.if_icmp .eq 14, 3) := by decide +kernel
theorem dX4_clauseEnds_26 : decode cX4_clauseEnds 26 = .ok (.aload_n 0, 1) := by decide +kernel
theorem dX4_clauseEnds_27 : decode cX4_clauseEnds 27 = .ok (.iconst 1, 1) := by decide +kernel
theorem dX4_clauseEnds_28 : decode cX4_clauseEnds 28 = .ok (.aload_n 0, 1) := by decide +kernel
theorem dX4_clauseEnds_29 : decode cX4_clauseEnds 29 = .ok (.getfield 27, 3) := by decide +kernel
theorem dX4_clauseEnds_32 : decode cX4_clauseEnds 32 = .ok (.invokevirtual 48, 3) := by decide +kernel
theorem dX4_clauseEnds_35 : decode cX4_clauseEnds 35 = .ok (.iconst 0, 1) := by decide +kernel
theorem dX4_clauseEnds_36 : decode cX4_clauseEnds 36 = .ok (.ireturn, 1) := by decide +kernel
theorem dX4_clauseEnds_37 : decode cX4_clauseEnds 37 = .ok (.aload_n 0, 1) := by decide +kernel
theorem dX4_clauseEnds_38 : decode cX4_clauseEnds 38 = .ok (.dup, 1) := by decide +kernel
theorem dX4_clauseEnds_39 : decode cX4_clauseEnds 39 = .ok (.getfield 27, 3) := by decide +kernel
theorem dX4_clauseEnds_42 : decode cX4_clauseEnds 42 = .ok (.iconst 1, 1) := by decide +kernel
theorem dX4_clauseEnds_43 : decode cX4_clauseEnds 43 = .ok (.iadd, 1) := by decide +kernel
theorem dX4_clauseEnds_44 : decode cX4_clauseEnds 44 = .ok (.putfield 27, 3) := by decide +kernel
theorem dX4_clauseEnds_47 : decode cX4_clauseEnds 47 = .ok (.iconst 1, 1) := by decide +kernel
theorem dX4_clauseEnds_48 : decode cX4_clauseEnds 48 = .ok (.ireturn, 1) := by decide +kernel
set_option maxRecDepth 20000 in
theorem ggX4_skipBlanks_X4_letterAt : GoodIn wsX4_skipBlanks wsX4_letterAt := goodIn_r _ [7, 2, 8, 9, 10, 11, 12, 13, 14] (by decide +kernel) (by decide +kernel)
set_option maxRecDepth 20000 in
theorem gX4_skipBlanks_X4_letterAt : GoodIn wsX4_skipBlanks (wsV RX4 40 RX4 yX4_letterAt wsX4_letterAt) := goodIn_app (goodIn_of _ (by decide +kernel)) ggX4_skipBlanks_X4_letterAt
theorem dX4_skipBlanks_0 : decode cX4_skipBlanks 0 = .ok (.aload_n 0, 1) := by decide +kernel
theorem dX4_skipBlanks_1 : decode cX4_skipBlanks 1 = .ok (.getfield 27, 3) := by decide +kernel
theorem dX4_skipBlanks_4 : decode cX4_skipBlanks 4 = .ok (.aload_n 0, 1) := by decide +kernel
theorem dX4_skipBlanks_5 : decode cX4_skipBlanks 5 = .ok (.getfield 19, 3) := by decide +kernel
theorem dX4_skipBlanks_8 : decode cX4_skipBlanks 8 = .ok (.if_icmp .ge 29, 3) := by decide +kernel
theorem dX4_skipBlanks_11 : decode cX4_skipBlanks 11 = .ok (.aload_n 0, 1) := by decide +kernel
theorem dX4_skipBlanks_12 : decode cX4_skipBlanks 12 = .ok (.aload_n 0, 1) := by decide +kernel
theorem dX4_skipBlanks_13 : decode cX4_skipBlanks 13 = .ok (.getfield 27, 3) := by decide +kernel
theorem dX4_skipBlanks_16 : decode cX4_skipBlanks 16 = .ok (.invokevirtual 40, 3) := by decide +kernel
theorem dX4_skipBlanks_19 : decode cX4_skipBlanks 19 = .ok (.bipush 32, 2) := by decide +kernel
theorem dX4_skipBlanks_21 : decode cX4_skipBlanks 21 = .ok (.if_icmp .ne 16, 3) := by decide +kernel
theorem dX4_skipBlanks_24 : decode cX4_skipBlanks 24 = .ok (.aload_n 0, 1) := by decide +kernel
theorem dX4_skipBlanks_25 : decode cX4_skipBlanks 25 = .ok (.dup, 1) := by decide +kernel
theorem dX4_skipBlanks_26 : decode cX4_skipBlanks 26 = .ok (.getfield 27, 3) := by decide +kernel
theorem dX4_skipBlanks_29 : decode cX4_skipBlanks 29 = .ok (.iconst 1, 1) := by decide +kernel
theorem dX4_skipBlanks_30 : decode cX4_skipBlanks 30 = .ok (.iadd, 1) := by decide +kernel
theorem dX4_skipBlanks_31 : decode cX4_skipBlanks 31 = .ok (.putfield 27, 3) := by decide +kernel
theorem dX4_skipBlanks_34 : decode cX4_skipBlanks 34 = .ok (.goto (-34), 3) := by decide +kernel
theorem dX4_skipBlanks_37 : decode cX4_skipBlanks 37 = .ok (.return_, 1) := by decide +kernel
theorem dX4_blame_0 : decode cX4_blame 0 = .ok (.aload_n 0, 1) := by decide +kernel
theorem dX4_blame_1 : decode cX4_blame 1 = .ok (.iload_n 1, 1) := by decide +kernel
theorem dX4_blame_2 : decode cX4_blame 2 = .ok (.putfield 30, 3) := by decide +kernel
theorem dX4_blame_5 : decode cX4_blame 5 = .ok (.aload_n 0, 1) := by decide +kernel
theorem dX4_blame_6 : decode cX4_blame 6 = .ok (.iload_n 2, 1) := by decide +kernel
theorem dX4_blame_7 : decode cX4_blame 7 = .ok (.putfield 15, 3) := by decide +kernel
theorem dX4_blame_10 : decode cX4_blame 10 = .ok (.return_, 1) := by decide +kernel
theorem dX4_letterAt_0 : decode cX4_letterAt 0 = .ok (.iload_n 1, 1) := by decide +kernel
theorem dX4_letterAt_1 : decode cX4_letterAt 1 = .ok (.ifCond .lt 29, 3) := by decide +kernel
theorem dX4_letterAt_4 : decode cX4_letterAt 4 = .ok (.iload_n 1, 1) := by decide +kernel
theorem dX4_letterAt_5 : decode cX4_letterAt 5 = .ok (.aload_n 0, 1) := by decide +kernel
theorem dX4_letterAt_6 : decode cX4_letterAt 6 = .ok (.getfield 19, 3) := by decide +kernel
theorem dX4_letterAt_9 : decode cX4_letterAt 9 = .ok (.if_icmp .ge 21, 3) := by decide +kernel
theorem dX4_letterAt_12 : decode cX4_letterAt 12 = .ok (.iload_n 1, 1) := by decide +kernel
theorem dX4_letterAt_13 : decode cX4_letterAt 13 = .ok (.aload_n 0, 1) := by decide +kernel
theorem dX4_letterAt_14 : decode cX4_letterAt 14 = .ok (.getfield 9, 3) := by decide +kernel
theorem dX4_letterAt_17 : decode cX4_letterAt 17 = .ok (.arraylength, 1) := by decide +kernel
theorem dX4_letterAt_18 : decode cX4_letterAt 18 = .ok (.if_icmp .ge 12, 3) := by decide +kernel
theorem dX4_letterAt_21 : decode cX4_letterAt 21 = .ok (.aload_n 0, 1) := by decide +kernel
theorem dX4_letterAt_22 : decode cX4_letterAt 22 = .ok (.getfield 9, 3) := by decide +kernel
theorem dX4_letterAt_25 : decode cX4_letterAt 25 = .ok (.iload_n 1, 1) := by decide +kernel
theorem dX4_letterAt_26 : decode cX4_letterAt 26 = .ok (.iaload, 1) := by decide +kernel
theorem dX4_letterAt_27 : decode cX4_letterAt 27 = .ok (.goto 4, 3) := by decide +kernel
theorem dX4_letterAt_30 : decode cX4_letterAt 30 = .ok (.iconst (-1), 1) := by decide +kernel
theorem dX4_letterAt_31 : decode cX4_letterAt 31 = .ok (.ireturn, 1) := by decide +kernel
theorem dX4_isFigure_0 : decode cX4_isFigure 0 = .ok (.iload_n 0, 1) := by decide +kernel
theorem dX4_isFigure_1 : decode cX4_isFigure 1 = .ok (.bipush 48, 2) := by decide +kernel
theorem dX4_isFigure_3 : decode cX4_isFigure 3 = .ok (.if_icmp .lt 13, 3) := by decide +kernel
theorem dX4_isFigure_6 : decode cX4_isFigure 6 = .ok (.iload_n 0, 1) := by decide +kernel
theorem dX4_isFigure_7 : decode cX4_isFigure 7 = .ok (.bipush 57, 2) := by decide +kernel
theorem dX4_isFigure_9 : decode cX4_isFigure 9 = .ok (.if_icmp .gt 7, 3) := by decide +kernel
theorem dX4_isFigure_12 : decode cX4_isFigure 12 = .ok (.iconst 1, 1) := by decide +kernel
theorem dX4_isFigure_13 : decode cX4_isFigure 13 = .ok (.goto 4, 3) := by decide +kernel
theorem dX4_isFigure_16 : decode cX4_isFigure 16 = .ok (.iconst 0, 1) := by decide +kernel
theorem dX4_isFigure_17 : decode cX4_isFigure 17 = .ok (.ireturn, 1) := by decide +kernel
theorem dX5_init_0 : decode cX5_init 0 = .ok (.aload_n 0, 1) := by decide +kernel
theorem dX5_init_1 : decode cX5_init 1 = .ok (.invokespecial 3, 3) := by decide +kernel
theorem dX5_init_4 : decode cX5_init 4 = .ok (.aload_n 0, 1) := by decide +kernel
theorem dX5_init_5 : decode cX5_init 5 = .ok (.bipush 10, 2) := by decide +kernel
theorem dX5_init_7 : decode cX5_init 7 = .ok (.newarray .int, 2) := by decide +kernel
theorem dX5_init_9 : decode cX5_init 9 = .ok (.putfield 9, 3) := by decide +kernel
theorem dX5_init_12 : decode cX5_init 12 = .ok (.return_, 1) := by decide +kernel
set_option maxRecDepth 20000 in
theorem ggX5_gather_X7_weightOf : GoodIn wsX5_gather wsX7_weightOf := goodIn_r _ [9, 10, 11, 12, 13, 8, 14, 28, 29, 30, 31, 32, 33, 34, 35, 36, 37, 38, 39] (by decide +kernel) (by decide +kernel)
set_option maxRecDepth 20000 in
theorem gX5_gather_X7_weightOf : GoodIn wsX5_gather (wsV RX5 27 RX7 yX7_weightOf wsX7_weightOf) := goodIn_app (goodIn_of _ (by decide +kernel)) ggX5_gather_X7_weightOf
set_option maxRecDepth 20000 in
theorem ggX5_gather_X7_holding : GoodIn wsX5_gather wsX7_holding := goodIn_r _ [18, 10, 19, 12, 13, 8, 14, 28, 29, 30, 31, 32, 33, 34, 35, 36, 37, 38, 39] (by decide +kernel) (by decide +kernel)
set_option maxRecDepth 20000 in
theorem gX5_gather_X7_holding : GoodIn wsX5_gather (wsV RX5 31 RX7 yX7_holding wsX7_holding) := goodIn_app (goodIn_of _ (by decide +kernel)) ggX5_gather_X7_holding
set_option maxRecDepth 20000 in
theorem ggX5_gather_X5_tally : GoodIn wsX5_gather wsX5_tally := goodIn_r _ [24, 1, 2, 3, 25, 26, 27] (by decide +kernel) (by decide +kernel)
set_option maxRecDepth 20000 in
theorem gX5_gather_X5_tally : GoodIn wsX5_gather (wsV RX5 34 RX5 yX5_tally wsX5_tally) := goodIn_app (goodIn_of _ (by decide +kernel)) ggX5_gather_X5_tally
theorem dX5_gather_0 : decode cX5_gather 0 = .ok (.aload_n 0, 1) := by decide +kernel
theorem dX5_gather_1 : decode cX5_gather 1 = .ok (.iconst 0, 1) := by decide +kernel
theorem dX5_gather_2 : decode cX5_gather 2 = .ok (.putfield 15, 3) := by decide +kernel
theorem dX5_gather_5 : decode cX5_gather 5 = .ok (.aload_n 0, 1) := by decide +kernel
theorem dX5_gather_6 : decode cX5_gather 6 = .ok (.iconst (-1), 1) := by decide +kernel
theorem dX5_gather_7 : decode cX5_gather 7 = .ok (.putfield 19, 3) := by decide +kernel
theorem dX5_gather_10 : decode cX5_gather 10 = .ok (.iconst 0, 1) := by decide +kernel
theorem dX5_gather_11 : decode cX5_gather 11 = .ok (.istore 4, 2) := by decide +kernel
theorem dX5_gather_13 : decode cX5_gather 13 = .ok (.iload 4, 2) := by decide +kernel
theorem dX5_gather_15 : decode cX5_gather 15 = .ok (.bipush 10, 2) := by decide +kernel
theorem dX5_gather_17 : decode cX5_gather 17 = .ok (.if_icmp .ge 17, 3) := by decide +kernel
theorem dX5_gather_20 : decode cX5_gather 20 = .ok (.aload_n 0, 1) := by decide +kernel
theorem dX5_gather_21 : decode cX5_gather 21 = .ok (.getfield 9, 3) := by decide +kernel
theorem dX5_gather_24 : decode cX5_gather 24 = .ok (.iload 4, 2) := by decide +kernel
theorem dX5_gather_26 : decode cX5_gather 26 = .ok (.iconst 0, 1) := by decide +kernel
theorem dX5_gather_27 : decode cX5_gather 27 = .ok (.iastore, 1) := by decide +kernel
theorem dX5_gather_28 : decode cX5_gather 28 = .ok (.iinc 4 1, 3) := by decide +kernel
theorem dX5_gather_31 : decode cX5_gather 31 = .ok (.goto (-18), 3) := by decide +kernel
theorem dX5_gather_34 : decode cX5_gather 34 = .ok (.iconst 0, 1) := by decide +kernel
theorem dX5_gather_35 : decode cX5_gather 35 = .ok (.istore 4, 2) := by decide +kernel
theorem dX5_gather_37 : decode cX5_gather 37 = .ok (.iload 4, 2) := by decide +kernel
theorem dX5_gather_39 : decode cX5_gather 39 = .ok (.iconst 1, 1) := by decide +kernel
theorem dX5_gather_40 : decode cX5_gather 40 = .ok (.aload_n 1, 1) := by decide +kernel
theorem dX5_gather_41 : decode cX5_gather 41 = .ok (.getfield 22, 3) := by decide +kernel
theorem dX5_gather_44 : decode cX5_gather 44 = .ok (.ishl, 1) := by decide +kernel
theorem dX5_gather_45 : decode cX5_gather 45 = .ok (.if_icmp .ge 42, 3) := by decide +kernel
theorem dX5_gather_48 : decode cX5_gather 48 = .ok (.iload 4, 2) := by decide +kernel
theorem dX5_gather_50 : decode cX5_gather 50 = .ok (.iload_n 2, 1) := by decide +kernel
theorem dX5_gather_51 : decode cX5_gather 51 = .ok (.iand, 1) := by decide +kernel
theorem dX5_gather_52 : decode cX5_gather 52 = .ok (.ifCond .ne 29, 3) := by decide +kernel
theorem dX5_gather_55 : decode cX5_gather 55 = .ok (.aload_n 1, 1) := by decide +kernel
theorem dX5_gather_56 : decode cX5_gather 56 = .ok (.iload 4, 2) := by decide +kernel
theorem dX5_gather_58 : decode cX5_gather 58 = .ok (.invokevirtual 27, 3) := by decide +kernel
theorem dX5_gather_61 : decode cX5_gather 61 = .ok (.iload_n 3, 1) := by decide +kernel
theorem dX5_gather_62 : decode cX5_gather 62 = .ok (.if_icmp .ne 19, 3) := by decide +kernel
theorem dX5_gather_65 : decode cX5_gather 65 = .ok (.aload_n 1, 1) := by decide +kernel
theorem dX5_gather_66 : decode cX5_gather 66 = .ok (.iload 4, 2) := by decide +kernel
theorem dX5_gather_68 : decode cX5_gather 68 = .ok (.invokevirtual 31, 3) := by decide +kernel
theorem dX5_gather_71 : decode cX5_gather 71 = .ok (.iload_n 2, 1) := by decide +kernel
theorem dX5_gather_72 : decode cX5_gather 72 = .ok (.if_icmp .ne 9, 3) := by decide +kernel
theorem dX5_gather_75 : decode cX5_gather 75 = .ok (.aload_n 0, 1) := by decide +kernel
theorem dX5_gather_76 : decode cX5_gather 76 = .ok (.iload 4, 2) := by decide +kernel
theorem dX5_gather_78 : decode cX5_gather 78 = .ok (.invokevirtual 34, 3) := by decide +kernel
theorem dX5_gather_81 : decode cX5_gather 81 = .ok (.iinc 4 1, 3) := by decide +kernel
theorem dX5_gather_84 : decode cX5_gather 84 = .ok (.goto (-47), 3) := by decide +kernel
theorem dX5_gather_87 : decode cX5_gather 87 = .ok (.return_, 1) := by decide +kernel
theorem dX5_tally_0 : decode cX5_tally 0 = .ok (.aload_n 0, 1) := by decide +kernel
theorem dX5_tally_1 : decode cX5_tally 1 = .ok (.dup, 1) := by decide +kernel
theorem dX5_tally_2 : decode cX5_tally 2 = .ok (.getfield 15, 3) := by decide +kernel
theorem dX5_tally_5 : decode cX5_tally 5 = .ok (.iconst 1, 1) := by decide +kernel
theorem dX5_tally_6 : decode cX5_tally 6 = .ok (.iadd, 1) := by decide +kernel
theorem dX5_tally_7 : decode cX5_tally 7 = .ok (.putfield 15, 3) := by decide +kernel
theorem dX5_tally_10 : decode cX5_tally 10 = .ok (.aload_n 0, 1) := by decide +kernel
theorem dX5_tally_11 : decode cX5_tally 11 = .ok (.dup, 1) := by decide +kernel
theorem dX5_tally_12 : decode cX5_tally 12 = .ok (.getfield 19, 3) := by decide +kernel
theorem dX5_tally_15 : decode cX5_tally 15 = .ok (.iload_n 1, 1) := by decide +kernel
theorem dX5_tally_16 : decode cX5_tally 16 = .ok (.iand, 1) := by decide +kernel
theorem dX5_tally_17 : decode cX5_tally 17 = .ok (.putfield 19, 3) := by decide +kernel
theorem dX5_tally_20 : decode cX5_tally 20 = .ok (.iconst 0, 1) := by decide +kernel
theorem dX5_tally_21 : decode cX5_tally 21 = .ok (.istore_n 2, 1) := by decide +kernel
theorem dX5_tally_22 : decode cX5_tally 22 = .ok (.iload_n 2, 1) := by decide +kernel
theorem dX5_tally_23 : decode cX5_tally 23 = .ok (.bipush 10, 2) := by decide +kernel
theorem dX5_tally_25 : decode cX5_tally 25 = .ok (.if_icmp .ge 23, 3) := by decide +kernel
theorem dX5_tally_28 : decode cX5_tally 28 = .ok (.aload_n 0, 1) := by decide +kernel
theorem dX5_tally_29 : decode cX5_tally 29 = .ok (.getfield 9, 3) := by decide +kernel
theorem dX5_tally_32 : decode cX5_tally 32 = .ok (.iload_n 2, 1) := by decide +kernel
theorem dX5_tally_33 : decode cX5_tally 33 = .ok (.dup2, 1) := by decide +kernel
theorem dX5_tally_34 : decode cX5_tally 34 = .ok (.iaload, 1) := by decide +kernel
theorem dX5_tally_35 : decode cX5_tally 35 = .ok (.iload_n 1, 1) := by decide +kernel
theorem dX5_tally_36 : decode cX5_tally 36 = .ok (.iload_n 2, 1) := by decide +kernel
theorem dX5_tally_37 : decode cX5_tally 37 = .ok (.ishr, 1) := by decide +kernel
theorem dX5_tally_38 : decode cX5_tally 38 = .ok (.iconst 1, 1) := by decide +kernel
theorem dX5_tally_39 : decode cX5_tally 39 = .ok (.iand, 1) := by decide +kernel
theorem dX5_tally_40 : decode cX5_tally 40 = .ok (.iadd, 1) := by decide +kernel
theorem dX5_tally_41 : decode cX5_tally 41 = .ok (.iastore, 1) := by decide +kernel
theorem dX5_tally_42 : decode cX5_tally 42 = .ok (.iinc 2 1, 3) := by decide +kernel
theorem dX5_tally_45 : decode cX5_tally 45 = .ok (.goto (-23), 3) := by decide +kernel
theorem dX5_tally_48 : decode cX5_tally 48 = .ok (.return_, 1) := by decide +kernel
theorem dX5_frog_0 : decode cX5_frog 0 = .ok (.iconst (-1), 1) := by decide +kernel
theorem dX5_frog_1 : decode cX5_frog 1 = .ok (.istore_n 2, 1) := by decide +kernel
theorem dX5_frog_2 : decode cX5_frog 2 = .ok (.aload_n 0, 1) := by decide +kernel
theorem dX5_frog_3 : decode cX5_frog 3 = .ok (.getfield 15, 3) := by decide +kernel
theorem dX5_frog_6 : decode cX5_frog 6 = .ok (.istore_n 3, 1) := by decide +kernel
theorem dX5_frog_7 : decode cX5_frog 7 = .ok (.iconst 0, 1) := by decide +kernel
theorem dX5_frog_8 : decode cX5_frog 8 = .ok (.istore 4, 2) := by decide +kernel
theorem dX5_frog_10 : decode cX5_frog 10 = .ok (.iload 4, 2) := by decide +kernel
theorem dX5_frog_12 : decode cX5_frog 12 = .ok (.iload_n 1, 1) := by decide +kernel
theorem dX5_frog_13 : decode cX5_frog 13 = .ok (.if_icmp .ge 52, 3) := by decide +kernel
theorem dX5_frog_16 : decode cX5_frog 16 = .ok (.iload 4, 2) := by decide +kernel
theorem dX5_frog_18 : decode cX5_frog 18 = .ok (.bipush 10, 2) := by decide +kernel
theorem dX5_frog_20 : decode cX5_frog 20 = .ok (.if_icmp .ge 45, 3) := by decide +kernel
theorem dX5_frog_23 : decode cX5_frog 23 = .ok (.aload_n 0, 1) := by decide +kernel
theorem dX5_frog_24 : decode cX5_frog 24 = .ok (.getfield 9, 3) := by decide +kernel
theorem dX5_frog_27 : decode cX5_frog 27 = .ok (.iload 4, 2) := by decide +kernel
theorem dX5_frog_29 : decode cX5_frog 29 = .ok (.iaload, 1) := by decide +kernel
theorem dX5_frog_30 : decode cX5_frog 30 = .ok (.aload_n 0, 1) := by decide +kernel
theorem dX5_frog_31 : decode cX5_frog 31 = .ok (.getfield 15, 3) := by decide +kernel
theorem dX5_frog_34 : decode cX5_frog 34 = .ok (.aload_n 0, 1) := by decide +kernel
theorem dX5_frog_35 : decode cX5_frog 35 = .ok (.getfield 9, 3) := by decide +kernel
theorem dX5_frog_38 : decode cX5_frog 38 = .ok (.iload 4, 2) := by decide +kernel
theorem dX5_frog_40 : decode cX5_frog 40 = .ok (.iaload, 1) := by decide +kernel
theorem dX5_frog_41 : decode cX5_frog 41 = .ok (.isub, 1) := by decide +kernel
theorem dX5_frog_42 : decode cX5_frog 42 = .ok (.invokestatic 38, 3) := by decide +kernel
theorem dX5_frog_45 : decode cX5_frog 45 = .ok (.istore 5, 2) := by decide +kernel
theorem dX5_frog_47 : decode cX5_frog 47 = .ok (.iload 5, 2) := by decide +kernel
theorem dX5_frog_49 : decode cX5_frog 49 = .ok (.iload_n 3, 1) := by decide +kernel
theorem dX5_frog_50 : decode cX5_frog 50 = .ok (.if_icmp .ge 9, 3) := by decide +kernel
theorem dX5_frog_53 : decode cX5_frog 53 = .ok (.iload 5, 2) := by decide +kernel
theorem dX5_frog_55 : decode cX5_frog 55 = .ok (.istore_n 3, 1) := by decide +kernel
theorem dX5_frog_56 : decode cX5_frog 56 = .ok (.iload 4, 2) := by decide +kernel
theorem dX5_frog_58 : decode cX5_frog 58 = .ok (.istore_n 2, 1) := by decide +kernel
theorem dX5_frog_59 : decode cX5_frog 59 = .ok (.iinc 4 1, 3) := by decide +kernel
theorem dX5_frog_62 : decode cX5_frog 62 = .ok (.goto (-52), 3) := by decide +kernel
theorem dX5_frog_65 : decode cX5_frog 65 = .ok (.iload_n 2, 1) := by decide +kernel
theorem dX5_frog_66 : decode cX5_frog 66 = .ok (.ireturn, 1) := by decide +kernel
theorem dX6_init_0 : decode cX6_init 0 = .ok (.aload_n 0, 1) := by decide +kernel
theorem dX6_init_1 : decode cX6_init 1 = .ok (.invokespecial 3, 3) := by decide +kernel
theorem dX6_init_4 : decode cX6_init 4 = .ok (.aload_n 0, 1) := by decide +kernel
theorem dX6_init_5 : decode cX6_init 5 = .ok (.bipush 10, 2) := by decide +kernel
theorem dX6_init_7 : decode cX6_init 7 = .ok (.newarray .int, 2) := by decide +kernel
theorem dX6_init_9 : decode cX6_init 9 = .ok (.putfield 9, 3) := by decide +kernel
theorem dX6_init_12 : decode cX6_init 12 = .ok (.aload_n 0, 1) := by decide +kernel
theorem dX6_init_13 : decode cX6_init 13 = .ok (.bipush 6, 2) := by decide +kernel
theorem dX6_init_15 : decode cX6_init 15 = .ok (.newarray .int, 2) := by decide +kernel
theorem dX6_init_17 : decode cX6_init 17 = .ok (.putfield 15, 3) := by decide +kernel
theorem dX6_init_20 : decode cX6_init 20 = .ok (.aload_n 0, 1) := by decide +kernel
theorem dX6_init_21 : decode cX6_init 21 = .ok (.bipush 6, 2) := by decide +kernel
theorem dX6_init_23 : decode cX6_init 23 = .ok (.newarray .int, 2) := by decide +kernel
theorem dX6_init_25 : decode cX6_init 25 = .ok (.putfield 18, 3) := by decide +kernel
theorem dX6_init_28 : decode cX6_init 28 = .ok (.return_, 1) := by decide +kernel
theorem dX6_begin_0 : decode cX6_begin 0 = .ok (.aload_n 0, 1) := by decide +kernel
theorem dX6_begin_1 : decode cX6_begin 1 = .ok (.aload_n 1, 1) := by decide +kernel
theorem dX6_begin_2 : decode cX6_begin 2 = .ok (.getfield 21, 3) := by decide +kernel
theorem dX6_begin_5 : decode cX6_begin 5 = .ok (.putfield 27, 3) := by decide +kernel
theorem dX6_begin_8 : decode cX6_begin 8 = .ok (.aload_n 0, 1) := by decide +kernel
theorem dX6_begin_9 : decode cX6_begin 9 = .ok (.iconst 0, 1) := by decide +kernel
theorem dX6_begin_10 : decode cX6_begin 10 = .ok (.putfield 28, 3) := by decide +kernel
theorem dX6_begin_13 : decode cX6_begin 13 = .ok (.aload_n 0, 1) := by decide +kernel
theorem dX6_begin_14 : decode cX6_begin 14 = .ok (.iconst 0, 1) := by decide +kernel
theorem dX6_begin_15 : decode cX6_begin 15 = .ok (.putfield 31, 3) := by decide +kernel
theorem dX6_begin_18 : decode cX6_begin 18 = .ok (.aload_n 0, 1) := by decide +kernel
theorem dX6_begin_19 : decode cX6_begin 19 = .ok (.iconst 0, 1) := by decide +kernel
theorem dX6_begin_20 : decode cX6_begin 20 = .ok (.putfield 34, 3) := by decide +kernel
theorem dX6_begin_23 : decode cX6_begin 23 = .ok (.aload_n 0, 1) := by decide +kernel
theorem dX6_begin_24 : decode cX6_begin 24 = .ok (.iconst 0, 1) := by decide +kernel
theorem dX6_begin_25 : decode cX6_begin 25 = .ok (.putfield 37, 3) := by decide +kernel
theorem dX6_begin_28 : decode cX6_begin 28 = .ok (.aload_n 0, 1) := by decide +kernel
theorem dX6_begin_29 : decode cX6_begin 29 = .ok (.iconst 0, 1) := by decide +kernel
theorem dX6_begin_30 : decode cX6_begin 30 = .ok (.putfield 40, 3) := by decide +kernel
theorem dX6_begin_33 : decode cX6_begin 33 = .ok (.aload_n 0, 1) := by decide +kernel
theorem dX6_begin_34 : decode cX6_begin 34 = .ok (.iconst 0, 1) := by decide +kernel
theorem dX6_begin_35 : decode cX6_begin 35 = .ok (.putfield 43, 3) := by decide +kernel
theorem dX6_begin_38 : decode cX6_begin 38 = .ok (.iconst 0, 1) := by decide +kernel
theorem dX6_begin_39 : decode cX6_begin 39 = .ok (.istore_n 2, 1) := by decide +kernel
theorem dX6_begin_40 : decode cX6_begin 40 = .ok (.iload_n 2, 1) := by decide +kernel
theorem dX6_begin_41 : decode cX6_begin 41 = .ok (.aload_n 0, 1) := by decide +kernel
theorem dX6_begin_42 : decode cX6_begin 42 = .ok (.getfield 9, 3) := by decide +kernel
theorem dX6_begin_45 : decode cX6_begin 45 = .ok (.arraylength, 1) := by decide +kernel
theorem dX6_begin_46 : decode cX6_begin 46 = .ok (.if_icmp .ge 16, 3) := by decide +kernel
theorem dX6_begin_49 : decode cX6_begin 49 = .ok (.aload_n 0, 1) := by decide +kernel
theorem dX6_begin_50 : decode cX6_begin 50 = .ok (.getfield 9, 3) := by decide +kernel
theorem dX6_begin_53 : decode cX6_begin 53 = .ok (.iload_n 2, 1) := by decide +kernel
theorem dX6_begin_54 : decode cX6_begin 54 = .ok (.iconst 0, 1) := by decide +kernel
theorem dX6_begin_55 : decode cX6_begin 55 = .ok (.iastore, 1) := by decide +kernel
theorem dX6_begin_56 : decode cX6_begin 56 = .ok (.iinc 2 1, 3) := by decide +kernel
theorem dX6_begin_59 : decode cX6_begin 59 = .ok (.goto (-19), 3) := by decide +kernel
theorem dX6_begin_62 : decode cX6_begin 62 = .ok (.return_, 1) := by decide +kernel
theorem dX6_copyFrom_0 : decode cX6_copyFrom 0 = .ok (.aload_n 0, 1) := by decide +kernel
theorem dX6_copyFrom_1 : decode cX6_copyFrom 1 = .ok (.aload_n 1, 1) := by decide +kernel
theorem dX6_copyFrom_2 : decode cX6_copyFrom 2 = .ok (.getfield 27, 3) := by decide +kernel
theorem dX6_copyFrom_5 : decode cX6_copyFrom 5 = .ok (.putfield 27, 3) := by decide +kernel
theorem dX6_copyFrom_8 : decode cX6_copyFrom 8 = .ok (.aload_n 0, 1) := by decide +kernel
theorem dX6_copyFrom_9 : decode cX6_copyFrom 9 = .ok (.aload_n 1, 1) := by decide +kernel
theorem dX6_copyFrom_10 : decode cX6_copyFrom 10 = .ok (.getfield 28, 3) := by decide +kernel
theorem dX6_copyFrom_13 : decode cX6_copyFrom 13 = .ok (.putfield 28, 3) := by decide +kernel
theorem dX6_copyFrom_16 : decode cX6_copyFrom 16 = .ok (.aload_n 0, 1) := by decide +kernel
theorem dX6_copyFrom_17 : decode cX6_copyFrom 17 = .ok (.aload_n 1, 1) := by decide +kernel
theorem dX6_copyFrom_18 : decode cX6_copyFrom 18 = .ok (.getfield 31, 3) := by decide +kernel
theorem dX6_copyFrom_21 : decode cX6_copyFrom 21 = .ok (.putfield 31, 3) := by decide +kernel
theorem dX6_copyFrom_24 : decode cX6_copyFrom 24 = .ok (.aload_n 0, 1) := by decide +kernel
theorem dX6_copyFrom_25 : decode cX6_copyFrom 25 = .ok (.aload_n 1, 1) := by decide +kernel
theorem dX6_copyFrom_26 : decode cX6_copyFrom 26 = .ok (.getfield 34, 3) := by decide +kernel
theorem dX6_copyFrom_29 : decode cX6_copyFrom 29 = .ok (.putfield 34, 3) := by decide +kernel
theorem dX6_copyFrom_32 : decode cX6_copyFrom 32 = .ok (.aload_n 0, 1) := by decide +kernel
theorem dX6_copyFrom_33 : decode cX6_copyFrom 33 = .ok (.aload_n 1, 1) := by decide +kernel
theorem dX6_copyFrom_34 : decode cX6_copyFrom 34 = .ok (.getfield 37, 3) := by decide +kernel
theorem dX6_copyFrom_37 : decode cX6_copyFrom 37 = .ok (.putfield 37, 3) := by decide +kernel
theorem dX6_copyFrom_40 : decode cX6_copyFrom 40 = .ok (.aload_n 0, 1) := by decide +kernel
theorem dX6_copyFrom_41 : decode cX6_copyFrom 41 = .ok (.aload_n 1, 1) := by decide +kernel
theorem dX6_copyFrom_42 : decode cX6_copyFrom 42 = .ok (.getfield 40, 3) := by decide +kernel
theorem dX6_copyFrom_45 : decode cX6_copyFrom 45 = .ok (.putfield 40, 3) := by decide +kernel
theorem dX6_copyFrom_48 : decode cX6_copyFrom 48 = .ok (.aload_n 0, 1) := by decide +kernel
theorem dX6_copyFrom_49 : decode cX6_copyFrom 49 = .ok (.aload_n 1, 1) := by decide +kernel
theorem dX6_copyFrom_50 : decode cX6_copyFrom 50 = .ok (.getfield 43, 3) := by decide +kernel
theorem dX6_copyFrom_53 : decode cX6_copyFrom 53 = .ok (.putfield 43, 3) := by decide +kernel
theorem dX6_copyFrom_56 : decode cX6_copyFrom 56 = .ok (.aload_n 1, 1) := by decide +kernel
theorem dX6_copyFrom_57 : decode cX6_copyFrom 57 = .ok (.getfield 9, 3) := by decide +kernel
theorem dX6_copyFrom_60 : decode cX6_copyFrom 60 = .ok (.iconst 0, 1) := by decide +kernel
theorem dX6_copyFrom_61 : decode cX6_copyFrom 61 = .ok (.aload_n 0, 1) := by decide +kernel
theorem dX6_copyFrom_62 : decode cX6_copyFrom 62 = .ok (.getfield 9, 3) := by decide +kernel
theorem dX6_copyFrom_65 : decode cX6_copyFrom 65 = .ok (.iconst 0, 1) := by decide +kernel
theorem dX6_copyFrom_66 : decode cX6_copyFrom 66 = .ok (.bipush 10, 2) := by decide +kernel
theorem dX6_copyFrom_68 : decode cX6_copyFrom 68 = .ok (.invokestatic 46, 3) := by decide +kernel
theorem dX6_copyFrom_71 : decode cX6_copyFrom 71 = .ok (.aload_n 1, 1) := by decide +kernel
theorem dX6_copyFrom_72 : decode cX6_copyFrom 72 = .ok (.getfield 15, 3) := by decide +kernel
theorem dX6_copyFrom_75 : decode cX6_copyFrom 75 = .ok (.iconst 0, 1) := by decide +kernel
theorem dX6_copyFrom_76 : decode cX6_copyFrom 76 = .ok (.aload_n 0, 1) := by decide +kernel
theorem dX6_copyFrom_77 : decode cX6_copyFrom 77 = .ok (.getfield 15, 3) := by decide +kernel
theorem dX6_copyFrom_80 : decode cX6_copyFrom 80 = .ok (.iconst 0, 1) := by decide +kernel
theorem dX6_copyFrom_81 : decode cX6_copyFrom 81 = .ok (.bipush 6, 2) := by decide +kernel
theorem dX6_copyFrom_83 : decode cX6_copyFrom 83 = .ok (.invokestatic 46, 3) := by decide +kernel
theorem dX6_copyFrom_86 : decode cX6_copyFrom 86 = .ok (.aload_n 1, 1) := by decide +kernel
theorem dX6_copyFrom_87 : decode cX6_copyFrom 87 = .ok (.getfield 18, 3) := by decide +kernel
theorem dX6_copyFrom_90 : decode cX6_copyFrom 90 = .ok (.iconst 0, 1) := by decide +kernel
theorem dX6_copyFrom_91 : decode cX6_copyFrom 91 = .ok (.aload_n 0, 1) := by decide +kernel
theorem dX6_copyFrom_92 : decode cX6_copyFrom 92 = .ok (.getfield 18, 3) := by decide +kernel
theorem dX6_copyFrom_95 : decode cX6_copyFrom 95 = .ok (.iconst 0, 1) := by decide +kernel
theorem dX6_copyFrom_96 : decode cX6_copyFrom 96 = .ok (.bipush 6, 2) := by decide +kernel
theorem dX6_copyFrom_98 : decode cX6_copyFrom 98 = .ok (.invokestatic 46, 3) := by decide +kernel
theorem dX6_copyFrom_101 : decode cX6_copyFrom 101 = .ok (.return_, 1) := by decide +kernel
set_option maxRecDepth 20000 in
theorem ggX6_drawable_X7_hasPerson : GoodIn wsX6_drawable wsX7_hasPerson := goodIn_r _ [16, 17, 36, 37, 38, 39, 40, 41, 42, 43, 44, 45, 46, 47] (by decide +kernel) (by decide +kernel)
set_option maxRecDepth 20000 in
theorem gX6_drawable_X7_hasPerson : GoodIn wsX6_drawable (wsV RX6 52 RX7 yX7_hasPerson wsX7_hasPerson) := goodIn_app (goodIn_of _ (by decide +kernel)) ggX6_drawable_X7_hasPerson
set_option maxRecDepth 20000 in
theorem ggX6_drawable_X7_hasSaying : GoodIn wsX6_drawable wsX7_hasSaying := goodIn_r _ [21, 22, 36, 37, 38, 39, 40, 41, 42, 43, 44, 45, 46, 47] (by decide +kernel) (by decide +kernel)
set_option maxRecDepth 20000 in
theorem gX6_drawable_X7_hasSaying : GoodIn wsX6_drawable (wsV RX6 56 RX7 yX7_hasSaying wsX7_hasSaying) := goodIn_app (goodIn_of _ (by decide +kernel)) ggX6_drawable_X7_hasSaying
set_option maxRecDepth 20000 in
theorem ggX6_drawable_X7_isIn : GoodIn wsX6_drawable wsX7_isIn := goodIn_r _ [25] (by decide +kernel) (by decide +kernel)
set_option maxRecDepth 20000 in
theorem gX6_drawable_X7_isIn : GoodIn wsX6_drawable (va_wsS RX6 59 yX7_isIn wsX7_isIn) := goodIn_app (goodIn_of _ (by decide +kernel)) ggX6_drawable_X7_isIn
theorem dX6_drawable_0 : decode cX6_drawable 0 = .ok (.aload_n 1, 1) := by decide +kernel
theorem dX6_drawable_1 : decode cX6_drawable 1 = .ok (.iload_n 2, 1) := by decide +kernel
theorem dX6_drawable_2 : decode cX6_drawable 2 = .ok (.invokevirtual 52, 3) := by decide +kernel
theorem dX6_drawable_5 : decode cX6_drawable 5 = .ok (.ifCond .eq 27, 3) := by decide +kernel
theorem dX6_drawable_8 : decode cX6_drawable 8 = .ok (.aload_n 1, 1) := by decide +kernel
theorem dX6_drawable_9 : decode cX6_drawable 9 = .ok (.iload_n 3, 1) := by decide +kernel
theorem dX6_drawable_10 : decode cX6_drawable 10 = .ok (.invokevirtual 56, 3) := by decide +kernel
theorem dX6_drawable_13 : decode cX6_drawable 13 = .ok (.ifCond .eq 19, 3) := by decide +kernel
theorem dX6_drawable_16 : decode cX6_drawable 16 = .ok (.iload_n 3, 1) := by decide +kernel
theorem dX6_drawable_17 : decode cX6_drawable 17 = .ok (.aload_n 0, 1) := by decide +kernel
theorem dX6_drawable_18 : decode cX6_drawable 18 = .ok (.getfield 37, 3) := by decide +kernel
theorem dX6_drawable_21 : decode cX6_drawable 21 = .ok (.aload_n 0, 1) := by decide +kernel
theorem dX6_drawable_22 : decode cX6_drawable 22 = .ok (.getfield 40, 3) := by decide +kernel
theorem dX6_drawable_25 : decode cX6_drawable 25 = .ok (.ior, 1) := by decide +kernel
theorem dX6_drawable_26 : decode cX6_drawable 26 = .ok (.invokestatic 59, 3) := by decide +kernel
theorem dX6_drawable_29 : decode cX6_drawable 29 = .ok (.ifCond .eq 5, 3) := by decide +kernel
theorem dX6_drawable_32 : decode cX6_drawable 32 = .ok (.iconst 0, 1) := by decide +kernel
theorem dX6_drawable_33 : decode cX6_drawable 33 = .ok (.ireturn, 1) := by decide +kernel
theorem dX6_drawable_34 : decode cX6_drawable 34 = .ok (.aload_n 1, 1) := by decide +kernel
theorem dX6_drawable_35 : decode cX6_drawable 35 = .ok (.getfield 63, 3) := by decide +kernel
theorem dX6_drawable_38 : decode cX6_drawable 38 = .ok (.iload_n 3, 1) := by decide +kernel
theorem dX6_drawable_39 : decode cX6_drawable 39 = .ok (.iaload, 1) := by decide +kernel
theorem dX6_drawable_40 : decode cX6_drawable 40 = .ok (.aload_n 0, 1) := by decide +kernel
theorem dX6_drawable_41 : decode cX6_drawable 41 = .ok (.getfield 9, 3) := by decide +kernel
theorem dX6_drawable_44 : decode cX6_drawable 44 = .ok (.iload_n 3, 1) := by decide +kernel
theorem dX6_drawable_45 : decode cX6_drawable 45 = .ok (.iaload, 1) := by decide +kernel
theorem dX6_drawable_46 : decode cX6_drawable 46 = .ok (.isub, 1) := by decide +kernel
theorem dX6_drawable_47 : decode cX6_drawable 47 = .ok (.istore 4, 2) := by decide +kernel
theorem dX6_drawable_49 : decode cX6_drawable 49 = .ok (.aload_n 1, 1) := by decide +kernel
theorem dX6_drawable_50 : decode cX6_drawable 50 = .ok (.getfield 66, 3) := by decide +kernel
theorem dX6_drawable_53 : decode cX6_drawable 53 = .ok (.iload_n 2, 1) := by decide +kernel
theorem dX6_drawable_54 : decode cX6_drawable 54 = .ok (.iaload, 1) := by decide +kernel
theorem dX6_drawable_55 : decode cX6_drawable 55 = .ok (.aload_n 0, 1) := by decide +kernel
theorem dX6_drawable_56 : decode cX6_drawable 56 = .ok (.getfield 27, 3) := by decide +kernel
theorem dX6_drawable_59 : decode cX6_drawable 59 = .ok (.invokestatic 69, 3) := by decide +kernel
theorem dX6_drawable_62 : decode cX6_drawable 62 = .ok (.istore 5, 2) := by decide +kernel
theorem dX6_drawable_64 : decode cX6_drawable 64 = .ok (.aload_n 1, 1) := by decide +kernel
theorem dX6_drawable_65 : decode cX6_drawable 65 = .ok (.getfield 75, 3) := by decide +kernel
theorem dX6_drawable_68 : decode cX6_drawable 68 = .ok (.iload_n 3, 1) := by decide +kernel
theorem dX6_drawable_69 : decode cX6_drawable 69 = .ok (.iaload, 1) := by decide +kernel
theorem dX6_drawable_70 : decode cX6_drawable 70 = .ok (.iload_n 2, 1) := by decide +kernel
theorem dX6_drawable_71 : decode cX6_drawable 71 = .ok (.if_icmp .ne 13, 3) := by decide +kernel
theorem dX6_drawable_74 : decode cX6_drawable 74 = .ok (.iload 4, 2) := by decide +kernel
theorem dX6_drawable_76 : decode cX6_drawable 76 = .ok (.iload 5, 2) := by decide +kernel
theorem dX6_drawable_78 : decode cX6_drawable 78 = .ok (.invokestatic 69, 3) := by decide +kernel
theorem dX6_drawable_81 : decode cX6_drawable 81 = .ok (.goto 16, 3) := by decide +kernel
theorem dX6_drawable_84 : decode cX6_drawable 84 = .ok (.iconst 2, 1) := by decide +kernel
theorem dX6_drawable_85 : decode cX6_drawable 85 = .ok (.iload 4, 2) := by decide +kernel
theorem dX6_drawable_87 : decode cX6_drawable 87 = .ok (.imul, 1) := by decide +kernel
theorem dX6_drawable_88 : decode cX6_drawable 88 = .ok (.iload 5, 2) := by decide +kernel
theorem dX6_drawable_90 : decode cX6_drawable 90 = .ok (.iconst 2, 1) := by decide +kernel
theorem dX6_drawable_91 : decode cX6_drawable 91 = .ok (.idiv, 1) := by decide +kernel
theorem dX6_drawable_92 : decode cX6_drawable 92 = .ok (.iconst 2, 1) := by decide +kernel
theorem dX6_drawable_93 : decode cX6_drawable 93 = .ok (.imul, 1) := by decide +kernel
theorem dX6_drawable_94 : decode cX6_drawable 94 = .ok (.invokestatic 69, 3) := by decide +kernel
theorem dX6_drawable_97 : decode cX6_drawable 97 = .ok (.ireturn, 1) := by decide +kernel
set_option maxRecDepth 20000 in
theorem ggX6_pourOn_X6_drawable : GoodIn wsX6_pourOn wsX6_drawable := goodIn_r _ [11, 6, 12, 5, 3, 13, 1, 14, 15, 16, 17, 4, 18, 19, 20, 21, 22, 23, 24, 25, 26, 27, 28, 29, 30, 31, 32, 33, 34, 35, 36, 37, 38, 39, 40, 41, 42, 43, 44, 45, 46, 47, 48, 49, 50, 51, 52, 53] (by decide +kernel) (by decide +kernel)
set_option maxRecDepth 20000 in
theorem gX6_pourOn_X6_drawable : GoodIn wsX6_pourOn (wsV RX6 78 RX6 yX6_drawable wsX6_drawable) := goodIn_app (goodIn_of _ (by decide +kernel)) ggX6_pourOn_X6_drawable
theorem dX6_pourOn_0 : decode cX6_pourOn 0 = .ok (.aload_n 0, 1) := by decide +kernel
theorem dX6_pourOn_1 : decode cX6_pourOn 1 = .ok (.aload_n 1, 1) := by decide +kernel
theorem dX6_pourOn_2 : decode cX6_pourOn 2 = .ok (.iload_n 2, 1) := by decide +kernel
theorem dX6_pourOn_3 : decode cX6_pourOn 3 = .ok (.iload_n 3, 1) := by decide +kernel
theorem dX6_pourOn_4 : decode cX6_pourOn 4 = .ok (.invokevirtual 78, 3) := by decide +kernel
theorem dX6_pourOn_7 : decode cX6_pourOn 7 = .ok (.istore 4, 2) := by decide +kernel
theorem dX6_pourOn_9 : decode cX6_pourOn 9 = .ok (.iload 4, 2) := by decide +kernel
theorem dX6_pourOn_11 : decode cX6_pourOn 11 = .ok (.ifCond .ne 5, 3) := by decide +kernel
theorem dX6_pourOn_14 : decode cX6_pourOn 14 = .ok (.iconst 0, 1) := by decide +kernel
theorem dX6_pourOn_15 : decode cX6_pourOn 15 = .ok (.ireturn, 1) := by decide +kernel
theorem dX6_pourOn_16 : decode cX6_pourOn 16 = .ok (.aload_n 0, 1) := by decide +kernel
theorem dX6_pourOn_17 : decode cX6_pourOn 17 = .ok (.dup, 1) := by decide +kernel
theorem dX6_pourOn_18 : decode cX6_pourOn 18 = .ok (.getfield 27, 3) := by decide +kernel
theorem dX6_pourOn_21 : decode cX6_pourOn 21 = .ok (.iload 4, 2) := by decide +kernel
theorem dX6_pourOn_23 : decode cX6_pourOn 23 = .ok (.isub, 1) := by decide +kernel
theorem dX6_pourOn_24 : decode cX6_pourOn 24 = .ok (.putfield 27, 3) := by decide +kernel
theorem dX6_pourOn_27 : decode cX6_pourOn 27 = .ok (.aload_n 0, 1) := by decide +kernel
theorem dX6_pourOn_28 : decode cX6_pourOn 28 = .ok (.dup, 1) := by decide +kernel
theorem dX6_pourOn_29 : decode cX6_pourOn 29 = .ok (.getfield 31, 3) := by decide +kernel
theorem dX6_pourOn_32 : decode cX6_pourOn 32 = .ok (.iload 4, 2) := by decide +kernel
theorem dX6_pourOn_34 : decode cX6_pourOn 34 = .ok (.iadd, 1) := by decide +kernel
theorem dX6_pourOn_35 : decode cX6_pourOn 35 = .ok (.putfield 31, 3) := by decide +kernel
theorem dX6_pourOn_38 : decode cX6_pourOn 38 = .ok (.aload_n 0, 1) := by decide +kernel
theorem dX6_pourOn_39 : decode cX6_pourOn 39 = .ok (.getfield 9, 3) := by decide +kernel
theorem dX6_pourOn_42 : decode cX6_pourOn 42 = .ok (.iload_n 3, 1) := by decide +kernel
theorem dX6_pourOn_43 : decode cX6_pourOn 43 = .ok (.dup2, 1) := by decide +kernel
theorem dX6_pourOn_44 : decode cX6_pourOn 44 = .ok (.iaload, 1) := by decide +kernel
theorem dX6_pourOn_45 : decode cX6_pourOn 45 = .ok (.aload_n 1, 1) := by decide +kernel
theorem dX6_pourOn_46 : decode cX6_pourOn 46 = .ok (.getfield 75, 3) := by decide +kernel
theorem dX6_pourOn_49 : decode cX6_pourOn 49 = .ok (.iload_n 3, 1) := by decide +kernel
theorem dX6_pourOn_50 : decode cX6_pourOn 50 = .ok (.iaload, 1) := by decide +kernel
theorem dX6_pourOn_51 : decode cX6_pourOn 51 = .ok (.iload_n 2, 1) := by decide +kernel
theorem dX6_pourOn_52 : decode cX6_pourOn 52 = .ok (.if_icmp .ne 8, 3) := by decide +kernel
theorem dX6_pourOn_55 : decode cX6_pourOn 55 = .ok (.iload 4, 2) := by decide +kernel
theorem dX6_pourOn_57 : decode cX6_pourOn 57 = .ok (.goto 7, 3) := by decide +kernel
theorem dX6_pourOn_60 : decode cX6_pourOn 60 = .ok (.iload 4, 2) := by decide +kernel
theorem dX6_pourOn_62 : decode cX6_pourOn 62 = .ok (.iconst 2, 1) := by decide +kernel
theorem dX6_pourOn_63 : decode cX6_pourOn 63 = .ok (.idiv, 1) := by decide +kernel
theorem dX6_pourOn_64 : decode cX6_pourOn 64 = .ok (.iadd, 1) := by decide +kernel
theorem dX6_pourOn_65 : decode cX6_pourOn 65 = .ok (.iastore, 1) := by decide +kernel
theorem dX6_pourOn_66 : decode cX6_pourOn 66 = .ok (.aload_n 0, 1) := by decide +kernel
theorem dX6_pourOn_67 : decode cX6_pourOn 67 = .ok (.getfield 9, 3) := by decide +kernel
theorem dX6_pourOn_70 : decode cX6_pourOn 70 = .ok (.iload_n 3, 1) := by decide +kernel
theorem dX6_pourOn_71 : decode cX6_pourOn 71 = .ok (.iaload, 1) := by decide +kernel
theorem dX6_pourOn_72 : decode cX6_pourOn 72 = .ok (.aload_n 1, 1) := by decide +kernel
theorem dX6_pourOn_73 : decode cX6_pourOn 73 = .ok (.getfield 63, 3) := by decide +kernel
theorem dX6_pourOn_76 : decode cX6_pourOn 76 = .ok (.iload_n 3, 1) := by decide +kernel
theorem dX6_pourOn_77 : decode cX6_pourOn 77 = .ok (.iaload, 1) := by decide +kernel
theorem dX6_pourOn_78 : decode cX6_pourOn 78 = .ok (.if_icmp .lt 22, 3) := by decide +kernel
theorem dX6_pourOn_81 : decode cX6_pourOn 81 = .ok (.aload_n 0, 1) := by decide +kernel
theorem dX6_pourOn_82 : decode cX6_pourOn 82 = .ok (.dup, 1) := by decide +kernel
theorem dX6_pourOn_83 : decode cX6_pourOn 83 = .ok (.getfield 37, 3) := by decide +kernel
theorem dX6_pourOn_86 : decode cX6_pourOn 86 = .ok (.iconst 1, 1) := by decide +kernel
theorem dX6_pourOn_87 : decode cX6_pourOn 87 = .ok (.iload_n 3, 1) := by decide +kernel
theorem dX6_pourOn_88 : decode cX6_pourOn 88 = .ok (.ishl, 1) := by decide +kernel
theorem dX6_pourOn_89 : decode cX6_pourOn 89 = .ok (.ior, 1) := by decide +kernel
theorem dX6_pourOn_90 : decode cX6_pourOn 90 = .ok (.putfield 37, 3) := by decide +kernel
theorem dX6_pourOn_93 : decode cX6_pourOn 93 = .ok (.aload_n 0, 1) := by decide +kernel
theorem dX6_pourOn_94 : decode cX6_pourOn 94 = .ok (.getfield 9, 3) := by decide +kernel
theorem dX6_pourOn_97 : decode cX6_pourOn 97 = .ok (.iload_n 3, 1) := by decide +kernel
theorem dX6_pourOn_98 : decode cX6_pourOn 98 = .ok (.iconst 0, 1) := by decide +kernel
theorem dX6_pourOn_99 : decode cX6_pourOn 99 = .ok (.iastore, 1) := by decide +kernel
theorem dX6_pourOn_100 : decode cX6_pourOn 100 = .ok (.iload 4, 2) := by decide +kernel
theorem dX6_pourOn_102 : decode cX6_pourOn 102 = .ok (.ireturn, 1) := by decide +kernel
theorem dX6_sayAgain_0 : decode cX6_sayAgain 0 = .ok (.iload_n 1, 1) := by decide +kernel
theorem dX6_sayAgain_1 : decode cX6_sayAgain 1 = .ok (.ifCond .lt 12, 3) := by decide +kernel
theorem dX6_sayAgain_4 : decode cX6_sayAgain 4 = .ok (.iload_n 1, 1) := by decide +kernel
theorem dX6_sayAgain_5 : decode cX6_sayAgain 5 = .ok (.aload_n 0, 1) := by decide +kernel
theorem dX6_sayAgain_6 : decode cX6_sayAgain 6 = .ok (.getfield 9, 3) := by decide +kernel
theorem dX6_sayAgain_9 : decode cX6_sayAgain 9 = .ok (.arraylength, 1) := by decide +kernel
theorem dX6_sayAgain_10 : decode cX6_sayAgain 10 = .ok (.if_icmp .lt 5, 3) := by decide +kernel
theorem dX6_sayAgain_13 : decode cX6_sayAgain 13 = .ok (.iconst 0, 1) := by decide +kernel
theorem dX6_sayAgain_14 : decode cX6_sayAgain 14 = .ok (.ireturn, 1) := by decide +kernel
theorem dX6_sayAgain_15 : decode cX6_sayAgain 15 = .ok (.aload_n 0, 1) := by decide +kernel
theorem dX6_sayAgain_16 : decode cX6_sayAgain 16 = .ok (.getfield 9, 3) := by decide +kernel
theorem dX6_sayAgain_19 : decode cX6_sayAgain 19 = .ok (.iload_n 1, 1) := by decide +kernel
theorem dX6_sayAgain_20 : decode cX6_sayAgain 20 = .ok (.iaload, 1) := by decide +kernel
theorem dX6_sayAgain_21 : decode cX6_sayAgain 21 = .ok (.istore_n 2, 1) := by decide +kernel
theorem dX6_sayAgain_22 : decode cX6_sayAgain 22 = .ok (.aload_n 0, 1) := by decide +kernel
theorem dX6_sayAgain_23 : decode cX6_sayAgain 23 = .ok (.getfield 9, 3) := by decide +kernel
theorem dX6_sayAgain_26 : decode cX6_sayAgain 26 = .ok (.iload_n 1, 1) := by decide +kernel
theorem dX6_sayAgain_27 : decode cX6_sayAgain 27 = .ok (.iconst 0, 1) := by decide +kernel
theorem dX6_sayAgain_28 : decode cX6_sayAgain 28 = .ok (.iastore, 1) := by decide +kernel
theorem dX6_sayAgain_29 : decode cX6_sayAgain 29 = .ok (.aload_n 0, 1) := by decide +kernel
theorem dX6_sayAgain_30 : decode cX6_sayAgain 30 = .ok (.dup, 1) := by decide +kernel
theorem dX6_sayAgain_31 : decode cX6_sayAgain 31 = .ok (.getfield 37, 3) := by decide +kernel
theorem dX6_sayAgain_34 : decode cX6_sayAgain 34 = .ok (.iconst 1, 1) := by decide +kernel
theorem dX6_sayAgain_35 : decode cX6_sayAgain 35 = .ok (.iload_n 1, 1) := by decide +kernel
theorem dX6_sayAgain_36 : decode cX6_sayAgain 36 = .ok (.ishl, 1) := by decide +kernel
theorem dX6_sayAgain_37 : decode cX6_sayAgain 37 = .ok (.iconst (-1), 1) := by decide +kernel
theorem dX6_sayAgain_38 : decode cX6_sayAgain 38 = .ok (.ixor, 1) := by decide +kernel
theorem dX6_sayAgain_39 : decode cX6_sayAgain 39 = .ok (.iand, 1) := by decide +kernel
theorem dX6_sayAgain_40 : decode cX6_sayAgain 40 = .ok (.putfield 37, 3) := by decide +kernel
theorem dX6_sayAgain_43 : decode cX6_sayAgain 43 = .ok (.iload_n 2, 1) := by decide +kernel
theorem dX6_sayAgain_44 : decode cX6_sayAgain 44 = .ok (.ireturn, 1) := by decide +kernel
theorem dX6_passNight_0 : decode cX6_passNight 0 = .ok (.aload_n 0, 1) := by decide +kernel
theorem dX6_passNight_1 : decode cX6_passNight 1 = .ok (.aload_n 0, 1) := by decide +kernel
theorem dX6_passNight_2 : decode cX6_passNight 2 = .ok (.getfield 27, 3) := by decide +kernel
theorem dX6_passNight_5 : decode cX6_passNight 5 = .ok (.iload_n 1, 1) := by decide +kernel
theorem dX6_passNight_6 : decode cX6_passNight 6 = .ok (.iadd, 1) := by decide +kernel
theorem dX6_passNight_7 : decode cX6_passNight 7 = .ok (.aload_n 0, 1) := by decide +kernel
theorem dX6_passNight_8 : decode cX6_passNight 8 = .ok (.getfield 28, 3) := by decide +kernel
theorem dX6_passNight_11 : decode cX6_passNight 11 = .ok (.iadd, 1) := by decide +kernel
theorem dX6_passNight_12 : decode cX6_passNight 12 = .ok (.bipush 99, 2) := by decide +kernel
theorem dX6_passNight_14 : decode cX6_passNight 14 = .ok (.invokestatic 69, 3) := by decide +kernel
theorem dX6_passNight_17 : decode cX6_passNight 17 = .ok (.putfield 27, 3) := by decide +kernel
theorem dX6_passNight_20 : decode cX6_passNight 20 = .ok (.aload_n 0, 1) := by decide +kernel
theorem dX6_passNight_21 : decode cX6_passNight 21 = .ok (.iconst 0, 1) := by decide +kernel
theorem dX6_passNight_22 : decode cX6_passNight 22 = .ok (.putfield 31, 3) := by decide +kernel
theorem dX6_passNight_25 : decode cX6_passNight 25 = .ok (.aload_n 0, 1) := by decide +kernel
theorem dX6_passNight_26 : decode cX6_passNight 26 = .ok (.aload_n 0, 1) := by decide +kernel
theorem dX6_passNight_27 : decode cX6_passNight 27 = .ok (.getfield 28, 3) := by decide +kernel
theorem dX6_passNight_30 : decode cX6_passNight 30 = .ok (.iconst 2, 1) := by decide +kernel
theorem dX6_passNight_31 : decode cX6_passNight 31 = .ok (.idiv, 1) := by decide +kernel
theorem dX6_passNight_32 : decode cX6_passNight 32 = .ok (.putfield 28, 3) := by decide +kernel
theorem dX6_passNight_35 : decode cX6_passNight 35 = .ok (.aload_n 0, 1) := by decide +kernel
theorem dX6_passNight_36 : decode cX6_passNight 36 = .ok (.dup, 1) := by decide +kernel
theorem dX6_passNight_37 : decode cX6_passNight 37 = .ok (.getfield 34, 3) := by decide +kernel
theorem dX6_passNight_40 : decode cX6_passNight 40 = .ok (.iconst 1, 1) := by decide +kernel
theorem dX6_passNight_41 : decode cX6_passNight 41 = .ok (.iadd, 1) := by decide +kernel
theorem dX6_passNight_42 : decode cX6_passNight 42 = .ok (.putfield 34, 3) := by decide +kernel
theorem dX6_passNight_45 : decode cX6_passNight 45 = .ok (.return_, 1) := by decide +kernel
theorem dX6_joinQueue_0 : decode cX6_joinQueue 0 = .ok (.aload_n 0, 1) := by decide +kernel
theorem dX6_joinQueue_1 : decode cX6_joinQueue 1 = .ok (.getfield 43, 3) := by decide +kernel
theorem dX6_joinQueue_4 : decode cX6_joinQueue 4 = .ok (.bipush 6, 2) := by decide +kernel
theorem dX6_joinQueue_6 : decode cX6_joinQueue 6 = .ok (.if_icmp .ge 33, 3) := by decide +kernel
theorem dX6_joinQueue_9 : decode cX6_joinQueue 9 = .ok (.aload_n 0, 1) := by decide +kernel
theorem dX6_joinQueue_10 : decode cX6_joinQueue 10 = .ok (.getfield 15, 3) := by decide +kernel
theorem dX6_joinQueue_13 : decode cX6_joinQueue 13 = .ok (.aload_n 0, 1) := by decide +kernel
theorem dX6_joinQueue_14 : decode cX6_joinQueue 14 = .ok (.getfield 43, 3) := by decide +kernel
theorem dX6_joinQueue_17 : decode cX6_joinQueue 17 = .ok (.iload_n 1, 1) := by decide +kernel
theorem dX6_joinQueue_18 : decode cX6_joinQueue 18 = .ok (.iastore, 1) := by decide +kernel
theorem dX6_joinQueue_19 : decode cX6_joinQueue 19 = .ok (.aload_n 0, 1) := by decide +kernel
theorem dX6_joinQueue_20 : decode cX6_joinQueue 20 = .ok (.getfield 18, 3) := by decide +kernel
theorem dX6_joinQueue_23 : decode cX6_joinQueue 23 = .ok (.aload_n 0, 1) := by decide +kernel
theorem dX6_joinQueue_24 : decode cX6_joinQueue 24 = .ok (.getfield 43, 3) := by decide +kernel
theorem dX6_joinQueue_27 : decode cX6_joinQueue 27 = .ok (.iload_n 2, 1) := by decide +kernel
theorem dX6_joinQueue_28 : decode cX6_joinQueue 28 = .ok (.iastore, 1) := by decide +kernel
theorem dX6_joinQueue_29 : decode cX6_joinQueue 29 = .ok (.aload_n 0, 1) := by decide +kernel
theorem dX6_joinQueue_30 : decode cX6_joinQueue 30 = .ok (.dup, 1) := by decide +kernel
theorem dX6_joinQueue_31 : decode cX6_joinQueue 31 = .ok (.getfield 43, 3) := by decide +kernel
theorem dX6_joinQueue_34 : decode cX6_joinQueue 34 = .ok (.iconst 1, 1) := by decide +kernel
theorem dX6_joinQueue_35 : decode cX6_joinQueue 35 = .ok (.iadd, 1) := by decide +kernel
theorem dX6_joinQueue_36 : decode cX6_joinQueue 36 = .ok (.putfield 43, 3) := by decide +kernel
theorem dX6_joinQueue_39 : decode cX6_joinQueue 39 = .ok (.return_, 1) := by decide +kernel
set_option maxRecDepth 20000 in
theorem ggX6_takeTurn_X6_pourOn : GoodIn wsX6_takeTurn wsX6_pourOn := goodIn_r _ [8, 9, 10, 11, 12, 13, 3, 14, 15, 16, 7, 17, 18, 19, 20, 21, 22, 23, 24, 25, 26, 27, 28, 29, 30, 31, 32, 33, 34, 35, 36, 37, 50, 51, 52, 53, 54, 55, 56, 57, 58, 59, 60, 61, 62, 63, 64, 65, 66, 67, 68, 69, 70, 71] (by decide +kernel) (by decide +kernel)
set_option maxRecDepth 20000 in
theorem gX6_takeTurn_X6_pourOn : GoodIn wsX6_takeTurn (wsV RX6 82 RX6 yX6_pourOn wsX6_pourOn) := goodIn_app (goodIn_of _ (by decide +kernel)) ggX6_takeTurn_X6_pourOn
set_option maxRecDepth 20000 in
theorem ggX6_takeTurn_X6_leaveQueue : GoodIn wsX6_takeTurn wsX6_leaveQueue := goodIn_r _ [41, 42, 1, 2, 43, 44, 22, 45, 50, 51, 52, 53, 54, 55, 56, 57, 58, 59] (by decide +kernel) (by decide +kernel)
set_option maxRecDepth 20000 in
theorem gX6_takeTurn_X6_leaveQueue : GoodIn wsX6_takeTurn (wsV RX6 85 RX6 yX6_leaveQueue wsX6_leaveQueue) := goodIn_app (goodIn_of _ (by decide +kernel)) ggX6_takeTurn_X6_leaveQueue
set_option maxRecDepth 20000 in
theorem ggX6_takeTurn_X7_isIn : GoodIn wsX6_takeTurn wsX7_isIn := goodIn_r _ [37] (by decide +kernel) (by decide +kernel)
set_option maxRecDepth 20000 in
theorem gX6_takeTurn_X7_isIn : GoodIn wsX6_takeTurn (va_wsS RX6 59 yX7_isIn wsX7_isIn) := goodIn_app (goodIn_of _ (by decide +kernel)) ggX6_takeTurn_X7_isIn
set_option maxRecDepth 20000 in
theorem ggX6_takeTurn_X6_joinQueue : GoodIn wsX6_takeTurn wsX6_joinQueue := goodIn_r _ [49, 42, 1, 2, 50, 51, 52, 53, 54, 55, 56, 57, 58, 59] (by decide +kernel) (by decide +kernel)
set_option maxRecDepth 20000 in
theorem gX6_takeTurn_X6_joinQueue : GoodIn wsX6_takeTurn (wsV RX6 88 RX6 yX6_joinQueue wsX6_joinQueue) := goodIn_app (goodIn_of _ (by decide +kernel)) ggX6_takeTurn_X6_joinQueue
theorem dX6_takeTurn_0 : decode cX6_takeTurn 0 = .ok (.aload_n 0, 1) := by decide +kernel
theorem dX6_takeTurn_1 : decode cX6_takeTurn 1 = .ok (.getfield 15, 3) := by decide +kernel
theorem dX6_takeTurn_4 : decode cX6_takeTurn 4 = .ok (.iconst 0, 1) := by decide +kernel
theorem dX6_takeTurn_5 : decode cX6_takeTurn 5 = .ok (.iaload, 1) := by decide +kernel
theorem dX6_takeTurn_6 : decode cX6_takeTurn 6 = .ok (.istore_n 2, 1) := by decide +kernel
theorem dX6_takeTurn_7 : decode cX6_takeTurn 7 = .ok (.aload_n 0, 1) := by decide +kernel
theorem dX6_takeTurn_8 : decode cX6_takeTurn 8 = .ok (.getfield 18, 3) := by decide +kernel
theorem dX6_takeTurn_11 : decode cX6_takeTurn 11 = .ok (.iconst 0, 1) := by decide +kernel
theorem dX6_takeTurn_12 : decode cX6_takeTurn 12 = .ok (.iaload, 1) := by decide +kernel
theorem dX6_takeTurn_13 : decode cX6_takeTurn 13 = .ok (.istore_n 3, 1) := by decide +kernel
theorem dX6_takeTurn_14 : decode cX6_takeTurn 14 = .ok (.aload_n 0, 1) := by decide +kernel
theorem dX6_takeTurn_15 : decode cX6_takeTurn 15 = .ok (.aload_n 1, 1) := by decide +kernel
theorem dX6_takeTurn_16 : decode cX6_takeTurn 16 = .ok (.iload_n 2, 1) := by decide +kernel
theorem dX6_takeTurn_17 : decode cX6_takeTurn 17 = .ok (.iload_n 3, 1) := by decide +kernel
theorem dX6_takeTurn_18 : decode cX6_takeTurn 18 = .ok (.invokevirtual 82, 3) := by decide +kernel
theorem dX6_takeTurn_21 : decode cX6_takeTurn 21 = .ok (.istore 4, 2) := by decide +kernel
theorem dX6_takeTurn_23 : decode cX6_takeTurn 23 = .ok (.aload_n 0, 1) := by decide +kernel
theorem dX6_takeTurn_24 : decode cX6_takeTurn 24 = .ok (.invokevirtual 85, 3) := by decide +kernel
theorem dX6_takeTurn_27 : decode cX6_takeTurn 27 = .ok (.iload 4, 2) := by decide +kernel
theorem dX6_takeTurn_29 : decode cX6_takeTurn 29 = .ok (.ifCond .le 20, 3) := by decide +kernel
theorem dX6_takeTurn_32 : decode cX6_takeTurn 32 = .ok (.iload_n 3, 1) := by decide +kernel
theorem dX6_takeTurn_33 : decode cX6_takeTurn 33 = .ok (.aload_n 0, 1) := by decide +kernel
theorem dX6_takeTurn_34 : decode cX6_takeTurn 34 = .ok (.getfield 37, 3) := by decide +kernel
theorem dX6_takeTurn_37 : decode cX6_takeTurn 37 = .ok (.invokestatic 59, 3) := by decide +kernel
theorem dX6_takeTurn_40 : decode cX6_takeTurn 40 = .ok (.ifCond .ne 9, 3) := by decide +kernel
theorem dX6_takeTurn_43 : decode cX6_takeTurn 43 = .ok (.aload_n 0, 1) := by decide +kernel
theorem dX6_takeTurn_44 : decode cX6_takeTurn 44 = .ok (.iload_n 2, 1) := by decide +kernel
theorem dX6_takeTurn_45 : decode cX6_takeTurn 45 = .ok (.iload_n 3, 1) := by decide +kernel
theorem dX6_takeTurn_46 : decode cX6_takeTurn 46 = .ok (.invokevirtual 88, 3) := by decide +kernel
theorem dX6_takeTurn_49 : decode cX6_takeTurn 49 = .ok (.iload 4, 2) := by decide +kernel
theorem dX6_takeTurn_51 : decode cX6_takeTurn 51 = .ok (.ireturn, 1) := by decide +kernel
theorem dX6_leaveQueue_0 : decode cX6_leaveQueue 0 = .ok (.iconst 1, 1) := by decide +kernel
theorem dX6_leaveQueue_1 : decode cX6_leaveQueue 1 = .ok (.istore_n 1, 1) := by decide +kernel
theorem dX6_leaveQueue_2 : decode cX6_leaveQueue 2 = .ok (.iload_n 1, 1) := by decide +kernel
theorem dX6_leaveQueue_3 : decode cX6_leaveQueue 3 = .ok (.aload_n 0, 1) := by decide +kernel
theorem dX6_leaveQueue_4 : decode cX6_leaveQueue 4 = .ok (.getfield 43, 3) := by decide +kernel
theorem dX6_leaveQueue_7 : decode cX6_leaveQueue 7 = .ok (.if_icmp .ge 43, 3) := by decide +kernel
theorem dX6_leaveQueue_10 : decode cX6_leaveQueue 10 = .ok (.iload_n 1, 1) := by decide +kernel
theorem dX6_leaveQueue_11 : decode cX6_leaveQueue 11 = .ok (.bipush 6, 2) := by decide +kernel
theorem dX6_leaveQueue_13 : decode cX6_leaveQueue 13 = .ok (.if_icmp .ge 37, 3) := by decide +kernel
theorem dX6_leaveQueue_16 : decode cX6_leaveQueue 16 = .ok (.aload_n 0, 1) := by decide +kernel
theorem dX6_leaveQueue_17 : decode cX6_leaveQueue 17 = .ok (.getfield 15, 3) := by decide +kernel
theorem dX6_leaveQueue_20 : decode cX6_leaveQueue 20 = .ok (.iload_n 1, 1) := by decide +kernel
theorem dX6_leaveQueue_21 : decode cX6_leaveQueue 21 = .ok (.iconst 1, 1) := by decide +kernel
theorem dX6_leaveQueue_22 : decode cX6_leaveQueue 22 = .ok (.isub, 1) := by decide +kernel
theorem dX6_leaveQueue_23 : decode cX6_leaveQueue 23 = .ok (.aload_n 0, 1) := by decide +kernel
theorem dX6_leaveQueue_24 : decode cX6_leaveQueue 24 = .ok (.getfield 15, 3) := by decide +kernel
theorem dX6_leaveQueue_27 : decode cX6_leaveQueue 27 = .ok (.iload_n 1, 1) := by decide +kernel
theorem dX6_leaveQueue_28 : decode cX6_leaveQueue 28 = .ok (.iaload, 1) := by decide +kernel
theorem dX6_leaveQueue_29 : decode cX6_leaveQueue 29 = .ok (.iastore, 1) := by decide +kernel
theorem dX6_leaveQueue_30 : decode cX6_leaveQueue 30 = .ok (.aload_n 0, 1) := by decide +kernel
theorem dX6_leaveQueue_31 : decode cX6_leaveQueue 31 = .ok (.getfield 18, 3) := by decide +kernel
theorem dX6_leaveQueue_34 : decode cX6_leaveQueue 34 = .ok (.iload_n 1, 1) := by decide +kernel
theorem dX6_leaveQueue_35 : decode cX6_leaveQueue 35 = .ok (.iconst 1, 1) := by decide +kernel
theorem dX6_leaveQueue_36 : decode cX6_leaveQueue 36 = .ok (.isub, 1) := by decide +kernel
theorem dX6_leaveQueue_37 : decode cX6_leaveQueue 37 = .ok (.aload_n 0, 1) := by decide +kernel
theorem dX6_leaveQueue_38 : decode cX6_leaveQueue 38 = .ok (.getfield 18, 3) := by decide +kernel
theorem dX6_leaveQueue_41 : decode cX6_leaveQueue 41 = .ok (.iload_n 1, 1) := by decide +kernel
theorem dX6_leaveQueue_42 : decode cX6_leaveQueue 42 = .ok (.iaload, 1) := by decide +kernel
theorem dX6_leaveQueue_43 : decode cX6_leaveQueue 43 = .ok (.iastore, 1) := by decide +kernel
theorem dX6_leaveQueue_44 : decode cX6_leaveQueue 44 = .ok (.iinc 1 1, 3) := by decide +kernel
theorem dX6_leaveQueue_47 : decode cX6_leaveQueue 47 = .ok (.goto (-45), 3) := by decide +kernel
theorem dX6_leaveQueue_50 : decode cX6_leaveQueue 50 = .ok (.aload_n 0, 1) := by decide +kernel
theorem dX6_leaveQueue_51 : decode cX6_leaveQueue 51 = .ok (.aload_n 0, 1) := by decide +kernel
theorem dX6_leaveQueue_52 : decode cX6_leaveQueue 52 = .ok (.getfield 43, 3) := by decide +kernel
theorem dX6_leaveQueue_55 : decode cX6_leaveQueue 55 = .ok (.iconst 1, 1) := by decide +kernel
theorem dX6_leaveQueue_56 : decode cX6_leaveQueue 56 = .ok (.isub, 1) := by decide +kernel
theorem dX6_leaveQueue_57 : decode cX6_leaveQueue 57 = .ok (.iconst 0, 1) := by decide +kernel
theorem dX6_leaveQueue_58 : decode cX6_leaveQueue 58 = .ok (.invokestatic 92, 3) := by decide +kernel
theorem dX6_leaveQueue_61 : decode cX6_leaveQueue 61 = .ok (.putfield 43, 3) := by decide +kernel
theorem dX6_leaveQueue_64 : decode cX6_leaveQueue 64 = .ok (.return_, 1) := by decide +kernel
set_option maxRecDepth 20000 in
theorem ggX6_driftAheadOfNight_X1_next : GoodIn wsX6_driftAheadOfNight wsX1_next := goodIn_r _ [8, 9, 10, 11, 12, 13, 75] (by decide +kernel) (by decide +kernel)
set_option maxRecDepth 20000 in
theorem gX6_driftAheadOfNight_X1_next : GoodIn wsX6_driftAheadOfNight (wsV RX6 101 RX1 yX1_next wsX1_next) := goodIn_app (goodIn_of _ (by decide +kernel)) ggX6_driftAheadOfNight_X1_next
set_option maxRecDepth 20000 in
theorem ggX6_driftAheadOfNight_X6_pourOn : GoodIn wsX6_driftAheadOfNight wsX6_pourOn := goodIn_r _ [18, 19, 20, 21, 22, 23, 24, 25, 26, 27, 17, 28, 29, 30, 31, 32, 33, 34, 35, 36, 37, 38, 39, 40, 41, 42, 43, 44, 45, 46, 47, 48, 65, 66, 67, 68, 69, 70, 71, 72, 73, 74, 53, 54, 55, 56, 57, 58, 59, 60, 61, 62, 63, 64] (by decide +kernel) (by decide +kernel)
set_option maxRecDepth 20000 in
theorem gX6_driftAheadOfNight_X6_pourOn : GoodIn wsX6_driftAheadOfNight (wsV RX6 82 RX6 yX6_pourOn wsX6_pourOn) := goodIn_app (goodIn_of _ (by decide +kernel)) ggX6_driftAheadOfNight_X6_pourOn
set_option maxRecDepth 20000 in
theorem ggX6_driftAheadOfNight_X6_sayAgain : GoodIn wsX6_driftAheadOfNight wsX6_sayAgain := goodIn_r _ [52, 21, 24, 65, 66, 67, 68, 69, 70, 71, 72, 73, 74] (by decide +kernel) (by decide +kernel)
set_option maxRecDepth 20000 in
theorem gX6_driftAheadOfNight_X6_sayAgain : GoodIn wsX6_driftAheadOfNight (wsV RX6 107 RX6 yX6_sayAgain wsX6_sayAgain) := goodIn_app (goodIn_of _ (by decide +kernel)) ggX6_driftAheadOfNight_X6_sayAgain
theorem dX6_driftAheadOfNight_0 : decode cX6_driftAheadOfNight 0 = .ok (.aload_n 1, 1) := by decide +kernel
theorem dX6_driftAheadOfNight_1 : decode cX6_driftAheadOfNight 1 = .ok (.getfield 95, 3) := by decide +kernel
theorem dX6_driftAheadOfNight_4 : decode cX6_driftAheadOfNight 4 = .ok (.ifCond .le 53, 3) := by decide +kernel
theorem dX6_driftAheadOfNight_7 : decode cX6_driftAheadOfNight 7 = .ok (.aload_n 1, 1) := by decide +kernel
theorem dX6_driftAheadOfNight_8 : decode cX6_driftAheadOfNight 8 = .ok (.getfield 98, 3) := by decide +kernel
theorem dX6_driftAheadOfNight_11 : decode cX6_driftAheadOfNight 11 = .ok (.ifCond .le 46, 3) := by decide +kernel
theorem dX6_driftAheadOfNight_14 : decode cX6_driftAheadOfNight 14 = .ok (.iconst 0, 1) := by decide +kernel
theorem dX6_driftAheadOfNight_15 : decode cX6_driftAheadOfNight 15 = .ok (.istore_n 3, 1) := by decide +kernel
theorem dX6_driftAheadOfNight_16 : decode cX6_driftAheadOfNight 16 = .ok (.iload_n 3, 1) := by decide +kernel
theorem dX6_driftAheadOfNight_17 : decode cX6_driftAheadOfNight 17 = .ok (.iconst 3, 1) := by decide +kernel
theorem dX6_driftAheadOfNight_18 : decode cX6_driftAheadOfNight 18 = .ok (.if_icmp .ge 39, 3) := by decide +kernel
theorem dX6_driftAheadOfNight_21 : decode cX6_driftAheadOfNight 21 = .ok (.aload_n 2, 1) := by decide +kernel
theorem dX6_driftAheadOfNight_22 : decode cX6_driftAheadOfNight 22 = .ok (.aload_n 1, 1) := by decide +kernel
theorem dX6_driftAheadOfNight_23 : decode cX6_driftAheadOfNight 23 = .ok (.getfield 95, 3) := by decide +kernel
theorem dX6_driftAheadOfNight_26 : decode cX6_driftAheadOfNight 26 = .ok (.invokevirtual 101, 3) := by decide +kernel
theorem dX6_driftAheadOfNight_29 : decode cX6_driftAheadOfNight 29 = .ok (.istore 4, 2) := by decide +kernel
theorem dX6_driftAheadOfNight_31 : decode cX6_driftAheadOfNight 31 = .ok (.aload_n 2, 1) := by decide +kernel
theorem dX6_driftAheadOfNight_32 : decode cX6_driftAheadOfNight 32 = .ok (.aload_n 1, 1) := by decide +kernel
theorem dX6_driftAheadOfNight_33 : decode cX6_driftAheadOfNight 33 = .ok (.getfield 98, 3) := by decide +kernel
theorem dX6_driftAheadOfNight_36 : decode cX6_driftAheadOfNight 36 = .ok (.invokevirtual 101, 3) := by decide +kernel
theorem dX6_driftAheadOfNight_39 : decode cX6_driftAheadOfNight 39 = .ok (.istore 5, 2) := by decide +kernel
theorem dX6_driftAheadOfNight_41 : decode cX6_driftAheadOfNight 41 = .ok (.aload_n 0, 1) := by decide +kernel
theorem dX6_driftAheadOfNight_42 : decode cX6_driftAheadOfNight 42 = .ok (.aload_n 1, 1) := by decide +kernel
theorem dX6_driftAheadOfNight_43 : decode cX6_driftAheadOfNight 43 = .ok (.iload 4, 2) := by decide +kernel
theorem dX6_driftAheadOfNight_45 : decode cX6_driftAheadOfNight 45 = .ok (.iload 5, 2) := by decide +kernel
theorem dX6_driftAheadOfNight_47 : decode cX6_driftAheadOfNight 47 = .ok (.invokevirtual 82, 3) := by decide +kernel
theorem dX6_driftAheadOfNight_50 : decode cX6_driftAheadOfNight 50 = .ok (.pop, 1) := by decide +kernel
theorem dX6_driftAheadOfNight_51 : decode cX6_driftAheadOfNight 51 = .ok (.iinc 3 1, 3) := by decide +kernel
theorem dX6_driftAheadOfNight_54 : decode cX6_driftAheadOfNight 54 = .ok (.goto (-38), 3) := by decide +kernel
theorem dX6_driftAheadOfNight_57 : decode cX6_driftAheadOfNight 57 = .ok (.aload_n 2, 1) := by decide +kernel
theorem dX6_driftAheadOfNight_58 : decode cX6_driftAheadOfNight 58 = .ok (.iconst 4, 1) := by decide +kernel
theorem dX6_driftAheadOfNight_59 : decode cX6_driftAheadOfNight 59 = .ok (.invokevirtual 101, 3) := by decide +kernel
theorem dX6_driftAheadOfNight_62 : decode cX6_driftAheadOfNight 62 = .ok (.istore_n 3, 1) := by decide +kernel
theorem dX6_driftAheadOfNight_63 : decode cX6_driftAheadOfNight 63 = .ok (.iload_n 3, 1) := by decide +kernel
theorem dX6_driftAheadOfNight_64 : decode cX6_driftAheadOfNight 64 = .ok (.ifCond .ne 16, 3) := by decide +kernel
theorem dX6_driftAheadOfNight_67 : decode cX6_driftAheadOfNight 67 = .ok (.aload_n 0, 1) := by decide +kernel
theorem dX6_driftAheadOfNight_68 : decode cX6_driftAheadOfNight 68 = .ok (.aload_n 2, 1) := by decide +kernel
theorem dX6_driftAheadOfNight_69 : decode cX6_driftAheadOfNight 69 = .ok (.bipush 30, 2) := by decide +kernel
theorem dX6_driftAheadOfNight_71 : decode cX6_driftAheadOfNight 71 = .ok (.invokevirtual 101, 3) := by decide +kernel
theorem dX6_driftAheadOfNight_74 : decode cX6_driftAheadOfNight 74 = .ok (.putfield 28, 3) := by decide +kernel
theorem dX6_driftAheadOfNight_77 : decode cX6_driftAheadOfNight 77 = .ok (.goto 28, 3) := by decide +kernel
theorem dX6_driftAheadOfNight_80 : decode cX6_driftAheadOfNight 80 = .ok (.iload_n 3, 1) := by decide +kernel
theorem dX6_driftAheadOfNight_81 : decode cX6_driftAheadOfNight 81 = .ok (.iconst 1, 1) := by decide +kernel
theorem dX6_driftAheadOfNight_82 : decode cX6_driftAheadOfNight 82 = .ok (.if_icmp .ne 23, 3) := by decide +kernel
theorem dX6_driftAheadOfNight_85 : decode cX6_driftAheadOfNight 85 = .ok (.aload_n 1, 1) := by decide +kernel
theorem dX6_driftAheadOfNight_86 : decode cX6_driftAheadOfNight 86 = .ok (.getfield 98, 3) := by decide +kernel
theorem dX6_driftAheadOfNight_89 : decode cX6_driftAheadOfNight 89 = .ok (.ifCond .le 16, 3) := by decide +kernel
theorem dX6_driftAheadOfNight_92 : decode cX6_driftAheadOfNight 92 = .ok (.aload_n 0, 1) := by decide +kernel
theorem dX6_driftAheadOfNight_93 : decode cX6_driftAheadOfNight 93 = .ok (.aload_n 2, 1) := by decide +kernel
theorem dX6_driftAheadOfNight_94 : decode cX6_driftAheadOfNight 94 = .ok (.aload_n 1, 1) := by decide +kernel
theorem dX6_driftAheadOfNight_95 : decode cX6_driftAheadOfNight 95 = .ok (.getfield 98, 3) := by decide +kernel
theorem dX6_driftAheadOfNight_98 : decode cX6_driftAheadOfNight 98 = .ok (.invokevirtual 101, 3) := by decide +kernel
theorem dX6_driftAheadOfNight_101 : decode cX6_driftAheadOfNight 101 = .ok (.invokevirtual 107, 3) := by decide +kernel
theorem dX6_driftAheadOfNight_104 : decode cX6_driftAheadOfNight 104 = .ok (.pop, 1) := by decide +kernel
theorem dX6_driftAheadOfNight_105 : decode cX6_driftAheadOfNight 105 = .ok (.return_, 1) := by decide +kernel
set_option maxRecDepth 20000 in
theorem ggX6_nightsAlone_X7_isIn : GoodIn wsX6_nightsAlone wsX7_isIn := goodIn_r _ [6] (by decide +kernel) (by decide +kernel)
set_option maxRecDepth 20000 in
theorem gX6_nightsAlone_X7_isIn : GoodIn wsX6_nightsAlone (va_wsS RX6 59 yX7_isIn wsX7_isIn) := goodIn_app (goodIn_of _ (by decide +kernel)) ggX6_nightsAlone_X7_isIn
set_option maxRecDepth 20000 in
theorem ggX6_nightsAlone_X6_drawable : GoodIn wsX6_nightsAlone wsX6_drawable := goodIn_r _ [11, 1, 12, 13, 14, 15, 16, 17, 18, 19, 20, 21, 22, 23, 24, 5, 25, 26, 27, 28, 29, 30, 31, 3, 4, 6, 43, 44, 45, 46, 47, 48, 49, 50, 51, 52, 53, 54, 55, 56, 57, 58, 59, 60, 61, 62, 63, 64] (by decide +kernel) (by decide +kernel)
set_option maxRecDepth 20000 in
theorem gX6_nightsAlone_X6_drawable : GoodIn wsX6_nightsAlone (wsV RX6 78 RX6 yX6_drawable wsX6_drawable) := goodIn_app (goodIn_of _ (by decide +kernel)) ggX6_nightsAlone_X6_drawable
set_option maxRecDepth 20000 in
theorem ggX6_nightsAlone_X6_pourOn : GoodIn wsX6_nightsAlone wsX6_pourOn := goodIn_r _ [35, 16, 36, 14, 21, 13, 1, 7, 8, 9, 10, 11, 12, 15, 17, 18, 19, 20, 22, 23, 24, 5, 25, 26, 27, 28, 29, 30, 31, 3, 4, 6, 43, 44, 45, 46, 47, 48, 49, 50, 51, 52, 53, 54, 55, 56, 57, 58, 59, 60, 61, 62, 63, 64] (by decide +kernel) (by decide +kernel)
set_option maxRecDepth 20000 in
theorem gX6_nightsAlone_X6_pourOn : GoodIn wsX6_nightsAlone (wsV RX6 82 RX6 yX6_pourOn wsX6_pourOn) := goodIn_app (goodIn_of _ (by decide +kernel)) ggX6_nightsAlone_X6_pourOn
set_option maxRecDepth 20000 in
theorem ggX6_nightsAlone_X6_passNight : GoodIn wsX6_nightsAlone wsX6_passNight := goodIn_r _ [40, 16, 41, 17, 18, 19, 20, 36, 42, 43, 44, 45, 46, 47, 48, 49, 50, 51, 52] (by decide +kernel) (by decide +kernel)
set_option maxRecDepth 20000 in
theorem gX6_nightsAlone_X6_passNight : GoodIn wsX6_nightsAlone (wsV RX6 113 RX6 yX6_passNight wsX6_passNight) := goodIn_app (goodIn_of _ (by decide +kernel)) ggX6_nightsAlone_X6_passNight
theorem dX6_nightsAlone_0 : decode cX6_nightsAlone 0 = .ok (.iload_n 3, 1) := by decide +kernel
theorem dX6_nightsAlone_1 : decode cX6_nightsAlone 1 = .ok (.aload_n 0, 1) := by decide +kernel
theorem dX6_nightsAlone_2 : decode cX6_nightsAlone 2 = .ok (.getfield 37, 3) := by decide +kernel
theorem dX6_nightsAlone_5 : decode cX6_nightsAlone 5 = .ok (.invokestatic 59, 3) := by decide +kernel
theorem dX6_nightsAlone_8 : decode cX6_nightsAlone 8 = .ok (.ifCond .eq 5, 3) := by decide +kernel
theorem dX6_nightsAlone_11 : decode cX6_nightsAlone 11 = .ok (.iconst (-1), 1) := by decide +kernel
theorem dX6_nightsAlone_12 : decode cX6_nightsAlone 12 = .ok (.ireturn, 1) := by decide +kernel
theorem dX6_nightsAlone_13 : decode cX6_nightsAlone 13 = .ok (.iconst 0, 1) := by decide +kernel
theorem dX6_nightsAlone_14 : decode cX6_nightsAlone 14 = .ok (.istore 4, 2) := by decide +kernel
theorem dX6_nightsAlone_16 : decode cX6_nightsAlone 16 = .ok (.iload 4, 2) := by decide +kernel
theorem dX6_nightsAlone_18 : decode cX6_nightsAlone 18 = .ok (.bipush 60, 2) := by decide +kernel
theorem dX6_nightsAlone_20 : decode cX6_nightsAlone 20 = .ok (.if_icmp .gt 65, 3) := by decide +kernel
theorem dX6_nightsAlone_23 : decode cX6_nightsAlone 23 = .ok (.iconst 0, 1) := by decide +kernel
theorem dX6_nightsAlone_24 : decode cX6_nightsAlone 24 = .ok (.istore 5, 2) := by decide +kernel
theorem dX6_nightsAlone_26 : decode cX6_nightsAlone 26 = .ok (.iload 5, 2) := by decide +kernel
theorem dX6_nightsAlone_28 : decode cX6_nightsAlone 28 = .ok (.bipush 20, 2) := by decide +kernel
theorem dX6_nightsAlone_30 : decode cX6_nightsAlone 30 = .ok (.if_icmp .ge 27, 3) := by decide +kernel
theorem dX6_nightsAlone_33 : decode cX6_nightsAlone 33 = .ok (.aload_n 0, 1) := by decide +kernel
theorem dX6_nightsAlone_34 : decode cX6_nightsAlone 34 = .ok (.aload_n 1, 1) := by decide +kernel
theorem dX6_nightsAlone_35 : decode cX6_nightsAlone 35 = .ok (.iload_n 2, 1) := by decide +kernel
theorem dX6_nightsAlone_36 : decode cX6_nightsAlone 36 = .ok (.iload_n 3, 1) := by decide +kernel
theorem dX6_nightsAlone_37 : decode cX6_nightsAlone 37 = .ok (.invokevirtual 78, 3) := by decide +kernel
theorem dX6_nightsAlone_40 : decode cX6_nightsAlone 40 = .ok (.ifCond .le 17, 3) := by decide +kernel
theorem dX6_nightsAlone_43 : decode cX6_nightsAlone 43 = .ok (.aload_n 0, 1) := by decide +kernel
theorem dX6_nightsAlone_44 : decode cX6_nightsAlone 44 = .ok (.aload_n 1, 1) := by decide +kernel
theorem dX6_nightsAlone_45 : decode cX6_nightsAlone 45 = .ok (.iload_n 2, 1) := by decide +kernel
theorem dX6_nightsAlone_46 : decode cX6_nightsAlone 46 = .ok (.iload_n 3, 1) := by decide +kernel
theorem dX6_nightsAlone_47 : decode cX6_nightsAlone 47 = .ok (.invokevirtual 82, 3) := by decide +kernel
theorem dX6_nightsAlone_50 : decode cX6_nightsAlone 50 = .ok (.pop, 1) := by decide +kernel
theorem dX6_nightsAlone_51 : decode cX6_nightsAlone 51 = .ok (.iinc 5 1, 3) := by decide +kernel
theorem dX6_nightsAlone_54 : decode cX6_nightsAlone 54 = .ok (.goto (-28), 3) := by decide +kernel
theorem dX6_nightsAlone_57 : decode cX6_nightsAlone 57 = .ok (.iload_n 3, 1) := by decide +kernel
theorem dX6_nightsAlone_58 : decode cX6_nightsAlone 58 = .ok (.aload_n 0, 1) := by decide +kernel
theorem dX6_nightsAlone_59 : decode cX6_nightsAlone 59 = .ok (.getfield 37, 3) := by decide +kernel
theorem dX6_nightsAlone_62 : decode cX6_nightsAlone 62 = .ok (.invokestatic 59, 3) := by decide +kernel
theorem dX6_nightsAlone_65 : decode cX6_nightsAlone 65 = .ok (.ifCond .eq 6, 3) := by decide +kernel
theorem dX6_nightsAlone_68 : decode cX6_nightsAlone 68 = .ok (.iload 4, 2) := by decide +kernel
theorem dX6_nightsAlone_70 : decode cX6_nightsAlone 70 = .ok (.ireturn, 1) := by decide +kernel
theorem dX6_nightsAlone_71 : decode cX6_nightsAlone 71 = .ok (.aload_n 0, 1) := by decide +kernel
theorem dX6_nightsAlone_72 : decode cX6_nightsAlone 72 = .ok (.aload_n 1, 1) := by decide +kernel
theorem dX6_nightsAlone_73 : decode cX6_nightsAlone 73 = .ok (.getfield 110, 3) := by decide +kernel
theorem dX6_nightsAlone_76 : decode cX6_nightsAlone 76 = .ok (.invokevirtual 113, 3) := by decide +kernel
theorem dX6_nightsAlone_79 : decode cX6_nightsAlone 79 = .ok (.iinc 4 1, 3) := by decide +kernel
theorem dX6_nightsAlone_82 : decode cX6_nightsAlone 82 = .ok (.goto (-66), 3) := by decide +kernel
theorem dX6_nightsAlone_85 : decode cX6_nightsAlone 85 = .ok (.iconst (-1), 1) := by decide +kernel
theorem dX6_nightsAlone_86 : decode cX6_nightsAlone 86 = .ok (.ireturn, 1) := by decide +kernel
theorem dX6_canBeUnsaid_0 : decode cX6_canBeUnsaid 0 = .ok (.iload_n 1, 1) := by decide +kernel
theorem dX6_canBeUnsaid_1 : decode cX6_canBeUnsaid 1 = .ok (.aload_n 0, 1) := by decide +kernel
theorem dX6_canBeUnsaid_2 : decode cX6_canBeUnsaid 2 = .ok (.getfield 37, 3) := by decide +kernel
theorem dX6_canBeUnsaid_5 : decode cX6_canBeUnsaid 5 = .ok (.aload_n 0, 1) := by decide +kernel
theorem dX6_canBeUnsaid_6 : decode cX6_canBeUnsaid 6 = .ok (.getfield 40, 3) := by decide +kernel
theorem dX6_canBeUnsaid_9 : decode cX6_canBeUnsaid 9 = .ok (.ior, 1) := by decide +kernel
theorem dX6_canBeUnsaid_10 : decode cX6_canBeUnsaid 10 = .ok (.iand, 1) := by decide +kernel
theorem dX6_canBeUnsaid_11 : decode cX6_canBeUnsaid 11 = .ok (.ifCond .ne 7, 3) := by decide +kernel
theorem dX6_canBeUnsaid_14 : decode cX6_canBeUnsaid 14 = .ok (.iconst 1, 1) := by decide +kernel
theorem dX6_canBeUnsaid_15 : decode cX6_canBeUnsaid 15 = .ok (.goto 4, 3) := by decide +kernel
theorem dX6_canBeUnsaid_18 : decode cX6_canBeUnsaid 18 = .ok (.iconst 0, 1) := by decide +kernel
theorem dX6_canBeUnsaid_19 : decode cX6_canBeUnsaid 19 = .ok (.ireturn, 1) := by decide +kernel
set_option maxRecDepth 20000 in
theorem ggX6_pailsFor_X7_isIn : GoodIn wsX6_pailsFor wsX7_isIn := goodIn_r _ [7] (by decide +kernel) (by decide +kernel)
set_option maxRecDepth 20000 in
theorem gX6_pailsFor_X7_isIn : GoodIn wsX6_pailsFor (va_wsS RX6 59 yX7_isIn wsX7_isIn) := goodIn_app (goodIn_of _ (by decide +kernel)) ggX6_pailsFor_X7_isIn
theorem dX6_pailsFor_0 : decode cX6_pailsFor 0 = .ok (.iconst 0, 1) := by decide +kernel
theorem dX6_pailsFor_1 : decode cX6_pailsFor 1 = .ok (.istore_n 3, 1) := by decide +kernel
theorem dX6_pailsFor_2 : decode cX6_pailsFor 2 = .ok (.iconst 0, 1) := by decide +kernel
theorem dX6_pailsFor_3 : decode cX6_pailsFor 3 = .ok (.istore 4, 2) := by decide +kernel
theorem dX6_pailsFor_5 : decode cX6_pailsFor 5 = .ok (.iload 4, 2) := by decide +kernel
theorem dX6_pailsFor_7 : decode cX6_pailsFor 7 = .ok (.aload_n 1, 1) := by decide +kernel
theorem dX6_pailsFor_8 : decode cX6_pailsFor 8 = .ok (.getfield 98, 3) := by decide +kernel
theorem dX6_pailsFor_11 : decode cX6_pailsFor 11 = .ok (.if_icmp .ge 40, 3) := by decide +kernel
theorem dX6_pailsFor_14 : decode cX6_pailsFor 14 = .ok (.iload_n 3, 1) := by decide +kernel
theorem dX6_pailsFor_15 : decode cX6_pailsFor 15 = .ok (.iload 4, 2) := by decide +kernel
theorem dX6_pailsFor_17 : decode cX6_pailsFor 17 = .ok (.iload_n 2, 1) := by decide +kernel
theorem dX6_pailsFor_18 : decode cX6_pailsFor 18 = .ok (.invokestatic 59, 3) := by decide +kernel
theorem dX6_pailsFor_21 : decode cX6_pailsFor 21 = .ok (.ifCond .eq 21, 3) := by decide +kernel
theorem dX6_pailsFor_24 : decode cX6_pailsFor 24 = .ok (.aload_n 1, 1) := by decide +kernel
theorem dX6_pailsFor_25 : decode cX6_pailsFor 25 = .ok (.getfield 63, 3) := by decide +kernel
theorem dX6_pailsFor_28 : decode cX6_pailsFor 28 = .ok (.iload 4, 2) := by decide +kernel
theorem dX6_pailsFor_30 : decode cX6_pailsFor 30 = .ok (.iaload, 1) := by decide +kernel
theorem dX6_pailsFor_31 : decode cX6_pailsFor 31 = .ok (.aload_n 0, 1) := by decide +kernel
theorem dX6_pailsFor_32 : decode cX6_pailsFor 32 = .ok (.getfield 9, 3) := by decide +kernel
theorem dX6_pailsFor_35 : decode cX6_pailsFor 35 = .ok (.iload 4, 2) := by decide +kernel
theorem dX6_pailsFor_37 : decode cX6_pailsFor 37 = .ok (.iaload, 1) := by decide +kernel
theorem dX6_pailsFor_38 : decode cX6_pailsFor 38 = .ok (.isub, 1) := by decide +kernel
theorem dX6_pailsFor_39 : decode cX6_pailsFor 39 = .ok (.goto 4, 3) := by decide +kernel
theorem dX6_pailsFor_42 : decode cX6_pailsFor 42 = .ok (.iconst 0, 1) := by decide +kernel
theorem dX6_pailsFor_43 : decode cX6_pailsFor 43 = .ok (.iadd, 1) := by decide +kernel
theorem dX6_pailsFor_44 : decode cX6_pailsFor 44 = .ok (.istore_n 3, 1) := by decide +kernel
theorem dX6_pailsFor_45 : decode cX6_pailsFor 45 = .ok (.iinc 4 1, 3) := by decide +kernel
theorem dX6_pailsFor_48 : decode cX6_pailsFor 48 = .ok (.goto (-43), 3) := by decide +kernel
theorem dX6_pailsFor_51 : decode cX6_pailsFor 51 = .ok (.iload_n 3, 1) := by decide +kernel
theorem dX6_pailsFor_52 : decode cX6_pailsFor 52 = .ok (.ireturn, 1) := by decide +kernel
set_option maxRecDepth 20000 in
theorem ggX6_worthWith_X7_holding : GoodIn wsX6_worthWith wsX7_holding := goodIn_r _ [6, 7, 8, 9, 10, 5, 11, 27, 28, 29, 30, 31, 32, 33, 34, 35, 36, 37, 38] (by decide +kernel) (by decide +kernel)
set_option maxRecDepth 20000 in
theorem gX6_worthWith_X7_holding : GoodIn wsX6_worthWith (wsV RX6 117 RX7 yX7_holding wsX7_holding) := goodIn_app (goodIn_of _ (by decide +kernel)) ggX6_worthWith_X7_holding
set_option maxRecDepth 20000 in
theorem ggX6_worthWith_X7_worthOf : GoodIn wsX6_worthWith wsX7_worthOf := goodIn_r _ [15, 7, 16, 9, 10, 5, 11, 27, 28, 29, 30, 31, 32, 33, 34, 35, 36, 37, 38] (by decide +kernel) (by decide +kernel)
set_option maxRecDepth 20000 in
theorem gX6_worthWith_X7_worthOf : GoodIn wsX6_worthWith (wsV RX6 120 RX7 yX7_worthOf wsX7_worthOf) := goodIn_app (goodIn_of _ (by decide +kernel)) ggX6_worthWith_X7_worthOf
theorem dX6_worthWith_0 : decode cX6_worthWith 0 = .ok (.aload_n 1, 1) := by decide +kernel
theorem dX6_worthWith_1 : decode cX6_worthWith 1 = .ok (.aload_n 1, 1) := by decide +kernel
theorem dX6_worthWith_2 : decode cX6_worthWith 2 = .ok (.aload_n 0, 1) := by decide +kernel
theorem dX6_worthWith_3 : decode cX6_worthWith 3 = .ok (.getfield 37, 3) := by decide +kernel
theorem dX6_worthWith_6 : decode cX6_worthWith 6 = .ok (.iload_n 2, 1) := by decide +kernel
theorem dX6_worthWith_7 : decode cX6_worthWith 7 = .ok (.ior, 1) := by decide +kernel
theorem dX6_worthWith_8 : decode cX6_worthWith 8 = .ok (.invokevirtual 117, 3) := by decide +kernel
theorem dX6_worthWith_11 : decode cX6_worthWith 11 = .ok (.invokevirtual 120, 3) := by decide +kernel
theorem dX6_worthWith_14 : decode cX6_worthWith 14 = .ok (.ireturn, 1) := by decide +kernel
set_option maxRecDepth 20000 in
theorem ggX6_isSoWith_X7_holding : GoodIn wsX6_isSoWith wsX7_holding := goodIn_r _ [6, 7, 8, 9, 10, 5, 11, 22, 23, 24, 25, 26, 27, 28, 29, 30, 31, 32, 33] (by decide +kernel) (by decide +kernel)
set_option maxRecDepth 20000 in
theorem gX6_isSoWith_X7_holding : GoodIn wsX6_isSoWith (wsV RX6 117 RX7 yX7_holding wsX7_holding) := goodIn_app (goodIn_of _ (by decide +kernel)) ggX6_isSoWith_X7_holding
theorem dX6_isSoWith_0 : decode cX6_isSoWith 0 = .ok (.aload_n 1, 1) := by decide +kernel
theorem dX6_isSoWith_1 : decode cX6_isSoWith 1 = .ok (.aload_n 0, 1) := by decide +kernel
theorem dX6_isSoWith_2 : decode cX6_isSoWith 2 = .ok (.getfield 37, 3) := by decide +kernel
theorem dX6_isSoWith_5 : decode cX6_isSoWith 5 = .ok (.iload_n 2, 1) := by decide +kernel
theorem dX6_isSoWith_6 : decode cX6_isSoWith 6 = .ok (.ior, 1) := by decide +kernel
theorem dX6_isSoWith_7 : decode cX6_isSoWith 7 = .ok (.invokevirtual 117, 3) := by decide +kernel
theorem dX6_isSoWith_10 : decode cX6_isSoWith 10 = .ok (.istore 5, 2) := by decide +kernel
theorem dX6_isSoWith_12 : decode cX6_isSoWith 12 = .ok (.iload 5, 2) := by decide +kernel
theorem dX6_isSoWith_14 : decode cX6_isSoWith 14 = .ok (.iload_n 3, 1) := by decide +kernel
theorem dX6_isSoWith_15 : decode cX6_isSoWith 15 = .ok (.iand, 1) := by decide +kernel
theorem dX6_isSoWith_16 : decode cX6_isSoWith 16 = .ok (.iload_n 3, 1) := by decide +kernel
theorem dX6_isSoWith_17 : decode cX6_isSoWith 17 = .ok (.if_icmp .ne 15, 3) := by decide +kernel
theorem dX6_isSoWith_20 : decode cX6_isSoWith 20 = .ok (.iload 5, 2) := by decide +kernel
theorem dX6_isSoWith_22 : decode cX6_isSoWith 22 = .ok (.iload 4, 2) := by decide +kernel
theorem dX6_isSoWith_24 : decode cX6_isSoWith 24 = .ok (.iand, 1) := by decide +kernel
theorem dX6_isSoWith_25 : decode cX6_isSoWith 25 = .ok (.ifCond .ne 7, 3) := by decide +kernel
theorem dX6_isSoWith_28 : decode cX6_isSoWith 28 = .ok (.iconst 1, 1) := by decide +kernel
theorem dX6_isSoWith_29 : decode cX6_isSoWith 29 = .ok (.goto 4, 3) := by decide +kernel
theorem dX6_isSoWith_32 : decode cX6_isSoWith 32 = .ok (.iconst 0, 1) := by decide +kernel
theorem dX6_isSoWith_33 : decode cX6_isSoWith 33 = .ok (.ireturn, 1) := by decide +kernel
set_option maxRecDepth 20000 in
theorem ggX6_cheapestFor_X6_canBeUnsaid : GoodIn wsX6_cheapestFor wsX6_canBeUnsaid := goodIn_r _ [6, 7, 8, 42, 43, 44, 45, 46, 47, 48, 49, 50, 51] (by decide +kernel) (by decide +kernel)
set_option maxRecDepth 20000 in
theorem gX6_cheapestFor_X6_canBeUnsaid : GoodIn wsX6_cheapestFor (wsV RX6 123 RX6 yX6_canBeUnsaid wsX6_canBeUnsaid) := goodIn_app (goodIn_of _ (by decide +kernel)) ggX6_cheapestFor_X6_canBeUnsaid
set_option maxRecDepth 20000 in
theorem ggX6_cheapestFor_X6_isSoWith : GoodIn wsX6_cheapestFor wsX6_isSoWith := goodIn_r _ [12, 7, 13, 14, 15, 16, 17, 18, 19, 20, 21, 22, 42, 43, 44, 45, 46, 47, 48, 49, 50, 51, 30, 31, 32, 33, 34, 35, 36, 37, 38, 39, 40, 41] (by decide +kernel) (by decide +kernel)
set_option maxRecDepth 20000 in
theorem gX6_cheapestFor_X6_isSoWith : GoodIn wsX6_cheapestFor (wsV RX6 126 RX6 yX6_isSoWith wsX6_isSoWith) := goodIn_app (goodIn_of _ (by decide +kernel)) ggX6_cheapestFor_X6_isSoWith
set_option maxRecDepth 20000 in
theorem ggX6_cheapestFor_X6_pailsFor : GoodIn wsX6_cheapestFor wsX6_pailsFor := goodIn_r _ [26, 1, 27, 28, 29, 21, 16, 22, 30, 31, 32, 33, 34, 35, 36, 37, 38, 39, 40, 41, 42, 43, 44, 45, 46, 47, 48, 49, 50, 51] (by decide +kernel) (by decide +kernel)
set_option maxRecDepth 20000 in
theorem gX6_cheapestFor_X6_pailsFor : GoodIn wsX6_cheapestFor (wsV RX6 130 RX6 yX6_pailsFor wsX6_pailsFor) := goodIn_app (goodIn_of _ (by decide +kernel)) ggX6_cheapestFor_X6_pailsFor
theorem dX6_cheapestFor_0 : decode cX6_cheapestFor 0 = .ok (.iconst (-1), 1) := by decide +kernel
theorem dX6_cheapestFor_1 : decode cX6_cheapestFor 1 = .ok (.istore 4, 2) := by decide +kernel
theorem dX6_cheapestFor_3 : decode cX6_cheapestFor 3 = .ok (.iconst 0, 1) := by decide +kernel
theorem dX6_cheapestFor_4 : decode cX6_cheapestFor 4 = .ok (.istore 5, 2) := by decide +kernel
theorem dX6_cheapestFor_6 : decode cX6_cheapestFor 6 = .ok (.iconst 0, 1) := by decide +kernel
theorem dX6_cheapestFor_7 : decode cX6_cheapestFor 7 = .ok (.istore 6, 2) := by decide +kernel
theorem dX6_cheapestFor_9 : decode cX6_cheapestFor 9 = .ok (.iload 6, 2) := by decide +kernel
theorem dX6_cheapestFor_11 : decode cX6_cheapestFor 11 = .ok (.iconst 1, 1) := by decide +kernel
theorem dX6_cheapestFor_12 : decode cX6_cheapestFor 12 = .ok (.aload_n 1, 1) := by decide +kernel
theorem dX6_cheapestFor_13 : decode cX6_cheapestFor 13 = .ok (.getfield 98, 3) := by decide +kernel
theorem dX6_cheapestFor_16 : decode cX6_cheapestFor 16 = .ok (.ishl, 1) := by decide +kernel
theorem dX6_cheapestFor_17 : decode cX6_cheapestFor 17 = .ok (.if_icmp .ge 60, 3) := by decide +kernel
theorem dX6_cheapestFor_20 : decode cX6_cheapestFor 20 = .ok (.aload_n 0, 1) := by decide +kernel
theorem dX6_cheapestFor_21 : decode cX6_cheapestFor 21 = .ok (.iload 6, 2) := by decide +kernel
theorem dX6_cheapestFor_23 : decode cX6_cheapestFor 23 = .ok (.invokevirtual 123, 3) := by decide +kernel
theorem dX6_cheapestFor_26 : decode cX6_cheapestFor 26 = .ok (.ifCond .eq 45, 3) := by decide +kernel
theorem dX6_cheapestFor_29 : decode cX6_cheapestFor 29 = .ok (.aload_n 0, 1) := by decide +kernel
theorem dX6_cheapestFor_30 : decode cX6_cheapestFor 30 = .ok (.aload_n 1, 1) := by decide +kernel
theorem dX6_cheapestFor_31 : decode cX6_cheapestFor 31 = .ok (.iload 6, 2) := by decide +kernel
theorem dX6_cheapestFor_33 : decode cX6_cheapestFor 33 = .ok (.iload_n 2, 1) := by decide +kernel
theorem dX6_cheapestFor_34 : decode cX6_cheapestFor 34 = .ok (.iload_n 3, 1) := by decide +kernel
theorem dX6_cheapestFor_35 : decode cX6_cheapestFor 35 = .ok (.invokevirtual 126, 3) := by decide +kernel
theorem dX6_cheapestFor_38 : decode cX6_cheapestFor 38 = .ok (.ifCond .eq 33, 3) := by decide +kernel
theorem dX6_cheapestFor_41 : decode cX6_cheapestFor 41 = .ok (.aload_n 0, 1) := by decide +kernel
theorem dX6_cheapestFor_42 : decode cX6_cheapestFor 42 = .ok (.aload_n 1, 1) := by decide +kernel
theorem dX6_cheapestFor_43 : decode cX6_cheapestFor 43 = .ok (.iload 6, 2) := by decide +kernel
theorem dX6_cheapestFor_45 : decode cX6_cheapestFor 45 = .ok (.invokevirtual 130, 3) := by decide +kernel
theorem dX6_cheapestFor_48 : decode cX6_cheapestFor 48 = .ok (.istore 7, 2) := by decide +kernel
theorem dX6_cheapestFor_50 : decode cX6_cheapestFor 50 = .ok (.iload 4, 2) := by decide +kernel
theorem dX6_cheapestFor_52 : decode cX6_cheapestFor 52 = .ok (.iconst (-1), 1) := by decide +kernel
theorem dX6_cheapestFor_53 : decode cX6_cheapestFor 53 = .ok (.if_icmp .eq 10, 3) := by decide +kernel
theorem dX6_cheapestFor_56 : decode cX6_cheapestFor 56 = .ok (.iload 7, 2) := by decide +kernel
theorem dX6_cheapestFor_58 : decode cX6_cheapestFor 58 = .ok (.iload 5, 2) := by decide +kernel
theorem dX6_cheapestFor_60 : decode cX6_cheapestFor 60 = .ok (.if_icmp .ge 11, 3) := by decide +kernel
theorem dX6_cheapestFor_63 : decode cX6_cheapestFor 63 = .ok (.iload 6, 2) := by decide +kernel
theorem dX6_cheapestFor_65 : decode cX6_cheapestFor 65 = .ok (.istore 4, 2) := by decide +kernel
theorem dX6_cheapestFor_67 : decode cX6_cheapestFor 67 = .ok (.iload 7, 2) := by decide +kernel
theorem dX6_cheapestFor_69 : decode cX6_cheapestFor 69 = .ok (.istore 5, 2) := by decide +kernel
theorem dX6_cheapestFor_71 : decode cX6_cheapestFor 71 = .ok (.iinc 6 1, 3) := by decide +kernel
theorem dX6_cheapestFor_74 : decode cX6_cheapestFor 74 = .ok (.goto (-65), 3) := by decide +kernel
theorem dX6_cheapestFor_77 : decode cX6_cheapestFor 77 = .ok (.iload 4, 2) := by decide +kernel
theorem dX6_cheapestFor_79 : decode cX6_cheapestFor 79 = .ok (.ireturn, 1) := by decide +kernel
set_option maxRecDepth 20000 in
theorem ggX6_bestFor_X6_worthWith : GoodIn wsX6_bestFor wsX6_worthWith := goodIn_r _ [6, 7, 8, 9, 10, 11, 12, 13, 14, 15, 16, 17, 18, 19, 20, 21, 22, 47, 48, 49, 50, 51, 52, 53, 54, 55, 56, 35, 36, 37, 38, 39, 40, 41, 42, 43, 44, 45, 46] (by decide +kernel) (by decide +kernel)
set_option maxRecDepth 20000 in
theorem gX6_bestFor_X6_worthWith : GoodIn wsX6_bestFor (wsV RX6 134 RX6 yX6_worthWith wsX6_worthWith) := goodIn_app (goodIn_of _ (by decide +kernel)) ggX6_bestFor_X6_worthWith
set_option maxRecDepth 20000 in
theorem ggX6_bestFor_X6_canBeUnsaid : GoodIn wsX6_bestFor wsX6_canBeUnsaid := goodIn_r _ [26, 7, 27, 47, 48, 49, 50, 51, 52, 53, 54, 55, 56] (by decide +kernel) (by decide +kernel)
set_option maxRecDepth 20000 in
theorem gX6_bestFor_X6_canBeUnsaid : GoodIn wsX6_bestFor (wsV RX6 123 RX6 yX6_canBeUnsaid wsX6_canBeUnsaid) := goodIn_app (goodIn_of _ (by decide +kernel)) ggX6_bestFor_X6_canBeUnsaid
set_option maxRecDepth 20000 in
theorem ggX6_bestFor_X6_pailsFor : GoodIn wsX6_bestFor wsX6_pailsFor := goodIn_r _ [31, 1, 32, 33, 34, 16, 11, 17, 35, 36, 37, 38, 39, 40, 41, 42, 43, 44, 45, 46, 47, 48, 49, 50, 51, 52, 53, 54, 55, 56] (by decide +kernel) (by decide +kernel)
set_option maxRecDepth 20000 in
theorem gX6_bestFor_X6_pailsFor : GoodIn wsX6_bestFor (wsV RX6 130 RX6 yX6_pailsFor wsX6_pailsFor) := goodIn_app (goodIn_of _ (by decide +kernel)) ggX6_bestFor_X6_pailsFor
theorem dX6_bestFor_0 : decode cX6_bestFor 0 = .ok (.iconst 0, 1) := by decide +kernel
theorem dX6_bestFor_1 : decode cX6_bestFor 1 = .ok (.istore_n 3, 1) := by decide +kernel
theorem dX6_bestFor_2 : decode cX6_bestFor 2 = .ok (.aload_n 0, 1) := by decide +kernel
theorem dX6_bestFor_3 : decode cX6_bestFor 3 = .ok (.aload_n 1, 1) := by decide +kernel
theorem dX6_bestFor_4 : decode cX6_bestFor 4 = .ok (.iconst 0, 1) := by decide +kernel
theorem dX6_bestFor_5 : decode cX6_bestFor 5 = .ok (.invokevirtual 134, 3) := by decide +kernel
theorem dX6_bestFor_8 : decode cX6_bestFor 8 = .ok (.istore 4, 2) := by decide +kernel
theorem dX6_bestFor_10 : decode cX6_bestFor 10 = .ok (.iconst 1, 1) := by decide +kernel
theorem dX6_bestFor_11 : decode cX6_bestFor 11 = .ok (.istore 5, 2) := by decide +kernel
theorem dX6_bestFor_13 : decode cX6_bestFor 13 = .ok (.iload 5, 2) := by decide +kernel
theorem dX6_bestFor_15 : decode cX6_bestFor 15 = .ok (.iconst 1, 1) := by decide +kernel
theorem dX6_bestFor_16 : decode cX6_bestFor 16 = .ok (.aload_n 1, 1) := by decide +kernel
theorem dX6_bestFor_17 : decode cX6_bestFor 17 = .ok (.getfield 98, 3) := by decide +kernel
theorem dX6_bestFor_20 : decode cX6_bestFor 20 = .ok (.ishl, 1) := by decide +kernel
theorem dX6_bestFor_21 : decode cX6_bestFor 21 = .ok (.if_icmp .ge 52, 3) := by decide +kernel
theorem dX6_bestFor_24 : decode cX6_bestFor 24 = .ok (.aload_n 0, 1) := by decide +kernel
theorem dX6_bestFor_25 : decode cX6_bestFor 25 = .ok (.iload 5, 2) := by decide +kernel
theorem dX6_bestFor_27 : decode cX6_bestFor 27 = .ok (.invokevirtual 123, 3) := by decide +kernel
theorem dX6_bestFor_30 : decode cX6_bestFor 30 = .ok (.ifCond .eq 37, 3) := by decide +kernel
theorem dX6_bestFor_33 : decode cX6_bestFor 33 = .ok (.aload_n 0, 1) := by decide +kernel
theorem dX6_bestFor_34 : decode cX6_bestFor 34 = .ok (.aload_n 1, 1) := by decide +kernel
theorem dX6_bestFor_35 : decode cX6_bestFor 35 = .ok (.iload 5, 2) := by decide +kernel
theorem dX6_bestFor_37 : decode cX6_bestFor 37 = .ok (.invokevirtual 130, 3) := by decide +kernel
theorem dX6_bestFor_40 : decode cX6_bestFor 40 = .ok (.iload_n 2, 1) := by decide +kernel
theorem dX6_bestFor_41 : decode cX6_bestFor 41 = .ok (.if_icmp .gt 26, 3) := by decide +kernel
theorem dX6_bestFor_44 : decode cX6_bestFor 44 = .ok (.aload_n 0, 1) := by decide +kernel
theorem dX6_bestFor_45 : decode cX6_bestFor 45 = .ok (.aload_n 1, 1) := by decide +kernel
theorem dX6_bestFor_46 : decode cX6_bestFor 46 = .ok (.iload 5, 2) := by decide +kernel
theorem dX6_bestFor_48 : decode cX6_bestFor 48 = .ok (.invokevirtual 134, 3) := by decide +kernel
theorem dX6_bestFor_51 : decode cX6_bestFor 51 = .ok (.istore 6, 2) := by decide +kernel
theorem dX6_bestFor_53 : decode cX6_bestFor 53 = .ok (.iload 6, 2) := by decide +kernel
theorem dX6_bestFor_55 : decode cX6_bestFor 55 = .ok (.iload 4, 2) := by decide +kernel
theorem dX6_bestFor_57 : decode cX6_bestFor 57 = .ok (.if_icmp .le 10, 3) := by decide +kernel
theorem dX6_bestFor_60 : decode cX6_bestFor 60 = .ok (.iload 5, 2) := by decide +kernel
theorem dX6_bestFor_62 : decode cX6_bestFor 62 = .ok (.istore_n 3, 1) := by decide +kernel
theorem dX6_bestFor_63 : decode cX6_bestFor 63 = .ok (.iload 6, 2) := by decide +kernel
theorem dX6_bestFor_65 : decode cX6_bestFor 65 = .ok (.istore 4, 2) := by decide +kernel
theorem dX6_bestFor_67 : decode cX6_bestFor 67 = .ok (.iinc 5 1, 3) := by decide +kernel
theorem dX6_bestFor_70 : decode cX6_bestFor 70 = .ok (.goto (-57), 3) := by decide +kernel
theorem dX6_bestFor_73 : decode cX6_bestFor 73 = .ok (.iload_n 3, 1) := by decide +kernel
theorem dX6_bestFor_74 : decode cX6_bestFor 74 = .ok (.ireturn, 1) := by decide +kernel
theorem dX7_init_0 : decode cX7_init 0 = .ok (.aload_n 0, 1) := by decide +kernel
theorem dX7_init_1 : decode cX7_init 1 = .ok (.invokespecial 3, 3) := by decide +kernel
theorem dX7_init_4 : decode cX7_init 4 = .ok (.aload_n 0, 1) := by decide +kernel
theorem dX7_init_5 : decode cX7_init 5 = .ok (.iconst 5, 1) := by decide +kernel
theorem dX7_init_6 : decode cX7_init 6 = .ok (.newarray .int, 2) := by decide +kernel
theorem dX7_init_8 : decode cX7_init 8 = .ok (.putfield 9, 3) := by decide +kernel
theorem dX7_init_11 : decode cX7_init 11 = .ok (.aload_n 0, 1) := by decide +kernel
theorem dX7_init_12 : decode cX7_init 12 = .ok (.bipush 10, 2) := by decide +kernel
theorem dX7_init_14 : decode cX7_init 14 = .ok (.newarray .int, 2) := by decide +kernel
theorem dX7_init_16 : decode cX7_init 16 = .ok (.putfield 15, 3) := by decide +kernel
theorem dX7_init_19 : decode cX7_init 19 = .ok (.aload_n 0, 1) := by decide +kernel
theorem dX7_init_20 : decode cX7_init 20 = .ok (.bipush 10, 2) := by decide +kernel
theorem dX7_init_22 : decode cX7_init 22 = .ok (.newarray .int, 2) := by decide +kernel
theorem dX7_init_24 : decode cX7_init 24 = .ok (.putfield 18, 3) := by decide +kernel
theorem dX7_init_27 : decode cX7_init 27 = .ok (.aload_n 0, 1) := by decide +kernel
theorem dX7_init_28 : decode cX7_init 28 = .ok (.bipush 10, 2) := by decide +kernel
theorem dX7_init_30 : decode cX7_init 30 = .ok (.newarray .int, 2) := by decide +kernel
theorem dX7_init_32 : decode cX7_init 32 = .ok (.putfield 21, 3) := by decide +kernel
theorem dX7_init_35 : decode cX7_init 35 = .ok (.aload_n 0, 1) := by decide +kernel
theorem dX7_init_36 : decode cX7_init 36 = .ok (.bipush 10, 2) := by decide +kernel
theorem dX7_init_38 : decode cX7_init 38 = .ok (.newarray .int, 2) := by decide +kernel
theorem dX7_init_40 : decode cX7_init 40 = .ok (.putfield 24, 3) := by decide +kernel
theorem dX7_init_43 : decode cX7_init 43 = .ok (.aload_n 0, 1) := by decide +kernel
theorem dX7_init_44 : decode cX7_init 44 = .ok (.bipush 10, 2) := by decide +kernel
theorem dX7_init_46 : decode cX7_init 46 = .ok (.newarray .int, 2) := by decide +kernel
theorem dX7_init_48 : decode cX7_init 48 = .ok (.putfield 27, 3) := by decide +kernel
theorem dX7_init_51 : decode cX7_init 51 = .ok (.return_, 1) := by decide +kernel
theorem dX7_clear_0 : decode cX7_clear 0 = .ok (.aload_n 0, 1) := by decide +kernel
theorem dX7_clear_1 : decode cX7_clear 1 = .ok (.iconst 0, 1) := by decide +kernel
theorem dX7_clear_2 : decode cX7_clear 2 = .ok (.putfield 30, 3) := by decide +kernel
theorem dX7_clear_5 : decode cX7_clear 5 = .ok (.aload_n 0, 1) := by decide +kernel
theorem dX7_clear_6 : decode cX7_clear 6 = .ok (.iconst 0, 1) := by decide +kernel
theorem dX7_clear_7 : decode cX7_clear 7 = .ok (.putfield 34, 3) := by decide +kernel
theorem dX7_clear_10 : decode cX7_clear 10 = .ok (.aload_n 0, 1) := by decide +kernel
theorem dX7_clear_11 : decode cX7_clear 11 = .ok (.iconst 0, 1) := by decide +kernel
theorem dX7_clear_12 : decode cX7_clear 12 = .ok (.putfield 38, 3) := by decide +kernel
theorem dX7_clear_15 : decode cX7_clear 15 = .ok (.aload_n 0, 1) := by decide +kernel
theorem dX7_clear_16 : decode cX7_clear 16 = .ok (.iconst 0, 1) := by decide +kernel
theorem dX7_clear_17 : decode cX7_clear 17 = .ok (.putfield 41, 3) := by decide +kernel
theorem dX7_clear_20 : decode cX7_clear 20 = .ok (.aload_n 0, 1) := by decide +kernel
theorem dX7_clear_21 : decode cX7_clear 21 = .ok (.iconst 0, 1) := by decide +kernel
theorem dX7_clear_22 : decode cX7_clear 22 = .ok (.putfield 44, 3) := by decide +kernel
theorem dX7_clear_25 : decode cX7_clear 25 = .ok (.aload_n 0, 1) := by decide +kernel
theorem dX7_clear_26 : decode cX7_clear 26 = .ok (.iconst 0, 1) := by decide +kernel
theorem dX7_clear_27 : decode cX7_clear 27 = .ok (.putfield 47, 3) := by decide +kernel
theorem dX7_clear_30 : decode cX7_clear 30 = .ok (.return_, 1) := by decide +kernel
theorem dX7_addPerson_0 : decode cX7_addPerson 0 = .ok (.aload_n 0, 1) := by decide +kernel
theorem dX7_addPerson_1 : decode cX7_addPerson 1 = .ok (.getfield 41, 3) := by decide +kernel
theorem dX7_addPerson_4 : decode cX7_addPerson 4 = .ok (.iconst 5, 1) := by decide +kernel
theorem dX7_addPerson_5 : decode cX7_addPerson 5 = .ok (.if_icmp .ge 23, 3) := by decide +kernel
theorem dX7_addPerson_8 : decode cX7_addPerson 8 = .ok (.aload_n 0, 1) := by decide +kernel
theorem dX7_addPerson_9 : decode cX7_addPerson 9 = .ok (.getfield 9, 3) := by decide +kernel
theorem dX7_addPerson_12 : decode cX7_addPerson 12 = .ok (.aload_n 0, 1) := by decide +kernel
theorem dX7_addPerson_13 : decode cX7_addPerson 13 = .ok (.getfield 41, 3) := by decide +kernel
theorem dX7_addPerson_16 : decode cX7_addPerson 16 = .ok (.iload_n 1, 1) := by decide +kernel
theorem dX7_addPerson_17 : decode cX7_addPerson 17 = .ok (.iastore, 1) := by decide +kernel
theorem dX7_addPerson_18 : decode cX7_addPerson 18 = .ok (.aload_n 0, 1) := by decide +kernel
theorem dX7_addPerson_19 : decode cX7_addPerson 19 = .ok (.dup, 1) := by decide +kernel
theorem dX7_addPerson_20 : decode cX7_addPerson 20 = .ok (.getfield 41, 3) := by decide +kernel
theorem dX7_addPerson_23 : decode cX7_addPerson 23 = .ok (.iconst 1, 1) := by decide +kernel
theorem dX7_addPerson_24 : decode cX7_addPerson 24 = .ok (.iadd, 1) := by decide +kernel
theorem dX7_addPerson_25 : decode cX7_addPerson 25 = .ok (.putfield 41, 3) := by decide +kernel
theorem dX7_addPerson_28 : decode cX7_addPerson 28 = .ok (.return_, 1) := by decide +kernel
theorem dX7_addSaying_0 : decode cX7_addSaying 0 = .ok (.aload_n 0, 1) := by decide +kernel
theorem dX7_addSaying_1 : decode cX7_addSaying 1 = .ok (.getfield 44, 3) := by decide +kernel
theorem dX7_addSaying_4 : decode cX7_addSaying 4 = .ok (.bipush 10, 2) := by decide +kernel
theorem dX7_addSaying_6 : decode cX7_addSaying 6 = .ok (.if_icmp .ge 53, 3) := by decide +kernel
theorem dX7_addSaying_9 : decode cX7_addSaying 9 = .ok (.aload_n 0, 1) := by decide +kernel
theorem dX7_addSaying_10 : decode cX7_addSaying 10 = .ok (.getfield 15, 3) := by decide +kernel
theorem dX7_addSaying_13 : decode cX7_addSaying 13 = .ok (.aload_n 0, 1) := by decide +kernel
theorem dX7_addSaying_14 : decode cX7_addSaying 14 = .ok (.getfield 44, 3) := by decide +kernel
theorem dX7_addSaying_17 : decode cX7_addSaying 17 = .ok (.iload_n 1, 1) := by decide +kernel
theorem dX7_addSaying_18 : decode cX7_addSaying 18 = .ok (.iastore, 1) := by decide +kernel
theorem dX7_addSaying_19 : decode cX7_addSaying 19 = .ok (.aload_n 0, 1) := by decide +kernel
theorem dX7_addSaying_20 : decode cX7_addSaying 20 = .ok (.getfield 18, 3) := by decide +kernel
theorem dX7_addSaying_23 : decode cX7_addSaying 23 = .ok (.aload_n 0, 1) := by decide +kernel
theorem dX7_addSaying_24 : decode cX7_addSaying 24 = .ok (.getfield 44, 3) := by decide +kernel
theorem dX7_addSaying_27 : decode cX7_addSaying 27 = .ok (.iload_n 2, 1) := by decide +kernel
theorem dX7_addSaying_28 : decode cX7_addSaying 28 = .ok (.iastore, 1) := by decide +kernel
theorem dX7_addSaying_29 : decode cX7_addSaying 29 = .ok (.aload_n 0, 1) := by decide +kernel
theorem dX7_addSaying_30 : decode cX7_addSaying 30 = .ok (.getfield 21, 3) := by decide +kernel
theorem dX7_addSaying_33 : decode cX7_addSaying 33 = .ok (.aload_n 0, 1) := by decide +kernel
theorem dX7_addSaying_34 : decode cX7_addSaying 34 = .ok (.getfield 44, 3) := by decide +kernel
theorem dX7_addSaying_37 : decode cX7_addSaying 37 = .ok (.iload_n 3, 1) := by decide +kernel
theorem dX7_addSaying_38 : decode cX7_addSaying 38 = .ok (.iastore, 1) := by decide +kernel
theorem dX7_addSaying_39 : decode cX7_addSaying 39 = .ok (.aload_n 0, 1) := by decide +kernel
theorem dX7_addSaying_40 : decode cX7_addSaying 40 = .ok (.getfield 24, 3) := by decide +kernel
theorem dX7_addSaying_43 : decode cX7_addSaying 43 = .ok (.aload_n 0, 1) := by decide +kernel
theorem dX7_addSaying_44 : decode cX7_addSaying 44 = .ok (.getfield 44, 3) := by decide +kernel
theorem dX7_addSaying_47 : decode cX7_addSaying 47 = .ok (.iconst 0, 1) := by decide +kernel
theorem dX7_addSaying_48 : decode cX7_addSaying 48 = .ok (.iastore, 1) := by decide +kernel
theorem dX7_addSaying_49 : decode cX7_addSaying 49 = .ok (.aload_n 0, 1) := by decide +kernel
theorem dX7_addSaying_50 : decode cX7_addSaying 50 = .ok (.dup, 1) := by decide +kernel
theorem dX7_addSaying_51 : decode cX7_addSaying 51 = .ok (.getfield 44, 3) := by decide +kernel
theorem dX7_addSaying_54 : decode cX7_addSaying 54 = .ok (.iconst 1, 1) := by decide +kernel
theorem dX7_addSaying_55 : decode cX7_addSaying 55 = .ok (.iadd, 1) := by decide +kernel
theorem dX7_addSaying_56 : decode cX7_addSaying 56 = .ok (.putfield 44, 3) := by decide +kernel
theorem dX7_addSaying_59 : decode cX7_addSaying 59 = .ok (.return_, 1) := by decide +kernel
set_option maxRecDepth 20000 in
theorem ggX7_isLinked_X7_hasSaying : GoodIn wsX7_isLinked wsX7_hasSaying := goodIn_r _ [6, 7, 11, 12, 13, 14, 15, 16, 17, 18, 19, 20, 21, 22] (by decide +kernel) (by decide +kernel)
set_option maxRecDepth 20000 in
theorem gX7_isLinked_X7_hasSaying : GoodIn wsX7_isLinked (wsV RX7 50 RX7 yX7_hasSaying wsX7_hasSaying) := goodIn_app (goodIn_of _ (by decide +kernel)) ggX7_isLinked_X7_hasSaying
set_option maxRecDepth 20000 in
theorem ggX7_isLinked_X7_isIn : GoodIn wsX7_isLinked wsX7_isIn := goodIn_r _ [10] (by decide +kernel) (by decide +kernel)
set_option maxRecDepth 20000 in
theorem gX7_isLinked_X7_isIn : GoodIn wsX7_isLinked (va_wsS RX7 54 yX7_isIn wsX7_isIn) := goodIn_app (goodIn_of _ (by decide +kernel)) ggX7_isLinked_X7_isIn
theorem dX7_isLinked_0 : decode cX7_isLinked 0 = .ok (.aload_n 0, 1) := by decide +kernel
theorem dX7_isLinked_1 : decode cX7_isLinked 1 = .ok (.iload_n 2, 1) := by decide +kernel
theorem dX7_isLinked_2 : decode cX7_isLinked 2 = .ok (.invokevirtual 50, 3) := by decide +kernel
theorem dX7_isLinked_5 : decode cX7_isLinked 5 = .ok (.ifCond .eq 20, 3) := by decide +kernel
theorem dX7_isLinked_8 : decode cX7_isLinked 8 = .ok (.iload_n 1, 1) := by decide +kernel
theorem dX7_isLinked_9 : decode cX7_isLinked 9 = .ok (.aload_n 0, 1) := by decide +kernel
theorem dX7_isLinked_10 : decode cX7_isLinked 10 = .ok (.getfield 24, 3) := by decide +kernel
theorem dX7_isLinked_13 : decode cX7_isLinked 13 = .ok (.iload_n 2, 1) := by decide +kernel
theorem dX7_isLinked_14 : decode cX7_isLinked 14 = .ok (.iaload, 1) := by decide +kernel
theorem dX7_isLinked_15 : decode cX7_isLinked 15 = .ok (.invokestatic 54, 3) := by decide +kernel
theorem dX7_isLinked_18 : decode cX7_isLinked 18 = .ok (.ifCond .eq 7, 3) := by decide +kernel
theorem dX7_isLinked_21 : decode cX7_isLinked 21 = .ok (.iconst 1, 1) := by decide +kernel
theorem dX7_isLinked_22 : decode cX7_isLinked 22 = .ok (.goto 4, 3) := by decide +kernel
theorem dX7_isLinked_25 : decode cX7_isLinked 25 = .ok (.iconst 0, 1) := by decide +kernel
theorem dX7_isLinked_26 : decode cX7_isLinked 26 = .ok (.ireturn, 1) := by decide +kernel
set_option maxRecDepth 20000 in
theorem ggX7_addLink_X7_hasSaying : GoodIn wsX7_addLink wsX7_hasSaying := goodIn_r _ [7, 8, 9, 10, 11, 12, 13, 14, 15, 16, 17, 18, 19, 20] (by decide +kernel) (by decide +kernel)
set_option maxRecDepth 20000 in
theorem gX7_addLink_X7_hasSaying : GoodIn wsX7_addLink (wsV RX7 50 RX7 yX7_hasSaying wsX7_hasSaying) := goodIn_app (goodIn_of _ (by decide +kernel)) ggX7_addLink_X7_hasSaying
theorem dX7_addLink_0 : decode cX7_addLink 0 = .ok (.aload_n 0, 1) := by decide +kernel
theorem dX7_addLink_1 : decode cX7_addLink 1 = .ok (.iload_n 1, 1) := by decide +kernel
theorem dX7_addLink_2 : decode cX7_addLink 2 = .ok (.invokevirtual 50, 3) := by decide +kernel
theorem dX7_addLink_5 : decode cX7_addLink 5 = .ok (.ifCond .eq 33, 3) := by decide +kernel
theorem dX7_addLink_8 : decode cX7_addLink 8 = .ok (.aload_n 0, 1) := by decide +kernel
theorem dX7_addLink_9 : decode cX7_addLink 9 = .ok (.iload_n 2, 1) := by decide +kernel
theorem dX7_addLink_10 : decode cX7_addLink 10 = .ok (.invokevirtual 50, 3) := by decide +kernel
theorem dX7_addLink_13 : decode cX7_addLink 13 = .ok (.ifCond .eq 25, 3) := by decide +kernel
theorem dX7_addLink_16 : decode cX7_addLink 16 = .ok (.aload_n 0, 1) := by decide +kernel
theorem dX7_addLink_17 : decode cX7_addLink 17 = .ok (.getfield 24, 3) := by decide +kernel
theorem dX7_addLink_20 : decode cX7_addLink 20 = .ok (.iload_n 2, 1) := by decide +kernel
theorem dX7_addLink_21 : decode cX7_addLink 21 = .ok (.dup2, 1) := by decide +kernel
theorem dX7_addLink_22 : decode cX7_addLink 22 = .ok (.iaload, 1) := by decide +kernel
theorem dX7_addLink_23 : decode cX7_addLink 23 = .ok (.iconst 1, 1) := by decide +kernel
theorem dX7_addLink_24 : decode cX7_addLink 24 = .ok (.iload_n 1, 1) := by decide +kernel
theorem dX7_addLink_25 : decode cX7_addLink 25 = .ok (.ishl, 1) := by decide +kernel
theorem dX7_addLink_26 : decode cX7_addLink 26 = .ok (.ior, 1) := by decide +kernel
theorem dX7_addLink_27 : decode cX7_addLink 27 = .ok (.iastore, 1) := by decide +kernel
theorem dX7_addLink_28 : decode cX7_addLink 28 = .ok (.aload_n 0, 1) := by decide +kernel
theorem dX7_addLink_29 : decode cX7_addLink 29 = .ok (.dup, 1) := by decide +kernel
theorem dX7_addLink_30 : decode cX7_addLink 30 = .ok (.getfield 47, 3) := by decide +kernel
theorem dX7_addLink_33 : decode cX7_addLink 33 = .ok (.iconst 1, 1) := by decide +kernel
theorem dX7_addLink_34 : decode cX7_addLink 34 = .ok (.iadd, 1) := by decide +kernel
theorem dX7_addLink_35 : decode cX7_addLink 35 = .ok (.putfield 47, 3) := by decide +kernel
theorem dX7_addLink_38 : decode cX7_addLink 38 = .ok (.return_, 1) := by decide +kernel
theorem dX7_hasPerson_0 : decode cX7_hasPerson 0 = .ok (.iload_n 1, 1) := by decide +kernel
theorem dX7_hasPerson_1 : decode cX7_hasPerson 1 = .ok (.ifCond .lt 15, 3) := by decide +kernel
theorem dX7_hasPerson_4 : decode cX7_hasPerson 4 = .ok (.iload_n 1, 1) := by decide +kernel
theorem dX7_hasPerson_5 : decode cX7_hasPerson 5 = .ok (.aload_n 0, 1) := by decide +kernel
theorem dX7_hasPerson_6 : decode cX7_hasPerson 6 = .ok (.getfield 41, 3) := by decide +kernel
theorem dX7_hasPerson_9 : decode cX7_hasPerson 9 = .ok (.if_icmp .ge 7, 3) := by decide +kernel
theorem dX7_hasPerson_12 : decode cX7_hasPerson 12 = .ok (.iconst 1, 1) := by decide +kernel
theorem dX7_hasPerson_13 : decode cX7_hasPerson 13 = .ok (.goto 4, 3) := by decide +kernel
theorem dX7_hasPerson_16 : decode cX7_hasPerson 16 = .ok (.iconst 0, 1) := by decide +kernel
theorem dX7_hasPerson_17 : decode cX7_hasPerson 17 = .ok (.ireturn, 1) := by decide +kernel
theorem dX7_hasSaying_0 : decode cX7_hasSaying 0 = .ok (.iload_n 1, 1) := by decide +kernel
theorem dX7_hasSaying_1 : decode cX7_hasSaying 1 = .ok (.ifCond .lt 15, 3) := by decide +kernel
theorem dX7_hasSaying_4 : decode cX7_hasSaying 4 = .ok (.iload_n 1, 1) := by decide +kernel
theorem dX7_hasSaying_5 : decode cX7_hasSaying 5 = .ok (.aload_n 0, 1) := by decide +kernel
theorem dX7_hasSaying_6 : decode cX7_hasSaying 6 = .ok (.getfield 44, 3) := by decide +kernel
theorem dX7_hasSaying_9 : decode cX7_hasSaying 9 = .ok (.if_icmp .ge 7, 3) := by decide +kernel
theorem dX7_hasSaying_12 : decode cX7_hasSaying 12 = .ok (.iconst 1, 1) := by decide +kernel
theorem dX7_hasSaying_13 : decode cX7_hasSaying 13 = .ok (.goto 4, 3) := by decide +kernel
theorem dX7_hasSaying_16 : decode cX7_hasSaying 16 = .ok (.iconst 0, 1) := by decide +kernel
theorem dX7_hasSaying_17 : decode cX7_hasSaying 17 = .ok (.ireturn, 1) := by decide +kernel
theorem dX7_hasAll_0 : decode cX7_hasAll 0 = .ok (.iload_n 1, 1) := by decide +kernel
theorem dX7_hasAll_1 : decode cX7_hasAll 1 = .ok (.ifCond .lt 17, 3) := by decide +kernel
theorem dX7_hasAll_4 : decode cX7_hasAll 4 = .ok (.iload_n 1, 1) := by decide +kernel
theorem dX7_hasAll_5 : decode cX7_hasAll 5 = .ok (.iconst 1, 1) := by decide +kernel
theorem dX7_hasAll_6 : decode cX7_hasAll 6 = .ok (.aload_n 0, 1) := by decide +kernel
theorem dX7_hasAll_7 : decode cX7_hasAll 7 = .ok (.getfield 44, 3) := by decide +kernel
theorem dX7_hasAll_10 : decode cX7_hasAll 10 = .ok (.ishl, 1) := by decide +kernel
theorem dX7_hasAll_11 : decode cX7_hasAll 11 = .ok (.if_icmp .ge 7, 3) := by decide +kernel
theorem dX7_hasAll_14 : decode cX7_hasAll 14 = .ok (.iconst 1, 1) := by decide +kernel
theorem dX7_hasAll_15 : decode cX7_hasAll 15 = .ok (.goto 4, 3) := by decide +kernel
theorem dX7_hasAll_18 : decode cX7_hasAll 18 = .ok (.iconst 0, 1) := by decide +kernel
theorem dX7_hasAll_19 : decode cX7_hasAll 19 = .ok (.ireturn, 1) := by decide +kernel
theorem dX7_isIn_0 : decode cX7_isIn 0 = .ok (.iload_n 1, 1) := by decide +kernel
theorem dX7_isIn_1 : decode cX7_isIn 1 = .ok (.iload_n 0, 1) := by decide +kernel
theorem dX7_isIn_2 : decode cX7_isIn 2 = .ok (.ishr, 1) := by decide +kernel
theorem dX7_isIn_3 : decode cX7_isIn 3 = .ok (.iconst 1, 1) := by decide +kernel
theorem dX7_isIn_4 : decode cX7_isIn 4 = .ok (.iand, 1) := by decide +kernel
theorem dX7_isIn_5 : decode cX7_isIn 5 = .ok (.ifCond .eq 7, 3) := by decide +kernel
theorem dX7_isIn_8 : decode cX7_isIn 8 = .ok (.iconst 1, 1) := by decide +kernel
theorem dX7_isIn_9 : decode cX7_isIn 9 = .ok (.goto 4, 3) := by decide +kernel
theorem dX7_isIn_12 : decode cX7_isIn 12 = .ok (.iconst 0, 1) := by decide +kernel
theorem dX7_isIn_13 : decode cX7_isIn 13 = .ok (.ireturn, 1) := by decide +kernel
set_option maxRecDepth 20000 in
theorem ggX7_holding_X7_isIn : GoodIn wsX7_holding wsX7_isIn := goodIn_r _ [6] (by decide +kernel) (by decide +kernel)
set_option maxRecDepth 20000 in
theorem gX7_holding_X7_isIn : GoodIn wsX7_holding (va_wsS RX7 54 yX7_isIn wsX7_isIn) := goodIn_app (goodIn_of _ (by decide +kernel)) ggX7_holding_X7_isIn
theorem dX7_holding_0 : decode cX7_holding 0 = .ok (.iconst 0, 1) := by decide +kernel
theorem dX7_holding_1 : decode cX7_holding 1 = .ok (.istore_n 2, 1) := by decide +kernel
theorem dX7_holding_2 : decode cX7_holding 2 = .ok (.iconst 0, 1) := by decide +kernel
theorem dX7_holding_3 : decode cX7_holding 3 = .ok (.istore_n 3, 1) := by decide +kernel
theorem dX7_holding_4 : decode cX7_holding 4 = .ok (.iload_n 3, 1) := by decide +kernel
theorem dX7_holding_5 : decode cX7_holding 5 = .ok (.aload_n 0, 1) := by decide +kernel
theorem dX7_holding_6 : decode cX7_holding 6 = .ok (.getfield 44, 3) := by decide +kernel
theorem dX7_holding_9 : decode cX7_holding 9 = .ok (.if_icmp .ge 36, 3) := by decide +kernel
theorem dX7_holding_12 : decode cX7_holding 12 = .ok (.iload_n 3, 1) := by decide +kernel
theorem dX7_holding_13 : decode cX7_holding 13 = .ok (.iload_n 1, 1) := by decide +kernel
theorem dX7_holding_14 : decode cX7_holding 14 = .ok (.invokestatic 54, 3) := by decide +kernel
theorem dX7_holding_17 : decode cX7_holding 17 = .ok (.ifCond .ne 22, 3) := by decide +kernel
theorem dX7_holding_20 : decode cX7_holding 20 = .ok (.aload_n 0, 1) := by decide +kernel
theorem dX7_holding_21 : decode cX7_holding 21 = .ok (.getfield 24, 3) := by decide +kernel
theorem dX7_holding_24 : decode cX7_holding 24 = .ok (.iload_n 3, 1) := by decide +kernel
theorem dX7_holding_25 : decode cX7_holding 25 = .ok (.iaload, 1) := by decide +kernel
theorem dX7_holding_26 : decode cX7_holding 26 = .ok (.iload_n 2, 1) := by decide +kernel
theorem dX7_holding_27 : decode cX7_holding 27 = .ok (.iconst (-1), 1) := by decide +kernel
theorem dX7_holding_28 : decode cX7_holding 28 = .ok (.ixor, 1) := by decide +kernel
theorem dX7_holding_29 : decode cX7_holding 29 = .ok (.iand, 1) := by decide +kernel
theorem dX7_holding_30 : decode cX7_holding 30 = .ok (.ifCond .ne 9, 3) := by decide +kernel
theorem dX7_holding_33 : decode cX7_holding 33 = .ok (.iload_n 2, 1) := by decide +kernel
theorem dX7_holding_34 : decode cX7_holding 34 = .ok (.iconst 1, 1) := by decide +kernel
theorem dX7_holding_35 : decode cX7_holding 35 = .ok (.iload_n 3, 1) := by decide +kernel
theorem dX7_holding_36 : decode cX7_holding 36 = .ok (.ishl, 1) := by decide +kernel
theorem dX7_holding_37 : decode cX7_holding 37 = .ok (.ior, 1) := by decide +kernel
theorem dX7_holding_38 : decode cX7_holding 38 = .ok (.istore_n 2, 1) := by decide +kernel
theorem dX7_holding_39 : decode cX7_holding 39 = .ok (.iinc 3 1, 3) := by decide +kernel
theorem dX7_holding_42 : decode cX7_holding 42 = .ok (.goto (-38), 3) := by decide +kernel
theorem dX7_holding_45 : decode cX7_holding 45 = .ok (.iload_n 2, 1) := by decide +kernel
theorem dX7_holding_46 : decode cX7_holding 46 = .ok (.ireturn, 1) := by decide +kernel
set_option maxRecDepth 20000 in
theorem ggX7_fallsOf_X7_holding : GoodIn wsX7_fallsOf wsX7_holding := goodIn_r _ [5, 6, 7, 8, 9, 4, 10, 11, 12, 13, 14, 15, 16, 17, 18, 19, 20, 21, 22] (by decide +kernel) (by decide +kernel)
set_option maxRecDepth 20000 in
theorem gX7_fallsOf_X7_holding : GoodIn wsX7_fallsOf (wsV RX7 58 RX7 yX7_holding wsX7_holding) := goodIn_app (goodIn_of _ (by decide +kernel)) ggX7_fallsOf_X7_holding
theorem dX7_fallsOf_0 : decode cX7_fallsOf 0 = .ok (.aload_n 0, 1) := by decide +kernel
theorem dX7_fallsOf_1 : decode cX7_fallsOf 1 = .ok (.iload_n 2, 1) := by decide +kernel
theorem dX7_fallsOf_2 : decode cX7_fallsOf 2 = .ok (.invokevirtual 58, 3) := by decide +kernel
theorem dX7_fallsOf_5 : decode cX7_fallsOf 5 = .ok (.aload_n 0, 1) := by decide +kernel
theorem dX7_fallsOf_6 : decode cX7_fallsOf 6 = .ok (.iload_n 2, 1) := by decide +kernel
theorem dX7_fallsOf_7 : decode cX7_fallsOf 7 = .ok (.iconst 1, 1) := by decide +kernel
theorem dX7_fallsOf_8 : decode cX7_fallsOf 8 = .ok (.iload_n 1, 1) := by decide +kernel
theorem dX7_fallsOf_9 : decode cX7_fallsOf 9 = .ok (.ishl, 1) := by decide +kernel
theorem dX7_fallsOf_10 : decode cX7_fallsOf 10 = .ok (.ior, 1) := by decide +kernel
theorem dX7_fallsOf_11 : decode cX7_fallsOf 11 = .ok (.invokevirtual 58, 3) := by decide +kernel
theorem dX7_fallsOf_14 : decode cX7_fallsOf 14 = .ok (.iconst (-1), 1) := by decide +kernel
theorem dX7_fallsOf_15 : decode cX7_fallsOf 15 = .ok (.ixor, 1) := by decide +kernel
theorem dX7_fallsOf_16 : decode cX7_fallsOf 16 = .ok (.iand, 1) := by decide +kernel
theorem dX7_fallsOf_17 : decode cX7_fallsOf 17 = .ok (.ireturn, 1) := by decide +kernel
set_option maxRecDepth 20000 in
theorem ggX7_heaviest_X7_fallsOf : GoodIn wsX7_heaviest wsX7_fallsOf := goodIn_r _ [6, 7, 8, 9, 5, 10, 1, 11, 12, 13, 14, 22, 23, 24, 25, 26, 27, 28, 29, 30, 31, 32, 33] (by decide +kernel) (by decide +kernel)
set_option maxRecDepth 20000 in
theorem gX7_heaviest_X7_fallsOf : GoodIn wsX7_heaviest (wsV RX7 62 RX7 yX7_fallsOf wsX7_fallsOf) := goodIn_app (goodIn_of _ (by decide +kernel)) ggX7_heaviest_X7_fallsOf
set_option maxRecDepth 20000 in
theorem ggX7_heaviest_J6_bitCount_0f7a4 : GoodIn wsX7_heaviest wsJ6_bitCount_0f7a4 := goodIn_r _ [18, 19, 20, 21] (by decide +kernel) (by decide +kernel)
set_option maxRecDepth 20000 in
theorem gX7_heaviest_J6_bitCount_0f7a4 : GoodIn wsX7_heaviest (va_wsS RX7 66 yJ6_bitCount_0f7a4 wsJ6_bitCount_0f7a4) := goodIn_app (goodIn_of _ (by decide +kernel)) ggX7_heaviest_J6_bitCount_0f7a4
theorem dX7_heaviest_0 : decode cX7_heaviest 0 = .ok (.iconst (-1), 1) := by decide +kernel
theorem dX7_heaviest_1 : decode cX7_heaviest 1 = .ok (.istore_n 2, 1) := by decide +kernel
theorem dX7_heaviest_2 : decode cX7_heaviest 2 = .ok (.iconst 0, 1) := by decide +kernel
theorem dX7_heaviest_3 : decode cX7_heaviest 3 = .ok (.istore_n 3, 1) := by decide +kernel
theorem dX7_heaviest_4 : decode cX7_heaviest 4 = .ok (.iconst 0, 1) := by decide +kernel
theorem dX7_heaviest_5 : decode cX7_heaviest 5 = .ok (.istore 4, 2) := by decide +kernel
theorem dX7_heaviest_7 : decode cX7_heaviest 7 = .ok (.iload 4, 2) := by decide +kernel
theorem dX7_heaviest_9 : decode cX7_heaviest 9 = .ok (.aload_n 0, 1) := by decide +kernel
theorem dX7_heaviest_10 : decode cX7_heaviest 10 = .ok (.getfield 44, 3) := by decide +kernel
theorem dX7_heaviest_13 : decode cX7_heaviest 13 = .ok (.if_icmp .ge 33, 3) := by decide +kernel
theorem dX7_heaviest_16 : decode cX7_heaviest 16 = .ok (.aload_n 0, 1) := by decide +kernel
theorem dX7_heaviest_17 : decode cX7_heaviest 17 = .ok (.iload 4, 2) := by decide +kernel
theorem dX7_heaviest_19 : decode cX7_heaviest 19 = .ok (.iload_n 1, 1) := by decide +kernel
theorem dX7_heaviest_20 : decode cX7_heaviest 20 = .ok (.invokevirtual 62, 3) := by decide +kernel
theorem dX7_heaviest_23 : decode cX7_heaviest 23 = .ok (.invokestatic 66, 3) := by decide +kernel
theorem dX7_heaviest_26 : decode cX7_heaviest 26 = .ok (.istore 5, 2) := by decide +kernel
theorem dX7_heaviest_28 : decode cX7_heaviest 28 = .ok (.iload 5, 2) := by decide +kernel
theorem dX7_heaviest_30 : decode cX7_heaviest 30 = .ok (.iload_n 3, 1) := by decide +kernel
theorem dX7_heaviest_31 : decode cX7_heaviest 31 = .ok (.if_icmp .le 9, 3) := by decide +kernel
theorem dX7_heaviest_34 : decode cX7_heaviest 34 = .ok (.iload 5, 2) := by decide +kernel
theorem dX7_heaviest_36 : decode cX7_heaviest 36 = .ok (.istore_n 3, 1) := by decide +kernel
theorem dX7_heaviest_37 : decode cX7_heaviest 37 = .ok (.iload 4, 2) := by decide +kernel
theorem dX7_heaviest_39 : decode cX7_heaviest 39 = .ok (.istore_n 2, 1) := by decide +kernel
theorem dX7_heaviest_40 : decode cX7_heaviest 40 = .ok (.iinc 4 1, 3) := by decide +kernel
theorem dX7_heaviest_43 : decode cX7_heaviest 43 = .ok (.goto (-36), 3) := by decide +kernel
theorem dX7_heaviest_46 : decode cX7_heaviest 46 = .ok (.iload_n 2, 1) := by decide +kernel
theorem dX7_heaviest_47 : decode cX7_heaviest 47 = .ok (.ireturn, 1) := by decide +kernel
set_option maxRecDepth 20000 in
theorem ggX7_weightOf_X7_isIn : GoodIn wsX7_weightOf wsX7_isIn := goodIn_r _ [6] (by decide +kernel) (by decide +kernel)
set_option maxRecDepth 20000 in
theorem gX7_weightOf_X7_isIn : GoodIn wsX7_weightOf (va_wsS RX7 54 yX7_isIn wsX7_isIn) := goodIn_app (goodIn_of _ (by decide +kernel)) ggX7_weightOf_X7_isIn
theorem dX7_weightOf_0 : decode cX7_weightOf 0 = .ok (.iconst 0, 1) := by decide +kernel
theorem dX7_weightOf_1 : decode cX7_weightOf 1 = .ok (.istore_n 2, 1) := by decide +kernel
theorem dX7_weightOf_2 : decode cX7_weightOf 2 = .ok (.iconst 0, 1) := by decide +kernel
theorem dX7_weightOf_3 : decode cX7_weightOf 3 = .ok (.istore_n 3, 1) := by decide +kernel
theorem dX7_weightOf_4 : decode cX7_weightOf 4 = .ok (.iload_n 3, 1) := by decide +kernel
theorem dX7_weightOf_5 : decode cX7_weightOf 5 = .ok (.aload_n 0, 1) := by decide +kernel
theorem dX7_weightOf_6 : decode cX7_weightOf 6 = .ok (.getfield 44, 3) := by decide +kernel
theorem dX7_weightOf_9 : decode cX7_weightOf 9 = .ok (.if_icmp .ge 30, 3) := by decide +kernel
theorem dX7_weightOf_12 : decode cX7_weightOf 12 = .ok (.iload_n 2, 1) := by decide +kernel
theorem dX7_weightOf_13 : decode cX7_weightOf 13 = .ok (.iload_n 3, 1) := by decide +kernel
theorem dX7_weightOf_14 : decode cX7_weightOf 14 = .ok (.iload_n 1, 1) := by decide +kernel
theorem dX7_weightOf_15 : decode cX7_weightOf 15 = .ok (.invokestatic 54, 3) := by decide +kernel
theorem dX7_weightOf_18 : decode cX7_weightOf 18 = .ok (.ifCond .eq 12, 3) := by decide +kernel
theorem dX7_weightOf_21 : decode cX7_weightOf 21 = .ok (.aload_n 0, 1) := by decide +kernel
theorem dX7_weightOf_22 : decode cX7_weightOf 22 = .ok (.getfield 18, 3) := by decide +kernel
theorem dX7_weightOf_25 : decode cX7_weightOf 25 = .ok (.iload_n 3, 1) := by decide +kernel
theorem dX7_weightOf_26 : decode cX7_weightOf 26 = .ok (.iaload, 1) := by decide +kernel
theorem dX7_weightOf_27 : decode cX7_weightOf 27 = .ok (.goto 4, 3) := by decide +kernel
theorem dX7_weightOf_30 : decode cX7_weightOf 30 = .ok (.iconst 0, 1) := by decide +kernel
theorem dX7_weightOf_31 : decode cX7_weightOf 31 = .ok (.iadd, 1) := by decide +kernel
theorem dX7_weightOf_32 : decode cX7_weightOf 32 = .ok (.istore_n 2, 1) := by decide +kernel
theorem dX7_weightOf_33 : decode cX7_weightOf 33 = .ok (.iinc 3 1, 3) := by decide +kernel
theorem dX7_weightOf_36 : decode cX7_weightOf 36 = .ok (.goto (-32), 3) := by decide +kernel
theorem dX7_weightOf_39 : decode cX7_weightOf 39 = .ok (.iload_n 2, 1) := by decide +kernel
theorem dX7_weightOf_40 : decode cX7_weightOf 40 = .ok (.ireturn, 1) := by decide +kernel
set_option maxRecDepth 20000 in
theorem ggX7_worthOf_X7_isIn : GoodIn wsX7_worthOf wsX7_isIn := goodIn_r _ [6] (by decide +kernel) (by decide +kernel)
set_option maxRecDepth 20000 in
theorem gX7_worthOf_X7_isIn : GoodIn wsX7_worthOf (va_wsS RX7 54 yX7_isIn wsX7_isIn) := goodIn_app (goodIn_of _ (by decide +kernel)) ggX7_worthOf_X7_isIn
theorem dX7_worthOf_0 : decode cX7_worthOf 0 = .ok (.iconst 0, 1) := by decide +kernel
theorem dX7_worthOf_1 : decode cX7_worthOf 1 = .ok (.istore_n 2, 1) := by decide +kernel
theorem dX7_worthOf_2 : decode cX7_worthOf 2 = .ok (.iconst 0, 1) := by decide +kernel
theorem dX7_worthOf_3 : decode cX7_worthOf 3 = .ok (.istore_n 3, 1) := by decide +kernel
theorem dX7_worthOf_4 : decode cX7_worthOf 4 = .ok (.iload_n 3, 1) := by decide +kernel
theorem dX7_worthOf_5 : decode cX7_worthOf 5 = .ok (.aload_n 0, 1) := by decide +kernel
theorem dX7_worthOf_6 : decode cX7_worthOf 6 = .ok (.getfield 44, 3) := by decide +kernel
theorem dX7_worthOf_9 : decode cX7_worthOf 9 = .ok (.if_icmp .ge 30, 3) := by decide +kernel
theorem dX7_worthOf_12 : decode cX7_worthOf 12 = .ok (.iload_n 2, 1) := by decide +kernel
theorem dX7_worthOf_13 : decode cX7_worthOf 13 = .ok (.iload_n 3, 1) := by decide +kernel
theorem dX7_worthOf_14 : decode cX7_worthOf 14 = .ok (.iload_n 1, 1) := by decide +kernel
theorem dX7_worthOf_15 : decode cX7_worthOf 15 = .ok (.invokestatic 54, 3) := by decide +kernel
theorem dX7_worthOf_18 : decode cX7_worthOf 18 = .ok (.ifCond .eq 12, 3) := by decide +kernel
theorem dX7_worthOf_21 : decode cX7_worthOf 21 = .ok (.aload_n 0, 1) := by decide +kernel
theorem dX7_worthOf_22 : decode cX7_worthOf 22 = .ok (.getfield 21, 3) := by decide +kernel
theorem dX7_worthOf_25 : decode cX7_worthOf 25 = .ok (.iload_n 3, 1) := by decide +kernel
theorem dX7_worthOf_26 : decode cX7_worthOf 26 = .ok (.iaload, 1) := by decide +kernel
theorem dX7_worthOf_27 : decode cX7_worthOf 27 = .ok (.goto 4, 3) := by decide +kernel
theorem dX7_worthOf_30 : decode cX7_worthOf 30 = .ok (.iconst 0, 1) := by decide +kernel
theorem dX7_worthOf_31 : decode cX7_worthOf 31 = .ok (.iadd, 1) := by decide +kernel
theorem dX7_worthOf_32 : decode cX7_worthOf 32 = .ok (.istore_n 2, 1) := by decide +kernel
theorem dX7_worthOf_33 : decode cX7_worthOf 33 = .ok (.iinc 3 1, 3) := by decide +kernel
theorem dX7_worthOf_36 : decode cX7_worthOf 36 = .ok (.goto (-32), 3) := by decide +kernel
theorem dX7_worthOf_39 : decode cX7_worthOf 39 = .ok (.iload_n 2, 1) := by decide +kernel
theorem dX7_worthOf_40 : decode cX7_worthOf 40 = .ok (.ireturn, 1) := by decide +kernel
set_option maxRecDepth 20000 in
theorem ggX7_depthOf_X7_isIn : GoodIn wsX7_depthOf wsX7_isIn := goodIn_r _ [11] (by decide +kernel) (by decide +kernel)
set_option maxRecDepth 20000 in
theorem gX7_depthOf_X7_isIn : GoodIn wsX7_depthOf (va_wsS RX7 54 yX7_isIn wsX7_isIn) := goodIn_app (goodIn_of _ (by decide +kernel)) ggX7_depthOf_X7_isIn
theorem dX7_depthOf_0 : decode cX7_depthOf 0 = .ok (.iconst 0, 1) := by decide +kernel
theorem dX7_depthOf_1 : decode cX7_depthOf 1 = .ok (.istore_n 2, 1) := by decide +kernel
theorem dX7_depthOf_2 : decode cX7_depthOf 2 = .ok (.iconst 0, 1) := by decide +kernel
theorem dX7_depthOf_3 : decode cX7_depthOf 3 = .ok (.istore_n 3, 1) := by decide +kernel
theorem dX7_depthOf_4 : decode cX7_depthOf 4 = .ok (.iload_n 3, 1) := by decide +kernel
theorem dX7_depthOf_5 : decode cX7_depthOf 5 = .ok (.aload_n 0, 1) := by decide +kernel
theorem dX7_depthOf_6 : decode cX7_depthOf 6 = .ok (.getfield 44, 3) := by decide +kernel
theorem dX7_depthOf_9 : decode cX7_depthOf 9 = .ok (.if_icmp .ge 66, 3) := by decide +kernel
theorem dX7_depthOf_12 : decode cX7_depthOf 12 = .ok (.iload_n 3, 1) := by decide +kernel
theorem dX7_depthOf_13 : decode cX7_depthOf 13 = .ok (.iload_n 1, 1) := by decide +kernel
theorem dX7_depthOf_14 : decode cX7_depthOf 14 = .ok (.if_icmp .gt 61, 3) := by decide +kernel
theorem dX7_depthOf_17 : decode cX7_depthOf 17 = .ok (.iconst 0, 1) := by decide +kernel
theorem dX7_depthOf_18 : decode cX7_depthOf 18 = .ok (.istore_n 2, 1) := by decide +kernel
theorem dX7_depthOf_19 : decode cX7_depthOf 19 = .ok (.iconst 0, 1) := by decide +kernel
theorem dX7_depthOf_20 : decode cX7_depthOf 20 = .ok (.istore 4, 2) := by decide +kernel
theorem dX7_depthOf_22 : decode cX7_depthOf 22 = .ok (.iload 4, 2) := by decide +kernel
theorem dX7_depthOf_24 : decode cX7_depthOf 24 = .ok (.iload_n 3, 1) := by decide +kernel
theorem dX7_depthOf_25 : decode cX7_depthOf 25 = .ok (.if_icmp .ge 37, 3) := by decide +kernel
theorem dX7_depthOf_28 : decode cX7_depthOf 28 = .ok (.iload 4, 2) := by decide +kernel
theorem dX7_depthOf_30 : decode cX7_depthOf 30 = .ok (.aload_n 0, 1) := by decide +kernel
theorem dX7_depthOf_31 : decode cX7_depthOf 31 = .ok (.getfield 24, 3) := by decide +kernel
theorem dX7_depthOf_34 : decode cX7_depthOf 34 = .ok (.iload_n 3, 1) := by decide +kernel
theorem dX7_depthOf_35 : decode cX7_depthOf 35 = .ok (.iaload, 1) := by decide +kernel
theorem dX7_depthOf_36 : decode cX7_depthOf 36 = .ok (.invokestatic 54, 3) := by decide +kernel
theorem dX7_depthOf_39 : decode cX7_depthOf 39 = .ok (.ifCond .eq 17, 3) := by decide +kernel
theorem dX7_depthOf_42 : decode cX7_depthOf 42 = .ok (.iload_n 2, 1) := by decide +kernel
theorem dX7_depthOf_43 : decode cX7_depthOf 43 = .ok (.aload_n 0, 1) := by decide +kernel
theorem dX7_depthOf_44 : decode cX7_depthOf 44 = .ok (.getfield 27, 3) := by decide +kernel
theorem dX7_depthOf_47 : decode cX7_depthOf 47 = .ok (.iload 4, 2) := by decide +kernel
theorem dX7_depthOf_49 : decode cX7_depthOf 49 = .ok (.iaload, 1) := by decide +kernel
theorem dX7_depthOf_50 : decode cX7_depthOf 50 = .ok (.iconst 1, 1) := by decide +kernel
theorem dX7_depthOf_51 : decode cX7_depthOf 51 = .ok (.iadd, 1) := by decide +kernel
theorem dX7_depthOf_52 : decode cX7_depthOf 52 = .ok (.invokestatic 71, 3) := by decide +kernel
theorem dX7_depthOf_55 : decode cX7_depthOf 55 = .ok (.istore_n 2, 1) := by decide +kernel
theorem dX7_depthOf_56 : decode cX7_depthOf 56 = .ok (.iinc 4 1, 3) := by decide +kernel
theorem dX7_depthOf_59 : decode cX7_depthOf 59 = .ok (.goto (-37), 3) := by decide +kernel
theorem dX7_depthOf_62 : decode cX7_depthOf 62 = .ok (.aload_n 0, 1) := by decide +kernel
theorem dX7_depthOf_63 : decode cX7_depthOf 63 = .ok (.getfield 27, 3) := by decide +kernel
theorem dX7_depthOf_66 : decode cX7_depthOf 66 = .ok (.iload_n 3, 1) := by decide +kernel
theorem dX7_depthOf_67 : decode cX7_depthOf 67 = .ok (.iload_n 2, 1) := by decide +kernel
theorem dX7_depthOf_68 : decode cX7_depthOf 68 = .ok (.iastore, 1) := by decide +kernel
theorem dX7_depthOf_69 : decode cX7_depthOf 69 = .ok (.iinc 3 1, 3) := by decide +kernel
theorem dX7_depthOf_72 : decode cX7_depthOf 72 = .ok (.goto (-68), 3) := by decide +kernel
theorem dX7_depthOf_75 : decode cX7_depthOf 75 = .ok (.iload_n 2, 1) := by decide +kernel
theorem dX7_depthOf_76 : decode cX7_depthOf 76 = .ok (.ireturn, 1) := by decide +kernel
set_option maxRecDepth 20000 in
theorem ggX7_rootsOf_X7_isIn : GoodIn wsX7_rootsOf wsX7_isIn := goodIn_r _ [6] (by decide +kernel) (by decide +kernel)
set_option maxRecDepth 20000 in
theorem gX7_rootsOf_X7_isIn : GoodIn wsX7_rootsOf (va_wsS RX7 54 yX7_isIn wsX7_isIn) := goodIn_app (goodIn_of _ (by decide +kernel)) ggX7_rootsOf_X7_isIn
theorem dX7_rootsOf_0 : decode cX7_rootsOf 0 = .ok (.iconst 1, 1) := by decide +kernel
theorem dX7_rootsOf_1 : decode cX7_rootsOf 1 = .ok (.iload_n 1, 1) := by decide +kernel
theorem dX7_rootsOf_2 : decode cX7_rootsOf 2 = .ok (.ishl, 1) := by decide +kernel
theorem dX7_rootsOf_3 : decode cX7_rootsOf 3 = .ok (.istore_n 2, 1) := by decide +kernel
theorem dX7_rootsOf_4 : decode cX7_rootsOf 4 = .ok (.iconst 0, 1) := by decide +kernel
theorem dX7_rootsOf_5 : decode cX7_rootsOf 5 = .ok (.istore_n 3, 1) := by decide +kernel
theorem dX7_rootsOf_6 : decode cX7_rootsOf 6 = .ok (.aload_n 0, 1) := by decide +kernel
theorem dX7_rootsOf_7 : decode cX7_rootsOf 7 = .ok (.getfield 44, 3) := by decide +kernel
theorem dX7_rootsOf_10 : decode cX7_rootsOf 10 = .ok (.iconst 1, 1) := by decide +kernel
theorem dX7_rootsOf_11 : decode cX7_rootsOf 11 = .ok (.isub, 1) := by decide +kernel
theorem dX7_rootsOf_12 : decode cX7_rootsOf 12 = .ok (.istore 4, 2) := by decide +kernel
theorem dX7_rootsOf_14 : decode cX7_rootsOf 14 = .ok (.iload 4, 2) := by decide +kernel
theorem dX7_rootsOf_16 : decode cX7_rootsOf 16 = .ok (.ifCond .lt 49, 3) := by decide +kernel
theorem dX7_rootsOf_19 : decode cX7_rootsOf 19 = .ok (.iload 4, 2) := by decide +kernel
theorem dX7_rootsOf_21 : decode cX7_rootsOf 21 = .ok (.iload_n 2, 1) := by decide +kernel
theorem dX7_rootsOf_22 : decode cX7_rootsOf 22 = .ok (.invokestatic 54, 3) := by decide +kernel
theorem dX7_rootsOf_25 : decode cX7_rootsOf 25 = .ok (.ifCond .eq 34, 3) := by decide +kernel
theorem dX7_rootsOf_28 : decode cX7_rootsOf 28 = .ok (.iload_n 2, 1) := by decide +kernel
theorem dX7_rootsOf_29 : decode cX7_rootsOf 29 = .ok (.aload_n 0, 1) := by decide +kernel
theorem dX7_rootsOf_30 : decode cX7_rootsOf 30 = .ok (.getfield 24, 3) := by decide +kernel
theorem dX7_rootsOf_33 : decode cX7_rootsOf 33 = .ok (.iload 4, 2) := by decide +kernel
theorem dX7_rootsOf_35 : decode cX7_rootsOf 35 = .ok (.iaload, 1) := by decide +kernel
theorem dX7_rootsOf_36 : decode cX7_rootsOf 36 = .ok (.ior, 1) := by decide +kernel
theorem dX7_rootsOf_37 : decode cX7_rootsOf 37 = .ok (.istore_n 2, 1) := by decide +kernel
theorem dX7_rootsOf_38 : decode cX7_rootsOf 38 = .ok (.iload_n 3, 1) := by decide +kernel
theorem dX7_rootsOf_39 : decode cX7_rootsOf 39 = .ok (.aload_n 0, 1) := by decide +kernel
theorem dX7_rootsOf_40 : decode cX7_rootsOf 40 = .ok (.getfield 24, 3) := by decide +kernel
theorem dX7_rootsOf_43 : decode cX7_rootsOf 43 = .ok (.iload 4, 2) := by decide +kernel
theorem dX7_rootsOf_45 : decode cX7_rootsOf 45 = .ok (.iaload, 1) := by decide +kernel
theorem dX7_rootsOf_46 : decode cX7_rootsOf 46 = .ok (.ifCond .ne 10, 3) := by decide +kernel
theorem dX7_rootsOf_49 : decode cX7_rootsOf 49 = .ok (.iconst 1, 1) := by decide +kernel
theorem dX7_rootsOf_50 : decode cX7_rootsOf 50 = .ok (.iload 4, 2) := by decide +kernel
theorem dX7_rootsOf_52 : decode cX7_rootsOf 52 = .ok (.ishl, 1) := by decide +kernel
theorem dX7_rootsOf_53 : decode cX7_rootsOf 53 = .ok (.goto 4, 3) := by decide +kernel
theorem dX7_rootsOf_56 : decode cX7_rootsOf 56 = .ok (.iconst 0, 1) := by decide +kernel
theorem dX7_rootsOf_57 : decode cX7_rootsOf 57 = .ok (.ior, 1) := by decide +kernel
theorem dX7_rootsOf_58 : decode cX7_rootsOf 58 = .ok (.istore_n 3, 1) := by decide +kernel
theorem dX7_rootsOf_59 : decode cX7_rootsOf 59 = .ok (.iinc 4 (-1), 3) := by decide +kernel
theorem dX7_rootsOf_62 : decode cX7_rootsOf 62 = .ok (.goto (-48), 3) := by decide +kernel
theorem dX7_rootsOf_65 : decode cX7_rootsOf 65 = .ok (.iload_n 3, 1) := by decide +kernel
theorem dX7_rootsOf_66 : decode cX7_rootsOf 66 = .ok (.ireturn, 1) := by decide +kernel
theorem dX7_sayingsOf_0 : decode cX7_sayingsOf 0 = .ok (.iconst 0, 1) := by decide +kernel
theorem dX7_sayingsOf_1 : decode cX7_sayingsOf 1 = .ok (.istore_n 2, 1) := by decide +kernel
theorem dX7_sayingsOf_2 : decode cX7_sayingsOf 2 = .ok (.iconst 0, 1) := by decide +kernel
theorem dX7_sayingsOf_3 : decode cX7_sayingsOf 3 = .ok (.istore_n 3, 1) := by decide +kernel
theorem dX7_sayingsOf_4 : decode cX7_sayingsOf 4 = .ok (.iload_n 3, 1) := by decide +kernel
theorem dX7_sayingsOf_5 : decode cX7_sayingsOf 5 = .ok (.aload_n 0, 1) := by decide +kernel
theorem dX7_sayingsOf_6 : decode cX7_sayingsOf 6 = .ok (.getfield 44, 3) := by decide +kernel
theorem dX7_sayingsOf_9 : decode cX7_sayingsOf 9 = .ok (.if_icmp .ge 29, 3) := by decide +kernel
theorem dX7_sayingsOf_12 : decode cX7_sayingsOf 12 = .ok (.iload_n 2, 1) := by decide +kernel
theorem dX7_sayingsOf_13 : decode cX7_sayingsOf 13 = .ok (.aload_n 0, 1) := by decide +kernel
theorem dX7_sayingsOf_14 : decode cX7_sayingsOf 14 = .ok (.getfield 15, 3) := by decide +kernel
theorem dX7_sayingsOf_17 : decode cX7_sayingsOf 17 = .ok (.iload_n 3, 1) := by decide +kernel
theorem dX7_sayingsOf_18 : decode cX7_sayingsOf 18 = .ok (.iaload, 1) := by decide +kernel
theorem dX7_sayingsOf_19 : decode cX7_sayingsOf 19 = .ok (.iload_n 1, 1) := by decide +kernel
theorem dX7_sayingsOf_20 : decode cX7_sayingsOf 20 = .ok (.if_icmp .ne 9, 3) := by decide +kernel
theorem dX7_sayingsOf_23 : decode cX7_sayingsOf 23 = .ok (.iconst 1, 1) := by decide +kernel
theorem dX7_sayingsOf_24 : decode cX7_sayingsOf 24 = .ok (.iload_n 3, 1) := by decide +kernel
theorem dX7_sayingsOf_25 : decode cX7_sayingsOf 25 = .ok (.ishl, 1) := by decide +kernel
theorem dX7_sayingsOf_26 : decode cX7_sayingsOf 26 = .ok (.goto 4, 3) := by decide +kernel
theorem dX7_sayingsOf_29 : decode cX7_sayingsOf 29 = .ok (.iconst 0, 1) := by decide +kernel
theorem dX7_sayingsOf_30 : decode cX7_sayingsOf 30 = .ok (.ior, 1) := by decide +kernel
theorem dX7_sayingsOf_31 : decode cX7_sayingsOf 31 = .ok (.istore_n 2, 1) := by decide +kernel
theorem dX7_sayingsOf_32 : decode cX7_sayingsOf 32 = .ok (.iinc 3 1, 3) := by decide +kernel
theorem dX7_sayingsOf_35 : decode cX7_sayingsOf 35 = .ok (.goto (-31), 3) := by decide +kernel
theorem dX7_sayingsOf_38 : decode cX7_sayingsOf 38 = .ok (.iload_n 2, 1) := by decide +kernel
theorem dX7_sayingsOf_39 : decode cX7_sayingsOf 39 = .ok (.ireturn, 1) := by decide +kernel
set_option maxRecDepth 20000 in
theorem ggX7_leansOf_X7_isIn : GoodIn wsX7_leansOf wsX7_isIn := goodIn_r _ [7] (by decide +kernel) (by decide +kernel)
set_option maxRecDepth 20000 in
theorem gX7_leansOf_X7_isIn : GoodIn wsX7_leansOf (va_wsS RX7 54 yX7_isIn wsX7_isIn) := goodIn_app (goodIn_of _ (by decide +kernel)) ggX7_leansOf_X7_isIn
theorem dX7_leansOf_0 : decode cX7_leansOf 0 = .ok (.iconst 0, 1) := by decide +kernel
theorem dX7_leansOf_1 : decode cX7_leansOf 1 = .ok (.istore_n 2, 1) := by decide +kernel
theorem dX7_leansOf_2 : decode cX7_leansOf 2 = .ok (.iconst 0, 1) := by decide +kernel
theorem dX7_leansOf_3 : decode cX7_leansOf 3 = .ok (.istore_n 3, 1) := by decide +kernel
theorem dX7_leansOf_4 : decode cX7_leansOf 4 = .ok (.iload_n 3, 1) := by decide +kernel
theorem dX7_leansOf_5 : decode cX7_leansOf 5 = .ok (.aload_n 0, 1) := by decide +kernel
theorem dX7_leansOf_6 : decode cX7_leansOf 6 = .ok (.getfield 44, 3) := by decide +kernel
theorem dX7_leansOf_9 : decode cX7_leansOf 9 = .ok (.if_icmp .ge 32, 3) := by decide +kernel
theorem dX7_leansOf_12 : decode cX7_leansOf 12 = .ok (.iload_n 2, 1) := by decide +kernel
theorem dX7_leansOf_13 : decode cX7_leansOf 13 = .ok (.aload_n 0, 1) := by decide +kernel
theorem dX7_leansOf_14 : decode cX7_leansOf 14 = .ok (.getfield 15, 3) := by decide +kernel
theorem dX7_leansOf_17 : decode cX7_leansOf 17 = .ok (.iload_n 3, 1) := by decide +kernel
theorem dX7_leansOf_18 : decode cX7_leansOf 18 = .ok (.iaload, 1) := by decide +kernel
theorem dX7_leansOf_19 : decode cX7_leansOf 19 = .ok (.iload_n 1, 1) := by decide +kernel
theorem dX7_leansOf_20 : decode cX7_leansOf 20 = .ok (.if_icmp .ne 12, 3) := by decide +kernel
theorem dX7_leansOf_23 : decode cX7_leansOf 23 = .ok (.aload_n 0, 1) := by decide +kernel
theorem dX7_leansOf_24 : decode cX7_leansOf 24 = .ok (.getfield 24, 3) := by decide +kernel
theorem dX7_leansOf_27 : decode cX7_leansOf 27 = .ok (.iload_n 3, 1) := by decide +kernel
theorem dX7_leansOf_28 : decode cX7_leansOf 28 = .ok (.iaload, 1) := by decide +kernel
theorem dX7_leansOf_29 : decode cX7_leansOf 29 = .ok (.goto 4, 3) := by decide +kernel
theorem dX7_leansOf_32 : decode cX7_leansOf 32 = .ok (.iconst 0, 1) := by decide +kernel
theorem dX7_leansOf_33 : decode cX7_leansOf 33 = .ok (.ior, 1) := by decide +kernel
theorem dX7_leansOf_34 : decode cX7_leansOf 34 = .ok (.istore_n 2, 1) := by decide +kernel
theorem dX7_leansOf_35 : decode cX7_leansOf 35 = .ok (.iinc 3 1, 3) := by decide +kernel
theorem dX7_leansOf_38 : decode cX7_leansOf 38 = .ok (.goto (-34), 3) := by decide +kernel
theorem dX7_leansOf_41 : decode cX7_leansOf 41 = .ok (.iconst 0, 1) := by decide +kernel
theorem dX7_leansOf_42 : decode cX7_leansOf 42 = .ok (.istore_n 3, 1) := by decide +kernel
theorem dX7_leansOf_43 : decode cX7_leansOf 43 = .ok (.iconst 0, 1) := by decide +kernel
theorem dX7_leansOf_44 : decode cX7_leansOf 44 = .ok (.istore 4, 2) := by decide +kernel
theorem dX7_leansOf_46 : decode cX7_leansOf 46 = .ok (.iload 4, 2) := by decide +kernel
theorem dX7_leansOf_48 : decode cX7_leansOf 48 = .ok (.aload_n 0, 1) := by decide +kernel
theorem dX7_leansOf_49 : decode cX7_leansOf 49 = .ok (.getfield 44, 3) := by decide +kernel
theorem dX7_leansOf_52 : decode cX7_leansOf 52 = .ok (.if_icmp .ge 45, 3) := by decide +kernel
theorem dX7_leansOf_55 : decode cX7_leansOf 55 = .ok (.iload_n 3, 1) := by decide +kernel
theorem dX7_leansOf_56 : decode cX7_leansOf 56 = .ok (.iload 4, 2) := by decide +kernel
theorem dX7_leansOf_58 : decode cX7_leansOf 58 = .ok (.iload_n 2, 1) := by decide +kernel
theorem dX7_leansOf_59 : decode cX7_leansOf 59 = .ok (.invokestatic 54, 3) := by decide +kernel
theorem dX7_leansOf_62 : decode cX7_leansOf 62 = .ok (.ifCond .eq 26, 3) := by decide +kernel
theorem dX7_leansOf_65 : decode cX7_leansOf 65 = .ok (.aload_n 0, 1) := by decide +kernel
theorem dX7_leansOf_66 : decode cX7_leansOf 66 = .ok (.getfield 15, 3) := by decide +kernel
theorem dX7_leansOf_69 : decode cX7_leansOf 69 = .ok (.iload 4, 2) := by decide +kernel
theorem dX7_leansOf_71 : decode cX7_leansOf 71 = .ok (.iaload, 1) := by decide +kernel
theorem dX7_leansOf_72 : decode cX7_leansOf 72 = .ok (.iload_n 1, 1) := by decide +kernel
theorem dX7_leansOf_73 : decode cX7_leansOf 73 = .ok (.if_icmp .eq 15, 3) := by decide +kernel
theorem dX7_leansOf_76 : decode cX7_leansOf 76 = .ok (.iconst 1, 1) := by decide +kernel
theorem dX7_leansOf_77 : decode cX7_leansOf 77 = .ok (.aload_n 0, 1) := by decide +kernel
theorem dX7_leansOf_78 : decode cX7_leansOf 78 = .ok (.getfield 15, 3) := by decide +kernel
theorem dX7_leansOf_81 : decode cX7_leansOf 81 = .ok (.iload 4, 2) := by decide +kernel
theorem dX7_leansOf_83 : decode cX7_leansOf 83 = .ok (.iaload, 1) := by decide +kernel
theorem dX7_leansOf_84 : decode cX7_leansOf 84 = .ok (.ishl, 1) := by decide +kernel
theorem dX7_leansOf_85 : decode cX7_leansOf 85 = .ok (.goto 4, 3) := by decide +kernel
theorem dX7_leansOf_88 : decode cX7_leansOf 88 = .ok (.iconst 0, 1) := by decide +kernel
theorem dX7_leansOf_89 : decode cX7_leansOf 89 = .ok (.ior, 1) := by decide +kernel
theorem dX7_leansOf_90 : decode cX7_leansOf 90 = .ok (.istore_n 3, 1) := by decide +kernel
theorem dX7_leansOf_91 : decode cX7_leansOf 91 = .ok (.iinc 4 1, 3) := by decide +kernel
theorem dX7_leansOf_94 : decode cX7_leansOf 94 = .ok (.goto (-48), 3) := by decide +kernel
theorem dX7_leansOf_97 : decode cX7_leansOf 97 = .ok (.iload_n 3, 1) := by decide +kernel
theorem dX7_leansOf_98 : decode cX7_leansOf 98 = .ok (.ireturn, 1) := by decide +kernel
set_option maxRecDepth 20000 in
theorem ggX7_shareOf_X7_hasPerson : GoodIn wsX7_shareOf wsX7_hasPerson := goodIn_r _ [7, 1, 8, 9, 10, 11, 12, 13, 14, 15, 16, 17, 18, 19] (by decide +kernel) (by decide +kernel)
set_option maxRecDepth 20000 in
theorem gX7_shareOf_X7_hasPerson : GoodIn wsX7_shareOf (wsV RX7 76 RX7 yX7_hasPerson wsX7_hasPerson) := goodIn_app (goodIn_of _ (by decide +kernel)) ggX7_shareOf_X7_hasPerson
theorem dX7_shareOf_0 : decode cX7_shareOf 0 = .ok (.iconst 0, 1) := by decide +kernel
theorem dX7_shareOf_1 : decode cX7_shareOf 1 = .ok (.istore_n 3, 1) := by decide +kernel
theorem dX7_shareOf_2 : decode cX7_shareOf 2 = .ok (.iconst 0, 1) := by decide +kernel
theorem dX7_shareOf_3 : decode cX7_shareOf 3 = .ok (.istore 4, 2) := by decide +kernel
theorem dX7_shareOf_5 : decode cX7_shareOf 5 = .ok (.iload 4, 2) := by decide +kernel
theorem dX7_shareOf_7 : decode cX7_shareOf 7 = .ok (.aload_n 0, 1) := by decide +kernel
theorem dX7_shareOf_8 : decode cX7_shareOf 8 = .ok (.getfield 41, 3) := by decide +kernel
theorem dX7_shareOf_11 : decode cX7_shareOf 11 = .ok (.if_icmp .ge 19, 3) := by decide +kernel
theorem dX7_shareOf_14 : decode cX7_shareOf 14 = .ok (.iload_n 3, 1) := by decide +kernel
theorem dX7_shareOf_15 : decode cX7_shareOf 15 = .ok (.aload_n 0, 1) := by decide +kernel
theorem dX7_shareOf_16 : decode cX7_shareOf 16 = .ok (.getfield 9, 3) := by decide +kernel
theorem dX7_shareOf_19 : decode cX7_shareOf 19 = .ok (.iload 4, 2) := by decide +kernel
theorem dX7_shareOf_21 : decode cX7_shareOf 21 = .ok (.iaload, 1) := by decide +kernel
theorem dX7_shareOf_22 : decode cX7_shareOf 22 = .ok (.iadd, 1) := by decide +kernel
theorem dX7_shareOf_23 : decode cX7_shareOf 23 = .ok (.istore_n 3, 1) := by decide +kernel
theorem dX7_shareOf_24 : decode cX7_shareOf 24 = .ok (.iinc 4 1, 3) := by decide +kernel
theorem dX7_shareOf_27 : decode cX7_shareOf 27 = .ok (.goto (-22), 3) := by decide +kernel
theorem dX7_shareOf_30 : decode cX7_shareOf 30 = .ok (.iload_n 3, 1) := by decide +kernel
theorem dX7_shareOf_31 : decode cX7_shareOf 31 = .ok (.ifCond .eq 11, 3) := by decide +kernel
theorem dX7_shareOf_34 : decode cX7_shareOf 34 = .ok (.aload_n 0, 1) := by decide +kernel
theorem dX7_shareOf_35 : decode cX7_shareOf 35 = .ok (.iload_n 1, 1) := by decide +kernel
theorem dX7_shareOf_36 : decode cX7_shareOf 36 = .ok (.invokevirtual 76, 3) := by decide +kernel
theorem dX7_shareOf_39 : decode cX7_shareOf 39 = .ok (.ifCond .ne 5, 3) := by decide +kernel
theorem dX7_shareOf_42 : decode cX7_shareOf 42 = .ok (.iconst 0, 1) := by decide +kernel
theorem dX7_shareOf_43 : decode cX7_shareOf 43 = .ok (.ireturn, 1) := by decide +kernel
theorem dX7_shareOf_44 : decode cX7_shareOf 44 = .ok (.iload_n 2, 1) := by decide +kernel
theorem dX7_shareOf_45 : decode cX7_shareOf 45 = .ok (.istore 4, 2) := by decide +kernel
theorem dX7_shareOf_47 : decode cX7_shareOf 47 = .ok (.iconst 0, 1) := by decide +kernel
theorem dX7_shareOf_48 : decode cX7_shareOf 48 = .ok (.istore 5, 2) := by decide +kernel
theorem dX7_shareOf_50 : decode cX7_shareOf 50 = .ok (.iload 5, 2) := by decide +kernel
theorem dX7_shareOf_52 : decode cX7_shareOf 52 = .ok (.aload_n 0, 1) := by decide +kernel
theorem dX7_shareOf_53 : decode cX7_shareOf 53 = .ok (.getfield 41, 3) := by decide +kernel
theorem dX7_shareOf_56 : decode cX7_shareOf 56 = .ok (.if_icmp .ge 25, 3) := by decide +kernel
theorem dX7_shareOf_59 : decode cX7_shareOf 59 = .ok (.iload 4, 2) := by decide +kernel
theorem dX7_shareOf_61 : decode cX7_shareOf 61 = .ok (.iload_n 2, 1) := by decide +kernel
theorem dX7_shareOf_62 : decode cX7_shareOf 62 = .ok (.aload_n 0, 1) := by decide +kernel
theorem dX7_shareOf_63 : decode cX7_shareOf 63 = .ok (.getfield 9, 3) := by decide +kernel
theorem dX7_shareOf_66 : decode cX7_shareOf 66 = .ok (.iload 5, 2) := by decide +kernel
theorem dX7_shareOf_68 : decode cX7_shareOf 68 = .ok (.iaload, 1) := by decide +kernel
theorem dX7_shareOf_69 : decode cX7_shareOf 69 = .ok (.imul, 1) := by decide +kernel
theorem dX7_shareOf_70 : decode cX7_shareOf 70 = .ok (.iload_n 3, 1) := by decide +kernel
theorem dX7_shareOf_71 : decode cX7_shareOf 71 = .ok (.idiv, 1) := by decide +kernel
theorem dX7_shareOf_72 : decode cX7_shareOf 72 = .ok (.isub, 1) := by decide +kernel
theorem dX7_shareOf_73 : decode cX7_shareOf 73 = .ok (.istore 4, 2) := by decide +kernel
theorem dX7_shareOf_75 : decode cX7_shareOf 75 = .ok (.iinc 5 1, 3) := by decide +kernel
theorem dX7_shareOf_78 : decode cX7_shareOf 78 = .ok (.goto (-28), 3) := by decide +kernel
theorem dX7_shareOf_81 : decode cX7_shareOf 81 = .ok (.iload_n 2, 1) := by decide +kernel
theorem dX7_shareOf_82 : decode cX7_shareOf 82 = .ok (.aload_n 0, 1) := by decide +kernel
theorem dX7_shareOf_83 : decode cX7_shareOf 83 = .ok (.getfield 9, 3) := by decide +kernel
theorem dX7_shareOf_86 : decode cX7_shareOf 86 = .ok (.iload_n 1, 1) := by decide +kernel
theorem dX7_shareOf_87 : decode cX7_shareOf 87 = .ok (.iaload, 1) := by decide +kernel
theorem dX7_shareOf_88 : decode cX7_shareOf 88 = .ok (.imul, 1) := by decide +kernel
theorem dX7_shareOf_89 : decode cX7_shareOf 89 = .ok (.iload_n 3, 1) := by decide +kernel
theorem dX7_shareOf_90 : decode cX7_shareOf 90 = .ok (.idiv, 1) := by decide +kernel
theorem dX7_shareOf_91 : decode cX7_shareOf 91 = .ok (.iload_n 1, 1) := by decide +kernel
theorem dX7_shareOf_92 : decode cX7_shareOf 92 = .ok (.iload 4, 2) := by decide +kernel
theorem dX7_shareOf_94 : decode cX7_shareOf 94 = .ok (.if_icmp .ge 7, 3) := by decide +kernel
theorem dX7_shareOf_97 : decode cX7_shareOf 97 = .ok (.iconst 1, 1) := by decide +kernel
theorem dX7_shareOf_98 : decode cX7_shareOf 98 = .ok (.goto 4, 3) := by decide +kernel
theorem dX7_shareOf_101 : decode cX7_shareOf 101 = .ok (.iconst 0, 1) := by decide +kernel
theorem dX7_shareOf_102 : decode cX7_shareOf 102 = .ok (.iadd, 1) := by decide +kernel
theorem dX7_shareOf_103 : decode cX7_shareOf 103 = .ok (.ireturn, 1) := by decide +kernel
