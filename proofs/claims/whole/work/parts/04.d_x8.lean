set_option maxRecDepth 20000 in
theorem ggX8_init_X4_init : GoodIn wsX8_init wsX4_init := goodIn_r _ [39, 40, 2, 3, 41, 42, 43, 86, 87, 88, 89, 90, 91] (by decide +kernel) (by decide +kernel)
set_option maxRecDepth 20000 in
theorem gX8_init_X4_init_n9 : GoodIn wsX8_init (wsX4_init) := ggX8_init_X4_init
set_option maxRecDepth 20000 in
theorem ggX8_init_X7_init : GoodIn wsX8_init wsX7_init := goodIn_r _ [45, 46, 2, 3, 41, 47, 48, 49, 50, 51, 52, 102, 103, 104, 105, 106, 107, 108, 109, 110, 111, 112, 113] (by decide +kernel) (by decide +kernel)
set_option maxRecDepth 20000 in
theorem gX8_init_X7_init_n18 : GoodIn wsX8_init (wsX7_init) := ggX8_init_X7_init
set_option maxRecDepth 20000 in
theorem ggX8_init_X6_init : GoodIn wsX8_init wsX6_init := goodIn_r _ [54, 55, 2, 3, 41, 56, 57, 58, 114, 115, 116, 117, 118, 119, 120, 121, 122, 123] (by decide +kernel) (by decide +kernel)
set_option maxRecDepth 20000 in
theorem gX8_init_X6_init_n28 : GoodIn wsX8_init (wsX6_init) := ggX8_init_X6_init
set_option maxRecDepth 20000 in
theorem ggX8_init_X3_init : GoodIn wsX8_init wsX3_init := goodIn_r _ [61, 62, 2, 3, 63, 64, 14, 15, 53, 54, 55, 41, 56, 57, 58, 124, 125, 126, 114, 115, 116, 117, 118, 119, 120, 121, 122, 123] (by decide +kernel) (by decide +kernel)
set_option maxRecDepth 20000 in
theorem gX8_init_X3_init : GoodIn wsX8_init (wsX3_init) := ggX8_init_X3_init
set_option maxRecDepth 20000 in
theorem ggX8_init_X0_init : GoodIn wsX8_init wsX0_init := goodIn_r _ [66, 67, 2, 3, 41, 68, 69, 70, 127, 128, 129] (by decide +kernel) (by decide +kernel)
set_option maxRecDepth 20000 in
theorem gX8_init_X0_init_n45 : GoodIn wsX8_init (wsX0_init) := ggX8_init_X0_init
set_option maxRecDepth 20000 in
theorem ggX8_init_X1_init : GoodIn wsX8_init wsX1_init := goodIn_r _ [72, 73, 2, 3] (by decide +kernel) (by decide +kernel)
set_option maxRecDepth 20000 in
theorem gX8_init_X1_init_n52 : GoodIn wsX8_init (wsX1_init) := ggX8_init_X1_init
set_option maxRecDepth 20000 in
theorem ggX8_init_X2_init : GoodIn wsX8_init wsX2_init := goodIn_r _ [76, 77, 2, 3, 78, 79, 41, 80, 69, 81, 14, 15, 53, 54, 55, 56, 57, 58, 131, 132, 133, 114, 115, 116, 117, 118, 119, 120, 121, 122, 123] (by decide +kernel) (by decide +kernel)
set_option maxRecDepth 20000 in
theorem gX8_init_X2_init : GoodIn wsX8_init (wsX2_init) := ggX8_init_X2_init
set_option maxRecDepth 20000 in
theorem ggX8_init_X5_init : GoodIn wsX8_init wsX5_init := goodIn_r _ [83, 84, 2, 3, 41, 85, 134, 135, 136] (by decide +kernel) (by decide +kernel)
set_option maxRecDepth 20000 in
theorem gX8_init_X5_init_n66 : GoodIn wsX8_init (wsX5_init) := ggX8_init_X5_init
theorem dX8_init_0 : decode cX8_init 0 = .ok (.aload_n 0, 1) := by decide +kernel
theorem dX8_init_1 : decode cX8_init 1 = .ok (.invokespecial 1, 3) := by decide +kernel
theorem dX8_init_4 : decode cX8_init 4 = .ok (.aload_n 0, 1) := by decide +kernel
theorem dX8_init_5 : decode cX8_init 5 = .ok (.new 7, 3) := by decide +kernel
theorem dX8_init_8 : decode cX8_init 8 = .ok (.dup, 1) := by decide +kernel
theorem dX8_init_9 : decode cX8_init 9 = .ok (.invokespecial 9, 3) := by decide +kernel
theorem dX8_init_12 : decode cX8_init 12 = .ok (.putfield 10, 3) := by decide +kernel
theorem dX8_init_15 : decode cX8_init 15 = .ok (.aload_n 0, 1) := by decide +kernel
theorem dX8_init_16 : decode cX8_init 16 = .ok (.new 16, 3) := by decide +kernel
theorem dX8_init_19 : decode cX8_init 19 = .ok (.dup, 1) := by decide +kernel
theorem dX8_init_20 : decode cX8_init 20 = .ok (.invokespecial 18, 3) := by decide +kernel
theorem dX8_init_23 : decode cX8_init 23 = .ok (.putfield 19, 3) := by decide +kernel
theorem dX8_init_26 : decode cX8_init 26 = .ok (.aload_n 0, 1) := by decide +kernel
theorem dX8_init_27 : decode cX8_init 27 = .ok (.new 16, 3) := by decide +kernel
theorem dX8_init_30 : decode cX8_init 30 = .ok (.dup, 1) := by decide +kernel
theorem dX8_init_31 : decode cX8_init 31 = .ok (.invokespecial 18, 3) := by decide +kernel
theorem dX8_init_34 : decode cX8_init 34 = .ok (.putfield 23, 3) := by decide +kernel
theorem dX8_init_37 : decode cX8_init 37 = .ok (.aload_n 0, 1) := by decide +kernel
theorem dX8_init_38 : decode cX8_init 38 = .ok (.new 26, 3) := by decide +kernel
theorem dX8_init_41 : decode cX8_init 41 = .ok (.dup, 1) := by decide +kernel
theorem dX8_init_42 : decode cX8_init 42 = .ok (.invokespecial 28, 3) := by decide +kernel
theorem dX8_init_45 : decode cX8_init 45 = .ok (.putfield 29, 3) := by decide +kernel
theorem dX8_init_48 : decode cX8_init 48 = .ok (.aload_n 0, 1) := by decide +kernel
theorem dX8_init_49 : decode cX8_init 49 = .ok (.new 26, 3) := by decide +kernel
theorem dX8_init_52 : decode cX8_init 52 = .ok (.dup, 1) := by decide +kernel
theorem dX8_init_53 : decode cX8_init 53 = .ok (.invokespecial 28, 3) := by decide +kernel
theorem dX8_init_56 : decode cX8_init 56 = .ok (.putfield 33, 3) := by decide +kernel
theorem dX8_init_59 : decode cX8_init 59 = .ok (.aload_n 0, 1) := by decide +kernel
theorem dX8_init_60 : decode cX8_init 60 = .ok (.new 36, 3) := by decide +kernel
theorem dX8_init_63 : decode cX8_init 63 = .ok (.dup, 1) := by decide +kernel
theorem dX8_init_64 : decode cX8_init 64 = .ok (.invokespecial 38, 3) := by decide +kernel
theorem dX8_init_67 : decode cX8_init 67 = .ok (.putfield 39, 3) := by decide +kernel
theorem dX8_init_70 : decode cX8_init 70 = .ok (.aload_n 0, 1) := by decide +kernel
theorem dX8_init_71 : decode cX8_init 71 = .ok (.new 43, 3) := by decide +kernel
theorem dX8_init_74 : decode cX8_init 74 = .ok (.dup, 1) := by decide +kernel
theorem dX8_init_75 : decode cX8_init 75 = .ok (.invokespecial 45, 3) := by decide +kernel
theorem dX8_init_78 : decode cX8_init 78 = .ok (.putfield 46, 3) := by decide +kernel
theorem dX8_init_81 : decode cX8_init 81 = .ok (.aload_n 0, 1) := by decide +kernel
theorem dX8_init_82 : decode cX8_init 82 = .ok (.new 50, 3) := by decide +kernel
theorem dX8_init_85 : decode cX8_init 85 = .ok (.dup, 1) := by decide +kernel
theorem dX8_init_86 : decode cX8_init 86 = .ok (.invokespecial 52, 3) := by decide +kernel
theorem dX8_init_89 : decode cX8_init 89 = .ok (.putfield 53, 3) := by decide +kernel
theorem dX8_init_92 : decode cX8_init 92 = .ok (.aload_n 0, 1) := by decide +kernel
theorem dX8_init_93 : decode cX8_init 93 = .ok (.new 57, 3) := by decide +kernel
theorem dX8_init_96 : decode cX8_init 96 = .ok (.dup, 1) := by decide +kernel
theorem dX8_init_97 : decode cX8_init 97 = .ok (.invokespecial 59, 3) := by decide +kernel
theorem dX8_init_100 : decode cX8_init 100 = .ok (.putfield 60, 3) := by decide +kernel
theorem dX8_init_103 : decode cX8_init 103 = .ok (.aload_n 0, 1) := by decide +kernel
theorem dX8_init_104 : decode cX8_init 104 = .ok (.new 64, 3) := by decide +kernel
theorem dX8_init_107 : decode cX8_init 107 = .ok (.dup, 1) := by decide +kernel
theorem dX8_init_108 : decode cX8_init 108 = .ok (.invokespecial 66, 3) := by decide +kernel
theorem dX8_init_111 : decode cX8_init 111 = .ok (.putfield 67, 3) := by decide +kernel
theorem dX8_init_114 : decode cX8_init 114 = .ok (.return_, 1) := by decide +kernel
set_option maxRecDepth 20000 in
theorem ggX8_feed_X4_add : GoodIn wsX8_feed wsX4_add := goodIn_r _ [9, 10, 11, 22, 23, 24, 25, 26, 27] (by decide +kernel) (by decide +kernel)
set_option maxRecDepth 20000 in
theorem gX8_feed_X4_add : GoodIn wsX8_feed (wsV RX8 72 RX4 yX4_add wsX4_add) := goodIn_app (goodIn_of _ (by decide +kernel)) ggX8_feed_X4_add
theorem dX8_feed_0 : decode cX8_feed 0 = .ok (.iload_n 1, 1) := by decide +kernel
theorem dX8_feed_1 : decode cX8_feed 1 = .ok (.ifCond .lt 10, 3) := by decide +kernel
theorem dX8_feed_4 : decode cX8_feed 4 = .ok (.iload_n 1, 1) := by decide +kernel
theorem dX8_feed_5 : decode cX8_feed 5 = .ok (.sipush 255, 3) := by decide +kernel
theorem dX8_feed_8 : decode cX8_feed 8 = .ok (.if_icmp .le 6, 3) := by decide +kernel
theorem dX8_feed_11 : decode cX8_feed 11 = .ok (.ldc 71, 2) := by decide +kernel
theorem dX8_feed_13 : decode cX8_feed 13 = .ok (.ireturn, 1) := by decide +kernel
theorem dX8_feed_14 : decode cX8_feed 14 = .ok (.aload_n 0, 1) := by decide +kernel
theorem dX8_feed_15 : decode cX8_feed 15 = .ok (.getfield 10, 3) := by decide +kernel
theorem dX8_feed_18 : decode cX8_feed 18 = .ok (.iload_n 1, 1) := by decide +kernel
theorem dX8_feed_19 : decode cX8_feed 19 = .ok (.invokevirtual 72, 3) := by decide +kernel
theorem dX8_feed_22 : decode cX8_feed 22 = .ok (.ifCond .eq 13, 3) := by decide +kernel
theorem dX8_feed_25 : decode cX8_feed 25 = .ok (.aload_n 0, 1) := by decide +kernel
theorem dX8_feed_26 : decode cX8_feed 26 = .ok (.getfield 10, 3) := by decide +kernel
theorem dX8_feed_29 : decode cX8_feed 29 = .ok (.getfield 76, 3) := by decide +kernel
theorem dX8_feed_32 : decode cX8_feed 32 = .ok (.goto 5, 3) := by decide +kernel
theorem dX8_feed_35 : decode cX8_feed 35 = .ok (.ldc 80, 2) := by decide +kernel
theorem dX8_feed_37 : decode cX8_feed 37 = .ok (.ireturn, 1) := by decide +kernel
set_option maxRecDepth 20000 in
theorem ggX8_yard_X4_readInto : GoodIn wsX8_yard wsX4_readInto := goodIn_r _ [14, 15, 16, 17, 18, 19, 20, 21, 22, 23, 24, 25, 26, 27, 28, 29, 30, 31, 32, 13, 33, 34, 35, 36, 37, 38, 39, 40, 41, 42, 43, 44, 45, 46, 47, 48, 49, 50, 51, 52, 53, 54, 55, 56, 57, 58, 59, 60, 61, 62, 63, 64, 65, 66, 67, 68, 69, 70, 71, 72, 73, 74, 75, 76, 77, 78, 79, 80, 81, 82, 83, 84, 85, 86, 87, 88, 89, 90, 91, 92, 93, 94, 95, 96, 97, 98, 99, 100, 101, 102, 103, 104, 105, 106, 107, 108, 109, 110, 111, 163, 164, 165, 166, 167, 168, 151, 152, 153, 154, 155, 156, 157, 158, 159, 160, 161, 162] (by decide +kernel) (by decide +kernel)
set_option maxRecDepth 20000 in
theorem gX8_yard_X4_readInto : GoodIn wsX8_yard (wsV RX8 81 RX4 yX4_readInto wsX4_readInto) := goodIn_app (goodIn_of _ (by decide +kernel)) ggX8_yard_X4_readInto
set_option maxRecDepth 20000 in
theorem ggX8_yard_X6_begin : GoodIn wsX8_yard wsX6_begin := goodIn_r _ [116, 117, 118, 119, 120, 121, 122, 123, 124, 125, 151, 152, 153, 154, 155, 156, 157, 158, 159, 160, 161, 162, 169, 170, 171, 172, 173, 174, 175, 176, 177, 178] (by decide +kernel) (by decide +kernel)
set_option maxRecDepth 20000 in
theorem gX8_yard_X6_begin : GoodIn wsX8_yard (wsV RX8 85 RX6 yX6_begin wsX6_begin) := goodIn_app (goodIn_of _ (by decide +kernel)) ggX8_yard_X6_begin
set_option maxRecDepth 20000 in
theorem ggX8_yard_X3_forget : GoodIn wsX8_yard wsX3_forget := goodIn_r _ [130, 131, 179, 180, 181] (by decide +kernel) (by decide +kernel)
set_option maxRecDepth 20000 in
theorem gX8_yard_X3_forget : GoodIn wsX8_yard (wsV RX8 89 RX3 yX3_forget wsX3_forget) := goodIn_app (goodIn_of _ (by decide +kernel)) ggX8_yard_X3_forget
set_option maxRecDepth 20000 in
theorem ggX8_yard_X2_forget : GoodIn wsX8_yard wsX2_forget := goodIn_r _ [136, 137, 182, 183, 184] (by decide +kernel) (by decide +kernel)
set_option maxRecDepth 20000 in
theorem gX8_yard_X2_forget : GoodIn wsX8_yard (wsV RX8 95 RX2 yX2_forget wsX2_forget) := goodIn_app (goodIn_of _ (by decide +kernel)) ggX8_yard_X2_forget
theorem dX8_yard_0 : decode cX8_yard 0 = .ok (.aload_n 0, 1) := by decide +kernel
theorem dX8_yard_1 : decode cX8_yard 1 = .ok (.getfield 10, 3) := by decide +kernel
theorem dX8_yard_4 : decode cX8_yard 4 = .ok (.aload_n 0, 1) := by decide +kernel
theorem dX8_yard_5 : decode cX8_yard 5 = .ok (.getfield 23, 3) := by decide +kernel
theorem dX8_yard_8 : decode cX8_yard 8 = .ok (.invokevirtual 81, 3) := by decide +kernel
theorem dX8_yard_11 : decode cX8_yard 11 = .ok (.istore_n 1, 1) := by decide +kernel
theorem dX8_yard_12 : decode cX8_yard 12 = .ok (.iload_n 1, 1) := by decide +kernel
theorem dX8_yard_13 : decode cX8_yard 13 = .ok (.ifCond .eq 8, 3) := by decide +kernel
theorem dX8_yard_16 : decode cX8_yard 16 = .ok (.bipush (-10), 2) := by decide +kernel
theorem dX8_yard_18 : decode cX8_yard 18 = .ok (.iload_n 1, 1) := by decide +kernel
theorem dX8_yard_19 : decode cX8_yard 19 = .ok (.isub, 1) := by decide +kernel
theorem dX8_yard_20 : decode cX8_yard 20 = .ok (.ireturn, 1) := by decide +kernel
theorem dX8_yard_21 : decode cX8_yard 21 = .ok (.aload_n 0, 1) := by decide +kernel
theorem dX8_yard_22 : decode cX8_yard 22 = .ok (.getfield 23, 3) := by decide +kernel
theorem dX8_yard_25 : decode cX8_yard 25 = .ok (.astore_n 2, 1) := by decide +kernel
theorem dX8_yard_26 : decode cX8_yard 26 = .ok (.aload_n 0, 1) := by decide +kernel
theorem dX8_yard_27 : decode cX8_yard 27 = .ok (.aload_n 0, 1) := by decide +kernel
theorem dX8_yard_28 : decode cX8_yard 28 = .ok (.getfield 19, 3) := by decide +kernel
theorem dX8_yard_31 : decode cX8_yard 31 = .ok (.putfield 23, 3) := by decide +kernel
theorem dX8_yard_34 : decode cX8_yard 34 = .ok (.aload_n 0, 1) := by decide +kernel
theorem dX8_yard_35 : decode cX8_yard 35 = .ok (.aload_n 2, 1) := by decide +kernel
theorem dX8_yard_36 : decode cX8_yard 36 = .ok (.putfield 19, 3) := by decide +kernel
theorem dX8_yard_39 : decode cX8_yard 39 = .ok (.aload_n 0, 1) := by decide +kernel
theorem dX8_yard_40 : decode cX8_yard 40 = .ok (.getfield 29, 3) := by decide +kernel
theorem dX8_yard_43 : decode cX8_yard 43 = .ok (.aload_n 0, 1) := by decide +kernel
theorem dX8_yard_44 : decode cX8_yard 44 = .ok (.getfield 19, 3) := by decide +kernel
theorem dX8_yard_47 : decode cX8_yard 47 = .ok (.invokevirtual 85, 3) := by decide +kernel
theorem dX8_yard_50 : decode cX8_yard 50 = .ok (.aload_n 0, 1) := by decide +kernel
theorem dX8_yard_51 : decode cX8_yard 51 = .ok (.getfield 39, 3) := by decide +kernel
theorem dX8_yard_54 : decode cX8_yard 54 = .ok (.invokevirtual 89, 3) := by decide +kernel
theorem dX8_yard_57 : decode cX8_yard 57 = .ok (.aload_n 0, 1) := by decide +kernel
theorem dX8_yard_58 : decode cX8_yard 58 = .ok (.getfield 46, 3) := by decide +kernel
theorem dX8_yard_61 : decode cX8_yard 61 = .ok (.iconst 0, 1) := by decide +kernel
theorem dX8_yard_62 : decode cX8_yard 62 = .ok (.putfield 92, 3) := by decide +kernel
theorem dX8_yard_65 : decode cX8_yard 65 = .ok (.aload_n 0, 1) := by decide +kernel
theorem dX8_yard_66 : decode cX8_yard 66 = .ok (.getfield 60, 3) := by decide +kernel
theorem dX8_yard_69 : decode cX8_yard 69 = .ok (.invokevirtual 95, 3) := by decide +kernel
theorem dX8_yard_72 : decode cX8_yard 72 = .ok (.aload_n 0, 1) := by decide +kernel
theorem dX8_yard_73 : decode cX8_yard 73 = .ok (.getfield 19, 3) := by decide +kernel
theorem dX8_yard_76 : decode cX8_yard 76 = .ok (.getfield 96, 3) := by decide +kernel
theorem dX8_yard_79 : decode cX8_yard 79 = .ok (.ireturn, 1) := by decide +kernel
theorem dX8_fault_0 : decode cX8_fault 0 = .ok (.aload_n 0, 1) := by decide +kernel
theorem dX8_fault_1 : decode cX8_fault 1 = .ok (.getfield 10, 3) := by decide +kernel
theorem dX8_fault_4 : decode cX8_fault 4 = .ok (.getfield 99, 3) := by decide +kernel
theorem dX8_fault_7 : decode cX8_fault 7 = .ok (.ireturn, 1) := by decide +kernel
set_option maxRecDepth 20000 in
theorem ggX8_told_X7_holding : GoodIn wsX8_told wsX7_holding := goodIn_r _ [25, 26, 27, 28, 29, 24, 30, 62, 63, 64, 65, 66, 67, 68, 69, 70, 71, 72, 73] (by decide +kernel) (by decide +kernel)
set_option maxRecDepth 20000 in
theorem gX8_told_X7_holding : GoodIn wsX8_told (wsV RX8 120 RX7 yX7_holding wsX7_holding) := goodIn_app (goodIn_of _ (by decide +kernel)) ggX8_told_X7_holding
set_option maxRecDepth 20000 in
theorem ggX8_told_X7_worthOf : GoodIn wsX8_told wsX7_worthOf := goodIn_r _ [34, 26, 35, 28, 29, 24, 30, 62, 63, 64, 65, 66, 67, 68, 69, 70, 71, 72, 73] (by decide +kernel) (by decide +kernel)
set_option maxRecDepth 20000 in
theorem gX8_told_X7_worthOf : GoodIn wsX8_told (wsV RX8 130 RX7 yX7_worthOf wsX7_worthOf) := goodIn_app (goodIn_of _ (by decide +kernel)) ggX8_told_X7_worthOf
set_option maxRecDepth 20000 in
theorem ggX8_told_X7_heaviest : GoodIn wsX8_told wsX7_heaviest := goodIn_r _ [39, 26, 40, 41, 42, 24, 43, 44, 22, 23, 25, 27, 28, 29, 30, 45, 46, 47, 48, 49, 50, 51, 62, 63, 64, 65, 66, 67, 68, 69, 70, 71, 72, 73] (by decide +kernel) (by decide +kernel)
set_option maxRecDepth 20000 in
theorem gX8_told_X7_heaviest : GoodIn wsX8_told (wsV RX8 133 RX7 yX7_heaviest wsX7_heaviest) := goodIn_app (goodIn_of _ (by decide +kernel)) ggX8_told_X7_heaviest
theorem dX8_told_0 : decode cX8_told 0 = .ok (.iload_n 1, 1) := by decide +kernel
theorem dX8_told_1 : decode cX8_told 1 = .ok (.tableswitch 251 0 16 #[83, 91, 99, 107, 115, 123, 131, 139, 154, 162, 170, 178, 204, 219, 227, 235, 243], 83) := by decide +kernel
theorem dX8_told_84 : decode cX8_told 84 = .ok (.aload_n 0, 1) := by decide +kernel
theorem dX8_told_85 : decode cX8_told 85 = .ok (.getfield 19, 3) := by decide +kernel
theorem dX8_told_88 : decode cX8_told 88 = .ok (.getfield 102, 3) := by decide +kernel
theorem dX8_told_91 : decode cX8_told 91 = .ok (.ireturn, 1) := by decide +kernel
theorem dX8_told_92 : decode cX8_told 92 = .ok (.aload_n 0, 1) := by decide +kernel
theorem dX8_told_93 : decode cX8_told 93 = .ok (.getfield 19, 3) := by decide +kernel
theorem dX8_told_96 : decode cX8_told 96 = .ok (.getfield 96, 3) := by decide +kernel
theorem dX8_told_99 : decode cX8_told 99 = .ok (.ireturn, 1) := by decide +kernel
theorem dX8_told_100 : decode cX8_told 100 = .ok (.aload_n 0, 1) := by decide +kernel
theorem dX8_told_101 : decode cX8_told 101 = .ok (.getfield 19, 3) := by decide +kernel
theorem dX8_told_104 : decode cX8_told 104 = .ok (.getfield 105, 3) := by decide +kernel
theorem dX8_told_107 : decode cX8_told 107 = .ok (.ireturn, 1) := by decide +kernel
theorem dX8_told_108 : decode cX8_told 108 = .ok (.aload_n 0, 1) := by decide +kernel
theorem dX8_told_109 : decode cX8_told 109 = .ok (.getfield 10, 3) := by decide +kernel
theorem dX8_told_112 : decode cX8_told 112 = .ok (.getfield 76, 3) := by decide +kernel
theorem dX8_told_115 : decode cX8_told 115 = .ok (.ireturn, 1) := by decide +kernel
theorem dX8_told_116 : decode cX8_told 116 = .ok (.aload_n 0, 1) := by decide +kernel
theorem dX8_told_117 : decode cX8_told 117 = .ok (.getfield 29, 3) := by decide +kernel
theorem dX8_told_120 : decode cX8_told 120 = .ok (.getfield 108, 3) := by decide +kernel
theorem dX8_told_123 : decode cX8_told 123 = .ok (.ireturn, 1) := by decide +kernel
theorem dX8_told_124 : decode cX8_told 124 = .ok (.aload_n 0, 1) := by decide +kernel
theorem dX8_told_125 : decode cX8_told 125 = .ok (.getfield 29, 3) := by decide +kernel
theorem dX8_told_128 : decode cX8_told 128 = .ok (.getfield 111, 3) := by decide +kernel
theorem dX8_told_131 : decode cX8_told 131 = .ok (.ireturn, 1) := by decide +kernel
theorem dX8_told_132 : decode cX8_told 132 = .ok (.aload_n 0, 1) := by decide +kernel
theorem dX8_told_133 : decode cX8_told 133 = .ok (.getfield 29, 3) := by decide +kernel
theorem dX8_told_136 : decode cX8_told 136 = .ok (.getfield 114, 3) := by decide +kernel
theorem dX8_told_139 : decode cX8_told 139 = .ok (.ireturn, 1) := by decide +kernel
theorem dX8_told_140 : decode cX8_told 140 = .ok (.aload_n 0, 1) := by decide +kernel
theorem dX8_told_141 : decode cX8_told 141 = .ok (.getfield 19, 3) := by decide +kernel
theorem dX8_told_144 : decode cX8_told 144 = .ok (.aload_n 0, 1) := by decide +kernel
theorem dX8_told_145 : decode cX8_told 145 = .ok (.getfield 29, 3) := by decide +kernel
theorem dX8_told_148 : decode cX8_told 148 = .ok (.getfield 117, 3) := by decide +kernel
theorem dX8_told_151 : decode cX8_told 151 = .ok (.invokevirtual 120, 3) := by decide +kernel
theorem dX8_told_154 : decode cX8_told 154 = .ok (.ireturn, 1) := by decide +kernel
theorem dX8_told_155 : decode cX8_told 155 = .ok (.aload_n 0, 1) := by decide +kernel
theorem dX8_told_156 : decode cX8_told 156 = .ok (.getfield 29, 3) := by decide +kernel
theorem dX8_told_159 : decode cX8_told 159 = .ok (.getfield 117, 3) := by decide +kernel
theorem dX8_told_162 : decode cX8_told 162 = .ok (.ireturn, 1) := by decide +kernel
theorem dX8_told_163 : decode cX8_told 163 = .ok (.aload_n 0, 1) := by decide +kernel
theorem dX8_told_164 : decode cX8_told 164 = .ok (.getfield 29, 3) := by decide +kernel
theorem dX8_told_167 : decode cX8_told 167 = .ok (.getfield 124, 3) := by decide +kernel
theorem dX8_told_170 : decode cX8_told 170 = .ok (.ireturn, 1) := by decide +kernel
theorem dX8_told_171 : decode cX8_told 171 = .ok (.aload_n 0, 1) := by decide +kernel
theorem dX8_told_172 : decode cX8_told 172 = .ok (.getfield 29, 3) := by decide +kernel
theorem dX8_told_175 : decode cX8_told 175 = .ok (.getfield 127, 3) := by decide +kernel
theorem dX8_told_178 : decode cX8_told 178 = .ok (.ireturn, 1) := by decide +kernel
theorem dX8_told_179 : decode cX8_told 179 = .ok (.aload_n 0, 1) := by decide +kernel
theorem dX8_told_180 : decode cX8_told 180 = .ok (.getfield 19, 3) := by decide +kernel
theorem dX8_told_183 : decode cX8_told 183 = .ok (.aload_n 0, 1) := by decide +kernel
theorem dX8_told_184 : decode cX8_told 184 = .ok (.getfield 19, 3) := by decide +kernel
theorem dX8_told_187 : decode cX8_told 187 = .ok (.aload_n 0, 1) := by decide +kernel
theorem dX8_told_188 : decode cX8_told 188 = .ok (.getfield 29, 3) := by decide +kernel
theorem dX8_told_191 : decode cX8_told 191 = .ok (.getfield 117, 3) := by decide +kernel
theorem dX8_told_194 : decode cX8_told 194 = .ok (.invokevirtual 120, 3) := by decide +kernel
theorem dX8_told_197 : decode cX8_told 197 = .ok (.invokevirtual 130, 3) := by decide +kernel
theorem dX8_told_200 : decode cX8_told 200 = .ok (.sipush 1000, 3) := by decide +kernel
theorem dX8_told_203 : decode cX8_told 203 = .ok (.iadd, 1) := by decide +kernel
theorem dX8_told_204 : decode cX8_told 204 = .ok (.ireturn, 1) := by decide +kernel
theorem dX8_told_205 : decode cX8_told 205 = .ok (.aload_n 0, 1) := by decide +kernel
theorem dX8_told_206 : decode cX8_told 206 = .ok (.getfield 19, 3) := by decide +kernel
theorem dX8_told_209 : decode cX8_told 209 = .ok (.aload_n 0, 1) := by decide +kernel
theorem dX8_told_210 : decode cX8_told 210 = .ok (.getfield 29, 3) := by decide +kernel
theorem dX8_told_213 : decode cX8_told 213 = .ok (.getfield 117, 3) := by decide +kernel
theorem dX8_told_216 : decode cX8_told 216 = .ok (.invokevirtual 133, 3) := by decide +kernel
theorem dX8_told_219 : decode cX8_told 219 = .ok (.ireturn, 1) := by decide +kernel
theorem dX8_told_220 : decode cX8_told 220 = .ok (.aload_n 0, 1) := by decide +kernel
theorem dX8_told_221 : decode cX8_told 221 = .ok (.getfield 29, 3) := by decide +kernel
theorem dX8_told_224 : decode cX8_told 224 = .ok (.getfield 136, 3) := by decide +kernel
theorem dX8_told_227 : decode cX8_told 227 = .ok (.ireturn, 1) := by decide +kernel
theorem dX8_told_228 : decode cX8_told 228 = .ok (.aload_n 0, 1) := by decide +kernel
theorem dX8_told_229 : decode cX8_told 229 = .ok (.getfield 46, 3) := by decide +kernel
theorem dX8_told_232 : decode cX8_told 232 = .ok (.getfield 92, 3) := by decide +kernel
theorem dX8_told_235 : decode cX8_told 235 = .ok (.ireturn, 1) := by decide +kernel
theorem dX8_told_236 : decode cX8_told 236 = .ok (.aload_n 0, 1) := by decide +kernel
theorem dX8_told_237 : decode cX8_told 237 = .ok (.getfield 39, 3) := by decide +kernel
theorem dX8_told_240 : decode cX8_told 240 = .ok (.getfield 139, 3) := by decide +kernel
theorem dX8_told_243 : decode cX8_told 243 = .ok (.ireturn, 1) := by decide +kernel
theorem dX8_told_244 : decode cX8_told 244 = .ok (.aload_n 0, 1) := by decide +kernel
theorem dX8_told_245 : decode cX8_told 245 = .ok (.getfield 19, 3) := by decide +kernel
theorem dX8_told_248 : decode cX8_told 248 = .ok (.getfield 140, 3) := by decide +kernel
theorem dX8_told_251 : decode cX8_told 251 = .ok (.ireturn, 1) := by decide +kernel
theorem dX8_told_252 : decode cX8_told 252 = .ok (.ldc 71, 2) := by decide +kernel
theorem dX8_told_254 : decode cX8_told 254 = .ok (.ireturn, 1) := by decide +kernel
set_option maxRecDepth 20000 in
theorem ggX8_saying_X7_hasSaying : GoodIn wsX8_saying wsX7_hasSaying := goodIn_r _ [15, 16, 52, 53, 54, 55, 56, 57, 58, 59, 60, 61, 62, 63] (by decide +kernel) (by decide +kernel)
set_option maxRecDepth 20000 in
theorem gX8_saying_X7_hasSaying : GoodIn wsX8_saying (wsV RX8 143 RX7 yX7_hasSaying wsX7_hasSaying) := goodIn_app (goodIn_of _ (by decide +kernel)) ggX8_saying_X7_hasSaying
set_option maxRecDepth 20000 in
theorem ggX8_saying_X7_depthOf : GoodIn wsX8_saying wsX7_depthOf := goodIn_r _ [20, 16, 21, 22, 23, 24, 25, 26, 27, 28, 14, 29, 52, 53, 54, 55, 56, 57, 58, 59, 60, 61, 62, 63] (by decide +kernel) (by decide +kernel)
set_option maxRecDepth 20000 in
theorem gX8_saying_X7_depthOf : GoodIn wsX8_saying (wsV RX8 160 RX7 yX7_depthOf wsX7_depthOf) := goodIn_app (goodIn_of _ (by decide +kernel)) ggX8_saying_X7_depthOf
set_option maxRecDepth 20000 in
theorem ggX8_saying_X7_rootsOf : GoodIn wsX8_saying wsX7_rootsOf := goodIn_r _ [33, 16, 21, 27, 28, 14, 29, 52, 53, 54, 55, 56, 57, 58, 59, 60, 61, 62, 63] (by decide +kernel) (by decide +kernel)
set_option maxRecDepth 20000 in
theorem gX8_saying_X7_rootsOf : GoodIn wsX8_saying (wsV RX8 163 RX7 yX7_rootsOf wsX7_rootsOf) := goodIn_app (goodIn_of _ (by decide +kernel)) ggX8_saying_X7_rootsOf
set_option maxRecDepth 20000 in
theorem ggX8_saying_X7_fallsOf : GoodIn wsX8_saying wsX7_fallsOf := goodIn_r _ [37, 38, 39, 40, 14, 41, 16, 21, 27, 28, 29, 52, 53, 54, 55, 56, 57, 58, 59, 60, 61, 62, 63] (by decide +kernel) (by decide +kernel)
set_option maxRecDepth 20000 in
theorem gX8_saying_X7_fallsOf : GoodIn wsX8_saying (wsV RX8 166 RX7 yX7_fallsOf wsX7_fallsOf) := goodIn_app (goodIn_of _ (by decide +kernel)) ggX8_saying_X7_fallsOf
theorem dX8_saying_0 : decode cX8_saying 0 = .ok (.aload_n 0, 1) := by decide +kernel
theorem dX8_saying_1 : decode cX8_saying 1 = .ok (.getfield 19, 3) := by decide +kernel
theorem dX8_saying_4 : decode cX8_saying 4 = .ok (.iload_n 1, 1) := by decide +kernel
theorem dX8_saying_5 : decode cX8_saying 5 = .ok (.invokevirtual 143, 3) := by decide +kernel
theorem dX8_saying_8 : decode cX8_saying 8 = .ok (.ifCond .ne 6, 3) := by decide +kernel
theorem dX8_saying_11 : decode cX8_saying 11 = .ok (.ldc 146, 2) := by decide +kernel
theorem dX8_saying_13 : decode cX8_saying 13 = .ok (.ireturn, 1) := by decide +kernel
theorem dX8_saying_14 : decode cX8_saying 14 = .ok (.iload_n 2, 1) := by decide +kernel
theorem dX8_saying_15 : decode cX8_saying 15 = .ok (.tableswitch 133 0 7 #[45, 55, 65, 79, 89, 98, 107, 123], 45) := by decide +kernel
theorem dX8_saying_60 : decode cX8_saying 60 = .ok (.aload_n 0, 1) := by decide +kernel
theorem dX8_saying_61 : decode cX8_saying 61 = .ok (.getfield 19, 3) := by decide +kernel
theorem dX8_saying_64 : decode cX8_saying 64 = .ok (.getfield 147, 3) := by decide +kernel
theorem dX8_saying_67 : decode cX8_saying 67 = .ok (.iload_n 1, 1) := by decide +kernel
theorem dX8_saying_68 : decode cX8_saying 68 = .ok (.iaload, 1) := by decide +kernel
theorem dX8_saying_69 : decode cX8_saying 69 = .ok (.ireturn, 1) := by decide +kernel
theorem dX8_saying_70 : decode cX8_saying 70 = .ok (.aload_n 0, 1) := by decide +kernel
theorem dX8_saying_71 : decode cX8_saying 71 = .ok (.getfield 19, 3) := by decide +kernel
theorem dX8_saying_74 : decode cX8_saying 74 = .ok (.getfield 151, 3) := by decide +kernel
theorem dX8_saying_77 : decode cX8_saying 77 = .ok (.iload_n 1, 1) := by decide +kernel
theorem dX8_saying_78 : decode cX8_saying 78 = .ok (.iaload, 1) := by decide +kernel
theorem dX8_saying_79 : decode cX8_saying 79 = .ok (.ireturn, 1) := by decide +kernel
theorem dX8_saying_80 : decode cX8_saying 80 = .ok (.aload_n 0, 1) := by decide +kernel
theorem dX8_saying_81 : decode cX8_saying 81 = .ok (.getfield 19, 3) := by decide +kernel
theorem dX8_saying_84 : decode cX8_saying 84 = .ok (.getfield 154, 3) := by decide +kernel
theorem dX8_saying_87 : decode cX8_saying 87 = .ok (.iload_n 1, 1) := by decide +kernel
theorem dX8_saying_88 : decode cX8_saying 88 = .ok (.iaload, 1) := by decide +kernel
theorem dX8_saying_89 : decode cX8_saying 89 = .ok (.sipush 1000, 3) := by decide +kernel
theorem dX8_saying_92 : decode cX8_saying 92 = .ok (.iadd, 1) := by decide +kernel
theorem dX8_saying_93 : decode cX8_saying 93 = .ok (.ireturn, 1) := by decide +kernel
theorem dX8_saying_94 : decode cX8_saying 94 = .ok (.aload_n 0, 1) := by decide +kernel
theorem dX8_saying_95 : decode cX8_saying 95 = .ok (.getfield 29, 3) := by decide +kernel
theorem dX8_saying_98 : decode cX8_saying 98 = .ok (.getfield 157, 3) := by decide +kernel
theorem dX8_saying_101 : decode cX8_saying 101 = .ok (.iload_n 1, 1) := by decide +kernel
theorem dX8_saying_102 : decode cX8_saying 102 = .ok (.iaload, 1) := by decide +kernel
theorem dX8_saying_103 : decode cX8_saying 103 = .ok (.ireturn, 1) := by decide +kernel
theorem dX8_saying_104 : decode cX8_saying 104 = .ok (.aload_n 0, 1) := by decide +kernel
theorem dX8_saying_105 : decode cX8_saying 105 = .ok (.getfield 19, 3) := by decide +kernel
theorem dX8_saying_108 : decode cX8_saying 108 = .ok (.iload_n 1, 1) := by decide +kernel
theorem dX8_saying_109 : decode cX8_saying 109 = .ok (.invokevirtual 160, 3) := by decide +kernel
theorem dX8_saying_112 : decode cX8_saying 112 = .ok (.ireturn, 1) := by decide +kernel
theorem dX8_saying_113 : decode cX8_saying 113 = .ok (.aload_n 0, 1) := by decide +kernel
theorem dX8_saying_114 : decode cX8_saying 114 = .ok (.getfield 19, 3) := by decide +kernel
theorem dX8_saying_117 : decode cX8_saying 117 = .ok (.iload_n 1, 1) := by decide +kernel
theorem dX8_saying_118 : decode cX8_saying 118 = .ok (.invokevirtual 163, 3) := by decide +kernel
theorem dX8_saying_121 : decode cX8_saying 121 = .ok (.ireturn, 1) := by decide +kernel
theorem dX8_saying_122 : decode cX8_saying 122 = .ok (.aload_n 0, 1) := by decide +kernel
theorem dX8_saying_123 : decode cX8_saying 123 = .ok (.getfield 19, 3) := by decide +kernel
theorem dX8_saying_126 : decode cX8_saying 126 = .ok (.iload_n 1, 1) := by decide +kernel
theorem dX8_saying_127 : decode cX8_saying 127 = .ok (.aload_n 0, 1) := by decide +kernel
theorem dX8_saying_128 : decode cX8_saying 128 = .ok (.getfield 29, 3) := by decide +kernel
theorem dX8_saying_131 : decode cX8_saying 131 = .ok (.getfield 117, 3) := by decide +kernel
theorem dX8_saying_134 : decode cX8_saying 134 = .ok (.invokevirtual 166, 3) := by decide +kernel
theorem dX8_saying_137 : decode cX8_saying 137 = .ok (.ireturn, 1) := by decide +kernel
theorem dX8_saying_138 : decode cX8_saying 138 = .ok (.aload_n 0, 1) := by decide +kernel
theorem dX8_saying_139 : decode cX8_saying 139 = .ok (.getfield 19, 3) := by decide +kernel
theorem dX8_saying_142 : decode cX8_saying 142 = .ok (.getfield 170, 3) := by decide +kernel
theorem dX8_saying_145 : decode cX8_saying 145 = .ok (.iload_n 1, 1) := by decide +kernel
theorem dX8_saying_146 : decode cX8_saying 146 = .ok (.iaload, 1) := by decide +kernel
theorem dX8_saying_147 : decode cX8_saying 147 = .ok (.ireturn, 1) := by decide +kernel
theorem dX8_saying_148 : decode cX8_saying 148 = .ok (.ldc 71, 2) := by decide +kernel
theorem dX8_saying_150 : decode cX8_saying 150 = .ok (.ireturn, 1) := by decide +kernel
set_option maxRecDepth 20000 in
theorem ggX8_person_X7_hasPerson : GoodIn wsX8_person wsX7_hasPerson := goodIn_r _ [11, 12, 43, 44, 45, 46, 47, 48, 49, 50, 51, 52, 53, 54] (by decide +kernel) (by decide +kernel)
set_option maxRecDepth 20000 in
theorem gX8_person_X7_hasPerson : GoodIn wsX8_person (wsV RX8 173 RX7 yX7_hasPerson wsX7_hasPerson) := goodIn_app (goodIn_of _ (by decide +kernel)) ggX8_person_X7_hasPerson
set_option maxRecDepth 20000 in
theorem ggX8_person_X7_sayingsOf : GoodIn wsX8_person wsX7_sayingsOf := goodIn_r _ [16, 17, 18, 43, 44, 45, 46, 47, 48, 49, 50, 51, 52, 53, 54] (by decide +kernel) (by decide +kernel)
set_option maxRecDepth 20000 in
theorem gX8_person_X7_sayingsOf : GoodIn wsX8_person (wsV RX8 179 RX7 yX7_sayingsOf wsX7_sayingsOf) := goodIn_app (goodIn_of _ (by decide +kernel)) ggX8_person_X7_sayingsOf
set_option maxRecDepth 20000 in
theorem ggX8_person_X7_leansOf : GoodIn wsX8_person wsX7_leansOf := goodIn_r _ [22, 17, 18, 23, 24, 25, 10, 26, 43, 44, 45, 46, 47, 48, 49, 50, 51, 52, 53, 54] (by decide +kernel) (by decide +kernel)
set_option maxRecDepth 20000 in
theorem gX8_person_X7_leansOf : GoodIn wsX8_person (wsV RX8 182 RX7 yX7_leansOf wsX7_leansOf) := goodIn_app (goodIn_of _ (by decide +kernel)) ggX8_person_X7_leansOf
set_option maxRecDepth 20000 in
theorem ggX8_person_X7_shareOf : GoodIn wsX8_person wsX7_shareOf := goodIn_r _ [30, 12, 31, 32, 8, 9, 10, 11, 43, 44, 45, 46, 47, 48, 49, 50, 51, 52, 53, 54] (by decide +kernel) (by decide +kernel)
set_option maxRecDepth 20000 in
theorem gX8_person_X7_shareOf : GoodIn wsX8_person (wsV RX8 185 RX7 yX7_shareOf wsX7_shareOf) := goodIn_app (goodIn_of _ (by decide +kernel)) ggX8_person_X7_shareOf
theorem dX8_person_0 : decode cX8_person 0 = .ok (.aload_n 0, 1) := by decide +kernel
theorem dX8_person_1 : decode cX8_person 1 = .ok (.getfield 19, 3) := by decide +kernel
theorem dX8_person_4 : decode cX8_person 4 = .ok (.iload_n 1, 1) := by decide +kernel
theorem dX8_person_5 : decode cX8_person 5 = .ok (.invokevirtual 173, 3) := by decide +kernel
theorem dX8_person_8 : decode cX8_person 8 = .ok (.ifCond .ne 6, 3) := by decide +kernel
theorem dX8_person_11 : decode cX8_person 11 = .ok (.ldc 146, 2) := by decide +kernel
theorem dX8_person_13 : decode cX8_person 13 = .ok (.ireturn, 1) := by decide +kernel
theorem dX8_person_14 : decode cX8_person 14 = .ok (.iload_n 2, 1) := by decide +kernel
theorem dX8_person_15 : decode cX8_person 15 = .ok (.tableswitch 73 0 3 #[29, 39, 48, 57], 29) := by decide +kernel
theorem dX8_person_44 : decode cX8_person 44 = .ok (.aload_n 0, 1) := by decide +kernel
theorem dX8_person_45 : decode cX8_person 45 = .ok (.getfield 19, 3) := by decide +kernel
theorem dX8_person_48 : decode cX8_person 48 = .ok (.getfield 176, 3) := by decide +kernel
theorem dX8_person_51 : decode cX8_person 51 = .ok (.iload_n 1, 1) := by decide +kernel
theorem dX8_person_52 : decode cX8_person 52 = .ok (.iaload, 1) := by decide +kernel
theorem dX8_person_53 : decode cX8_person 53 = .ok (.ireturn, 1) := by decide +kernel
theorem dX8_person_54 : decode cX8_person 54 = .ok (.aload_n 0, 1) := by decide +kernel
theorem dX8_person_55 : decode cX8_person 55 = .ok (.getfield 19, 3) := by decide +kernel
theorem dX8_person_58 : decode cX8_person 58 = .ok (.iload_n 1, 1) := by decide +kernel
theorem dX8_person_59 : decode cX8_person 59 = .ok (.invokevirtual 179, 3) := by decide +kernel
theorem dX8_person_62 : decode cX8_person 62 = .ok (.ireturn, 1) := by decide +kernel
theorem dX8_person_63 : decode cX8_person 63 = .ok (.aload_n 0, 1) := by decide +kernel
theorem dX8_person_64 : decode cX8_person 64 = .ok (.getfield 19, 3) := by decide +kernel
theorem dX8_person_67 : decode cX8_person 67 = .ok (.iload_n 1, 1) := by decide +kernel
theorem dX8_person_68 : decode cX8_person 68 = .ok (.invokevirtual 182, 3) := by decide +kernel
theorem dX8_person_71 : decode cX8_person 71 = .ok (.ireturn, 1) := by decide +kernel
theorem dX8_person_72 : decode cX8_person 72 = .ok (.aload_n 0, 1) := by decide +kernel
theorem dX8_person_73 : decode cX8_person 73 = .ok (.getfield 19, 3) := by decide +kernel
theorem dX8_person_76 : decode cX8_person 76 = .ok (.iload_n 1, 1) := by decide +kernel
theorem dX8_person_77 : decode cX8_person 77 = .ok (.aload_n 0, 1) := by decide +kernel
theorem dX8_person_78 : decode cX8_person 78 = .ok (.getfield 29, 3) := by decide +kernel
theorem dX8_person_81 : decode cX8_person 81 = .ok (.getfield 111, 3) := by decide +kernel
theorem dX8_person_84 : decode cX8_person 84 = .ok (.invokevirtual 185, 3) := by decide +kernel
theorem dX8_person_87 : decode cX8_person 87 = .ok (.ireturn, 1) := by decide +kernel
theorem dX8_person_88 : decode cX8_person 88 = .ok (.ldc 71, 2) := by decide +kernel
theorem dX8_person_90 : decode cX8_person 90 = .ok (.ireturn, 1) := by decide +kernel
theorem dX8_queued_0 : decode cX8_queued 0 = .ok (.iload_n 2, 1) := by decide +kernel
theorem dX8_queued_1 : decode cX8_queued 1 = .ok (.ifCond .lt 8, 3) := by decide +kernel
theorem dX8_queued_4 : decode cX8_queued 4 = .ok (.iload_n 2, 1) := by decide +kernel
theorem dX8_queued_5 : decode cX8_queued 5 = .ok (.iconst 1, 1) := by decide +kernel
theorem dX8_queued_6 : decode cX8_queued 6 = .ok (.if_icmp .le 6, 3) := by decide +kernel
theorem dX8_queued_9 : decode cX8_queued 9 = .ok (.ldc 71, 2) := by decide +kernel
theorem dX8_queued_11 : decode cX8_queued 11 = .ok (.ireturn, 1) := by decide +kernel
theorem dX8_queued_12 : decode cX8_queued 12 = .ok (.iload_n 1, 1) := by decide +kernel
theorem dX8_queued_13 : decode cX8_queued 13 = .ok (.ifCond .lt 14, 3) := by decide +kernel
theorem dX8_queued_16 : decode cX8_queued 16 = .ok (.iload_n 1, 1) := by decide +kernel
theorem dX8_queued_17 : decode cX8_queued 17 = .ok (.aload_n 0, 1) := by decide +kernel
theorem dX8_queued_18 : decode cX8_queued 18 = .ok (.getfield 29, 3) := by decide +kernel
theorem dX8_queued_21 : decode cX8_queued 21 = .ok (.getfield 136, 3) := by decide +kernel
theorem dX8_queued_24 : decode cX8_queued 24 = .ok (.if_icmp .lt 5, 3) := by decide +kernel
theorem dX8_queued_27 : decode cX8_queued 27 = .ok (.iconst (-1), 1) := by decide +kernel
theorem dX8_queued_28 : decode cX8_queued 28 = .ok (.ireturn, 1) := by decide +kernel
theorem dX8_queued_29 : decode cX8_queued 29 = .ok (.iload_n 2, 1) := by decide +kernel
theorem dX8_queued_30 : decode cX8_queued 30 = .ok (.ifCond .ne 15, 3) := by decide +kernel
theorem dX8_queued_33 : decode cX8_queued 33 = .ok (.aload_n 0, 1) := by decide +kernel
theorem dX8_queued_34 : decode cX8_queued 34 = .ok (.getfield 29, 3) := by decide +kernel
theorem dX8_queued_37 : decode cX8_queued 37 = .ok (.getfield 188, 3) := by decide +kernel
theorem dX8_queued_40 : decode cX8_queued 40 = .ok (.iload_n 1, 1) := by decide +kernel
theorem dX8_queued_41 : decode cX8_queued 41 = .ok (.iaload, 1) := by decide +kernel
theorem dX8_queued_42 : decode cX8_queued 42 = .ok (.goto 12, 3) := by decide +kernel
theorem dX8_queued_45 : decode cX8_queued 45 = .ok (.aload_n 0, 1) := by decide +kernel
theorem dX8_queued_46 : decode cX8_queued 46 = .ok (.getfield 29, 3) := by decide +kernel
theorem dX8_queued_49 : decode cX8_queued 49 = .ok (.getfield 191, 3) := by decide +kernel
theorem dX8_queued_52 : decode cX8_queued 52 = .ok (.iload_n 1, 1) := by decide +kernel
theorem dX8_queued_53 : decode cX8_queued 53 = .ok (.iaload, 1) := by decide +kernel
theorem dX8_queued_54 : decode cX8_queued 54 = .ok (.ireturn, 1) := by decide +kernel
set_option maxRecDepth 20000 in
theorem ggX8_pour_X7_hasPerson : GoodIn wsX8_pour wsX7_hasPerson := goodIn_r _ [10, 11, 76, 77, 78, 79, 80, 81, 82, 83, 84, 85, 86, 87] (by decide +kernel) (by decide +kernel)
set_option maxRecDepth 20000 in
theorem gX8_pour_X7_hasPerson : GoodIn wsX8_pour (wsV RX8 173 RX7 yX7_hasPerson wsX7_hasPerson) := goodIn_app (goodIn_of _ (by decide +kernel)) ggX8_pour_X7_hasPerson
set_option maxRecDepth 20000 in
theorem ggX8_pour_X7_hasSaying : GoodIn wsX8_pour wsX7_hasSaying := goodIn_r _ [15, 16, 76, 77, 78, 79, 80, 81, 82, 83, 84, 85, 86, 87] (by decide +kernel) (by decide +kernel)
set_option maxRecDepth 20000 in
theorem gX8_pour_X7_hasSaying : GoodIn wsX8_pour (wsV RX8 143 RX7 yX7_hasSaying wsX7_hasSaying) := goodIn_app (goodIn_of _ (by decide +kernel)) ggX8_pour_X7_hasSaying
set_option maxRecDepth 20000 in
theorem ggX8_pour_X6_drawable : GoodIn wsX8_pour wsX6_drawable := goodIn_r _ [21, 22, 23, 24, 25, 26, 27, 28, 29, 30, 31, 32, 33, 7, 8, 9, 10, 11, 34, 13, 14, 15, 16, 35, 36, 37, 88, 89, 90, 91, 92, 93, 94, 95, 96, 97, 76, 77, 78, 79, 80, 81, 82, 83, 84, 85, 86, 87] (by decide +kernel) (by decide +kernel)
set_option maxRecDepth 20000 in
theorem gX8_pour_X6_drawable : GoodIn wsX8_pour (wsV RX8 194 RX6 yX6_drawable wsX6_drawable) := goodIn_app (goodIn_of _ (by decide +kernel)) ggX8_pour_X6_drawable
set_option maxRecDepth 20000 in
theorem ggX8_pour_X3_remember : GoodIn wsX8_pour wsX3_remember := goodIn_r _ [42, 43, 44, 45, 46, 29, 30, 31, 47, 48, 49, 20, 50, 27, 51, 52, 53, 22, 23, 54, 25, 55, 56, 57, 58, 59, 60, 98, 99, 100, 88, 89, 90, 91, 92, 93, 94, 95, 96, 97] (by decide +kernel) (by decide +kernel)
set_option maxRecDepth 20000 in
theorem gX8_pour_X3_remember : GoodIn wsX8_pour (wsV RX8 199 RX3 yX3_remember wsX3_remember) := goodIn_app (goodIn_of _ (by decide +kernel)) ggX8_pour_X3_remember
set_option maxRecDepth 20000 in
theorem ggX8_pour_X6_pourOn : GoodIn wsX8_pour wsX6_pourOn := goodIn_r _ [64, 27, 52, 25, 32, 24, 22, 65, 18, 19, 20, 21, 23, 26, 28, 29, 30, 31, 33, 7, 8, 9, 10, 11, 34, 13, 14, 15, 16, 35, 36, 37, 88, 89, 90, 91, 92, 93, 94, 95, 96, 97, 76, 77, 78, 79, 80, 81, 82, 83, 84, 85, 86, 87] (by decide +kernel) (by decide +kernel)
set_option maxRecDepth 20000 in
theorem gX8_pour_X6_pourOn : GoodIn wsX8_pour (wsV RX8 203 RX6 yX6_pourOn wsX6_pourOn) := goodIn_app (goodIn_of _ (by decide +kernel)) ggX8_pour_X6_pourOn
theorem dX8_pour_0 : decode cX8_pour 0 = .ok (.aload_n 0, 1) := by decide +kernel
theorem dX8_pour_1 : decode cX8_pour 1 = .ok (.getfield 19, 3) := by decide +kernel
theorem dX8_pour_4 : decode cX8_pour 4 = .ok (.iload_n 1, 1) := by decide +kernel
theorem dX8_pour_5 : decode cX8_pour 5 = .ok (.invokevirtual 173, 3) := by decide +kernel
theorem dX8_pour_8 : decode cX8_pour 8 = .ok (.ifCond .eq 14, 3) := by decide +kernel
theorem dX8_pour_11 : decode cX8_pour 11 = .ok (.aload_n 0, 1) := by decide +kernel
theorem dX8_pour_12 : decode cX8_pour 12 = .ok (.getfield 19, 3) := by decide +kernel
theorem dX8_pour_15 : decode cX8_pour 15 = .ok (.iload_n 2, 1) := by decide +kernel
theorem dX8_pour_16 : decode cX8_pour 16 = .ok (.invokevirtual 143, 3) := by decide +kernel
theorem dX8_pour_19 : decode cX8_pour 19 = .ok (.ifCond .ne 6, 3) := by decide +kernel
theorem dX8_pour_22 : decode cX8_pour 22 = .ok (.ldc 146, 2) := by decide +kernel
theorem dX8_pour_24 : decode cX8_pour 24 = .ok (.ireturn, 1) := by decide +kernel
theorem dX8_pour_25 : decode cX8_pour 25 = .ok (.aload_n 0, 1) := by decide +kernel
theorem dX8_pour_26 : decode cX8_pour 26 = .ok (.getfield 29, 3) := by decide +kernel
theorem dX8_pour_29 : decode cX8_pour 29 = .ok (.aload_n 0, 1) := by decide +kernel
theorem dX8_pour_30 : decode cX8_pour 30 = .ok (.getfield 19, 3) := by decide +kernel
theorem dX8_pour_33 : decode cX8_pour 33 = .ok (.iload_n 1, 1) := by decide +kernel
theorem dX8_pour_34 : decode cX8_pour 34 = .ok (.iload_n 2, 1) := by decide +kernel
theorem dX8_pour_35 : decode cX8_pour 35 = .ok (.invokevirtual 194, 3) := by decide +kernel
theorem dX8_pour_38 : decode cX8_pour 38 = .ok (.ifCond .ne 6, 3) := by decide +kernel
theorem dX8_pour_41 : decode cX8_pour 41 = .ok (.ldc 198, 2) := by decide +kernel
theorem dX8_pour_43 : decode cX8_pour 43 = .ok (.ireturn, 1) := by decide +kernel
theorem dX8_pour_44 : decode cX8_pour 44 = .ok (.aload_n 0, 1) := by decide +kernel
theorem dX8_pour_45 : decode cX8_pour 45 = .ok (.getfield 39, 3) := by decide +kernel
theorem dX8_pour_48 : decode cX8_pour 48 = .ok (.aload_n 0, 1) := by decide +kernel
theorem dX8_pour_49 : decode cX8_pour 49 = .ok (.getfield 29, 3) := by decide +kernel
theorem dX8_pour_52 : decode cX8_pour 52 = .ok (.invokevirtual 199, 3) := by decide +kernel
theorem dX8_pour_55 : decode cX8_pour 55 = .ok (.aload_n 0, 1) := by decide +kernel
theorem dX8_pour_56 : decode cX8_pour 56 = .ok (.getfield 29, 3) := by decide +kernel
theorem dX8_pour_59 : decode cX8_pour 59 = .ok (.aload_n 0, 1) := by decide +kernel
theorem dX8_pour_60 : decode cX8_pour 60 = .ok (.getfield 19, 3) := by decide +kernel
theorem dX8_pour_63 : decode cX8_pour 63 = .ok (.iload_n 1, 1) := by decide +kernel
theorem dX8_pour_64 : decode cX8_pour 64 = .ok (.iload_n 2, 1) := by decide +kernel
theorem dX8_pour_65 : decode cX8_pour 65 = .ok (.invokevirtual 203, 3) := by decide +kernel
theorem dX8_pour_68 : decode cX8_pour 68 = .ok (.ireturn, 1) := by decide +kernel
set_option maxRecDepth 20000 in
theorem ggX8_say_X7_hasSaying : GoodIn wsX8_say wsX7_hasSaying := goodIn_r _ [9, 10, 56, 57, 58, 59, 60, 61, 62, 63, 64, 65, 66, 67] (by decide +kernel) (by decide +kernel)
set_option maxRecDepth 20000 in
theorem gX8_say_X7_hasSaying : GoodIn wsX8_say (wsV RX8 143 RX7 yX7_hasSaying wsX7_hasSaying) := goodIn_app (goodIn_of _ (by decide +kernel)) ggX8_say_X7_hasSaying
set_option maxRecDepth 20000 in
theorem ggX8_say_X3_remember : GoodIn wsX8_say wsX3_remember := goodIn_r _ [15, 16, 17, 18, 19, 20, 21, 22, 23, 24, 25, 26, 27, 28, 29, 30, 31, 32, 33, 34, 35, 36, 37, 38, 39, 40, 41, 68, 69, 70, 71, 72, 73, 74, 75, 76, 77, 78, 79, 80] (by decide +kernel) (by decide +kernel)
set_option maxRecDepth 20000 in
theorem gX8_say_X3_remember : GoodIn wsX8_say (wsV RX8 199 RX3 yX3_remember wsX3_remember) := goodIn_app (goodIn_of _ (by decide +kernel)) ggX8_say_X3_remember
set_option maxRecDepth 20000 in
theorem ggX8_say_X6_sayAgain : GoodIn wsX8_say wsX6_sayAgain := goodIn_r _ [45, 35, 32, 71, 72, 73, 74, 75, 76, 77, 78, 79, 80] (by decide +kernel) (by decide +kernel)
set_option maxRecDepth 20000 in
theorem gX8_say_X6_sayAgain : GoodIn wsX8_say (wsV RX8 206 RX6 yX6_sayAgain wsX6_sayAgain) := goodIn_app (goodIn_of _ (by decide +kernel)) ggX8_say_X6_sayAgain
theorem dX8_say_0 : decode cX8_say 0 = .ok (.aload_n 0, 1) := by decide +kernel
theorem dX8_say_1 : decode cX8_say 1 = .ok (.getfield 19, 3) := by decide +kernel
theorem dX8_say_4 : decode cX8_say 4 = .ok (.iload_n 1, 1) := by decide +kernel
theorem dX8_say_5 : decode cX8_say 5 = .ok (.invokevirtual 143, 3) := by decide +kernel
theorem dX8_say_8 : decode cX8_say 8 = .ok (.ifCond .ne 6, 3) := by decide +kernel
theorem dX8_say_11 : decode cX8_say 11 = .ok (.ldc 146, 2) := by decide +kernel
theorem dX8_say_13 : decode cX8_say 13 = .ok (.ireturn, 1) := by decide +kernel
theorem dX8_say_14 : decode cX8_say 14 = .ok (.aload_n 0, 1) := by decide +kernel
theorem dX8_say_15 : decode cX8_say 15 = .ok (.getfield 39, 3) := by decide +kernel
theorem dX8_say_18 : decode cX8_say 18 = .ok (.aload_n 0, 1) := by decide +kernel
theorem dX8_say_19 : decode cX8_say 19 = .ok (.getfield 29, 3) := by decide +kernel
theorem dX8_say_22 : decode cX8_say 22 = .ok (.invokevirtual 199, 3) := by decide +kernel
theorem dX8_say_25 : decode cX8_say 25 = .ok (.aload_n 0, 1) := by decide +kernel
theorem dX8_say_26 : decode cX8_say 26 = .ok (.getfield 29, 3) := by decide +kernel
theorem dX8_say_29 : decode cX8_say 29 = .ok (.iload_n 1, 1) := by decide +kernel
theorem dX8_say_30 : decode cX8_say 30 = .ok (.invokevirtual 206, 3) := by decide +kernel
theorem dX8_say_33 : decode cX8_say 33 = .ok (.ireturn, 1) := by decide +kernel
set_option maxRecDepth 20000 in
theorem ggX8_vow_X7_hasSaying : GoodIn wsX8_vow wsX7_hasSaying := goodIn_r _ [10, 11, 63, 64, 65, 66, 67, 68, 69, 70, 71, 72, 73, 74] (by decide +kernel) (by decide +kernel)
set_option maxRecDepth 20000 in
theorem gX8_vow_X7_hasSaying : GoodIn wsX8_vow (wsV RX8 143 RX7 yX7_hasSaying wsX7_hasSaying) := goodIn_app (goodIn_of _ (by decide +kernel)) ggX8_vow_X7_hasSaying
set_option maxRecDepth 20000 in
theorem ggX8_vow_X3_remember : GoodIn wsX8_vow wsX3_remember := goodIn_r _ [16, 17, 18, 19, 20, 21, 22, 23, 24, 25, 26, 27, 28, 29, 30, 31, 32, 33, 34, 35, 36, 37, 38, 39, 40, 41, 42, 75, 76, 77, 53, 54, 55, 56, 57, 58, 59, 60, 61, 62] (by decide +kernel) (by decide +kernel)
set_option maxRecDepth 20000 in
theorem gX8_vow_X3_remember : GoodIn wsX8_vow (wsV RX8 199 RX3 yX3_remember wsX3_remember) := goodIn_app (goodIn_of _ (by decide +kernel)) ggX8_vow_X3_remember
theorem dX8_vow_0 : decode cX8_vow 0 = .ok (.aload_n 0, 1) := by decide +kernel
theorem dX8_vow_1 : decode cX8_vow 1 = .ok (.getfield 19, 3) := by decide +kernel
theorem dX8_vow_4 : decode cX8_vow 4 = .ok (.iload_n 1, 1) := by decide +kernel
theorem dX8_vow_5 : decode cX8_vow 5 = .ok (.invokevirtual 143, 3) := by decide +kernel
theorem dX8_vow_8 : decode cX8_vow 8 = .ok (.ifCond .ne 6, 3) := by decide +kernel
theorem dX8_vow_11 : decode cX8_vow 11 = .ok (.ldc 146, 2) := by decide +kernel
theorem dX8_vow_13 : decode cX8_vow 13 = .ok (.ireturn, 1) := by decide +kernel
theorem dX8_vow_14 : decode cX8_vow 14 = .ok (.aload_n 0, 1) := by decide +kernel
theorem dX8_vow_15 : decode cX8_vow 15 = .ok (.getfield 39, 3) := by decide +kernel
theorem dX8_vow_18 : decode cX8_vow 18 = .ok (.aload_n 0, 1) := by decide +kernel
theorem dX8_vow_19 : decode cX8_vow 19 = .ok (.getfield 29, 3) := by decide +kernel
theorem dX8_vow_22 : decode cX8_vow 22 = .ok (.invokevirtual 199, 3) := by decide +kernel
theorem dX8_vow_25 : decode cX8_vow 25 = .ok (.aload_n 0, 1) := by decide +kernel
theorem dX8_vow_26 : decode cX8_vow 26 = .ok (.getfield 29, 3) := by decide +kernel
theorem dX8_vow_29 : decode cX8_vow 29 = .ok (.getfield 124, 3) := by decide +kernel
theorem dX8_vow_32 : decode cX8_vow 32 = .ok (.iload_n 1, 1) := by decide +kernel
theorem dX8_vow_33 : decode cX8_vow 33 = .ok (.ishr, 1) := by decide +kernel
theorem dX8_vow_34 : decode cX8_vow 34 = .ok (.iconst 1, 1) := by decide +kernel
theorem dX8_vow_35 : decode cX8_vow 35 = .ok (.iand, 1) := by decide +kernel
theorem dX8_vow_36 : decode cX8_vow 36 = .ok (.istore_n 3, 1) := by decide +kernel
theorem dX8_vow_37 : decode cX8_vow 37 = .ok (.aload_n 0, 1) := by decide +kernel
theorem dX8_vow_38 : decode cX8_vow 38 = .ok (.getfield 29, 3) := by decide +kernel
theorem dX8_vow_41 : decode cX8_vow 41 = .ok (.iload_n 2, 1) := by decide +kernel
theorem dX8_vow_42 : decode cX8_vow 42 = .ok (.ifCond .eq 17, 3) := by decide +kernel
theorem dX8_vow_45 : decode cX8_vow 45 = .ok (.aload_n 0, 1) := by decide +kernel
theorem dX8_vow_46 : decode cX8_vow 46 = .ok (.getfield 29, 3) := by decide +kernel
theorem dX8_vow_49 : decode cX8_vow 49 = .ok (.getfield 124, 3) := by decide +kernel
theorem dX8_vow_52 : decode cX8_vow 52 = .ok (.iconst 1, 1) := by decide +kernel
theorem dX8_vow_53 : decode cX8_vow 53 = .ok (.iload_n 1, 1) := by decide +kernel
theorem dX8_vow_54 : decode cX8_vow 54 = .ok (.ishl, 1) := by decide +kernel
theorem dX8_vow_55 : decode cX8_vow 55 = .ok (.ior, 1) := by decide +kernel
theorem dX8_vow_56 : decode cX8_vow 56 = .ok (.goto 16, 3) := by decide +kernel
theorem dX8_vow_59 : decode cX8_vow 59 = .ok (.aload_n 0, 1) := by decide +kernel
theorem dX8_vow_60 : decode cX8_vow 60 = .ok (.getfield 29, 3) := by decide +kernel
theorem dX8_vow_63 : decode cX8_vow 63 = .ok (.getfield 124, 3) := by decide +kernel
theorem dX8_vow_66 : decode cX8_vow 66 = .ok (.iconst 1, 1) := by decide +kernel
theorem dX8_vow_67 : decode cX8_vow 67 = .ok (.iload_n 1, 1) := by decide +kernel
theorem dX8_vow_68 : decode cX8_vow 68 = .ok (.ishl, 1) := by decide +kernel
theorem dX8_vow_69 : decode cX8_vow 69 = .ok (.iconst (-1), 1) := by decide +kernel
theorem dX8_vow_70 : decode cX8_vow 70 = .ok (.ixor, 1) := by decide +kernel
theorem dX8_vow_71 : decode cX8_vow 71 = .ok (.iand, 1) := by decide +kernel
theorem dX8_vow_72 : decode cX8_vow 72 = .ok (.putfield 124, 3) := by decide +kernel
theorem dX8_vow_75 : decode cX8_vow 75 = .ok (.iload_n 3, 1) := by decide +kernel
theorem dX8_vow_76 : decode cX8_vow 76 = .ok (.ireturn, 1) := by decide +kernel
set_option maxRecDepth 20000 in
theorem ggX8_night_X8_refusalOfNights : GoodIn wsX8_night wsX8_refusalOfNights := goodIn_r _ [10, 11, 3, 12, 13, 2, 14, 15, 52, 53, 54, 55, 56, 57, 58, 59, 60, 61, 62, 63, 64, 65, 66, 67, 68, 69, 70, 71, 72, 73, 74, 75, 76, 77, 78, 79, 80, 81, 82, 83] (by decide +kernel) (by decide +kernel)
set_option maxRecDepth 20000 in
theorem gX8_night_X8_refusalOfNights : GoodIn wsX8_night (wsV RX8 209 RX8 yX8_refusalOfNights wsX8_refusalOfNights) := goodIn_app (goodIn_of _ (by decide +kernel)) ggX8_night_X8_refusalOfNights
set_option maxRecDepth 20000 in
theorem ggX8_night_X3_remember : GoodIn wsX8_night wsX3_remember := goodIn_r _ [20, 21, 22, 23, 24, 25, 26, 27, 28, 29, 30, 31, 32, 33, 34, 35, 36, 37, 38, 39, 40, 41, 42, 43, 44, 45, 46, 84, 85, 86, 74, 75, 76, 77, 78, 79, 80, 81, 82, 83] (by decide +kernel) (by decide +kernel)
set_option maxRecDepth 20000 in
theorem gX8_night_X3_remember : GoodIn wsX8_night (wsV RX8 199 RX3 yX3_remember wsX3_remember) := goodIn_app (goodIn_of _ (by decide +kernel)) ggX8_night_X3_remember
set_option maxRecDepth 20000 in
theorem ggX8_night_X6_passNight : GoodIn wsX8_night wsX6_passNight := goodIn_r _ [50, 33, 34, 51, 25, 26, 27, 35, 36, 74, 75, 76, 77, 78, 79, 80, 81, 82, 83] (by decide +kernel) (by decide +kernel)
set_option maxRecDepth 20000 in
theorem gX8_night_X6_passNight : GoodIn wsX8_night (wsV RX8 212 RX6 yX6_passNight wsX6_passNight) := goodIn_app (goodIn_of _ (by decide +kernel)) ggX8_night_X6_passNight
theorem dX8_night_0 : decode cX8_night 0 = .ok (.aload_n 0, 1) := by decide +kernel
theorem dX8_night_1 : decode cX8_night 1 = .ok (.iload_n 1, 1) := by decide +kernel
theorem dX8_night_2 : decode cX8_night 2 = .ok (.invokevirtual 209, 3) := by decide +kernel
theorem dX8_night_5 : decode cX8_night 5 = .ok (.istore_n 2, 1) := by decide +kernel
theorem dX8_night_6 : decode cX8_night 6 = .ok (.iload_n 2, 1) := by decide +kernel
theorem dX8_night_7 : decode cX8_night 7 = .ok (.ifCond .eq 5, 3) := by decide +kernel
theorem dX8_night_10 : decode cX8_night 10 = .ok (.iload_n 2, 1) := by decide +kernel
theorem dX8_night_11 : decode cX8_night 11 = .ok (.ireturn, 1) := by decide +kernel
theorem dX8_night_12 : decode cX8_night 12 = .ok (.aload_n 0, 1) := by decide +kernel
theorem dX8_night_13 : decode cX8_night 13 = .ok (.getfield 39, 3) := by decide +kernel
theorem dX8_night_16 : decode cX8_night 16 = .ok (.aload_n 0, 1) := by decide +kernel
theorem dX8_night_17 : decode cX8_night 17 = .ok (.getfield 29, 3) := by decide +kernel
theorem dX8_night_20 : decode cX8_night 20 = .ok (.invokevirtual 199, 3) := by decide +kernel
theorem dX8_night_23 : decode cX8_night 23 = .ok (.iconst 0, 1) := by decide +kernel
theorem dX8_night_24 : decode cX8_night 24 = .ok (.istore_n 3, 1) := by decide +kernel
theorem dX8_night_25 : decode cX8_night 25 = .ok (.iload_n 3, 1) := by decide +kernel
theorem dX8_night_26 : decode cX8_night 26 = .ok (.iload_n 1, 1) := by decide +kernel
theorem dX8_night_27 : decode cX8_night 27 = .ok (.if_icmp .ge 23, 3) := by decide +kernel
theorem dX8_night_30 : decode cX8_night 30 = .ok (.aload_n 0, 1) := by decide +kernel
theorem dX8_night_31 : decode cX8_night 31 = .ok (.getfield 29, 3) := by decide +kernel
theorem dX8_night_34 : decode cX8_night 34 = .ok (.aload_n 0, 1) := by decide +kernel
theorem dX8_night_35 : decode cX8_night 35 = .ok (.getfield 19, 3) := by decide +kernel
theorem dX8_night_38 : decode cX8_night 38 = .ok (.getfield 140, 3) := by decide +kernel
theorem dX8_night_41 : decode cX8_night 41 = .ok (.invokevirtual 212, 3) := by decide +kernel
theorem dX8_night_44 : decode cX8_night 44 = .ok (.iinc 3 1, 3) := by decide +kernel
theorem dX8_night_47 : decode cX8_night 47 = .ok (.goto (-22), 3) := by decide +kernel
theorem dX8_night_50 : decode cX8_night 50 = .ok (.aload_n 0, 1) := by decide +kernel
theorem dX8_night_51 : decode cX8_night 51 = .ok (.getfield 29, 3) := by decide +kernel
theorem dX8_night_54 : decode cX8_night 54 = .ok (.getfield 111, 3) := by decide +kernel
theorem dX8_night_57 : decode cX8_night 57 = .ok (.ireturn, 1) := by decide +kernel
set_option maxRecDepth 20000 in
theorem ggX8_rain_X3_remember : GoodIn wsX8_rain wsX3_remember := goodIn_r _ [12, 13, 14, 15, 16, 17, 18, 19, 20, 21, 22, 23, 24, 25, 26, 27, 28, 29, 30, 31, 32, 33, 34, 35, 36, 37, 38, 71, 72, 73, 61, 62, 63, 64, 65, 66, 67, 68, 69, 70] (by decide +kernel) (by decide +kernel)
set_option maxRecDepth 20000 in
theorem gX8_rain_X3_remember : GoodIn wsX8_rain (wsV RX8 199 RX3 yX3_remember wsX3_remember) := goodIn_app (goodIn_of _ (by decide +kernel)) ggX8_rain_X3_remember
theorem dX8_rain_0 : decode cX8_rain 0 = .ok (.iload_n 1, 1) := by decide +kernel
theorem dX8_rain_1 : decode cX8_rain 1 = .ok (.ifCond .lt 9, 3) := by decide +kernel
theorem dX8_rain_4 : decode cX8_rain 4 = .ok (.iload_n 1, 1) := by decide +kernel
theorem dX8_rain_5 : decode cX8_rain 5 = .ok (.bipush 99, 2) := by decide +kernel
theorem dX8_rain_7 : decode cX8_rain 7 = .ok (.if_icmp .le 6, 3) := by decide +kernel
theorem dX8_rain_10 : decode cX8_rain 10 = .ok (.ldc 71, 2) := by decide +kernel
theorem dX8_rain_12 : decode cX8_rain 12 = .ok (.ireturn, 1) := by decide +kernel
theorem dX8_rain_13 : decode cX8_rain 13 = .ok (.aload_n 0, 1) := by decide +kernel
theorem dX8_rain_14 : decode cX8_rain 14 = .ok (.getfield 19, 3) := by decide +kernel
theorem dX8_rain_17 : decode cX8_rain 17 = .ok (.getfield 216, 3) := by decide +kernel
theorem dX8_rain_20 : decode cX8_rain 20 = .ok (.ifCond .ne 6, 3) := by decide +kernel
theorem dX8_rain_23 : decode cX8_rain 23 = .ok (.ldc 198, 2) := by decide +kernel
theorem dX8_rain_25 : decode cX8_rain 25 = .ok (.ireturn, 1) := by decide +kernel
theorem dX8_rain_26 : decode cX8_rain 26 = .ok (.aload_n 0, 1) := by decide +kernel
theorem dX8_rain_27 : decode cX8_rain 27 = .ok (.getfield 39, 3) := by decide +kernel
theorem dX8_rain_30 : decode cX8_rain 30 = .ok (.aload_n 0, 1) := by decide +kernel
theorem dX8_rain_31 : decode cX8_rain 31 = .ok (.getfield 29, 3) := by decide +kernel
theorem dX8_rain_34 : decode cX8_rain 34 = .ok (.invokevirtual 199, 3) := by decide +kernel
theorem dX8_rain_37 : decode cX8_rain 37 = .ok (.aload_n 0, 1) := by decide +kernel
theorem dX8_rain_38 : decode cX8_rain 38 = .ok (.getfield 29, 3) := by decide +kernel
theorem dX8_rain_41 : decode cX8_rain 41 = .ok (.getfield 114, 3) := by decide +kernel
theorem dX8_rain_44 : decode cX8_rain 44 = .ok (.istore_n 2, 1) := by decide +kernel
theorem dX8_rain_45 : decode cX8_rain 45 = .ok (.aload_n 0, 1) := by decide +kernel
theorem dX8_rain_46 : decode cX8_rain 46 = .ok (.getfield 29, 3) := by decide +kernel
theorem dX8_rain_49 : decode cX8_rain 49 = .ok (.iload_n 1, 1) := by decide +kernel
theorem dX8_rain_50 : decode cX8_rain 50 = .ok (.putfield 114, 3) := by decide +kernel
theorem dX8_rain_53 : decode cX8_rain 53 = .ok (.iload_n 2, 1) := by decide +kernel
theorem dX8_rain_54 : decode cX8_rain 54 = .ok (.ireturn, 1) := by decide +kernel
set_option maxRecDepth 20000 in
theorem ggX8_queue_X7_hasPerson : GoodIn wsX8_queue wsX7_hasPerson := goodIn_r _ [11, 12, 73, 74, 75, 76, 77, 78, 79, 80, 81, 82, 83, 84] (by decide +kernel) (by decide +kernel)
set_option maxRecDepth 20000 in
theorem gX8_queue_X7_hasPerson : GoodIn wsX8_queue (wsV RX8 173 RX7 yX7_hasPerson wsX7_hasPerson) := goodIn_app (goodIn_of _ (by decide +kernel)) ggX8_queue_X7_hasPerson
set_option maxRecDepth 20000 in
theorem ggX8_queue_X7_hasSaying : GoodIn wsX8_queue wsX7_hasSaying := goodIn_r _ [16, 17, 73, 74, 75, 76, 77, 78, 79, 80, 81, 82, 83, 84] (by decide +kernel) (by decide +kernel)
set_option maxRecDepth 20000 in
theorem gX8_queue_X7_hasSaying : GoodIn wsX8_queue (wsV RX8 143 RX7 yX7_hasSaying wsX7_hasSaying) := goodIn_app (goodIn_of _ (by decide +kernel)) ggX8_queue_X7_hasSaying
set_option maxRecDepth 20000 in
theorem ggX8_queue_X3_remember : GoodIn wsX8_queue wsX3_remember := goodIn_r _ [22, 23, 24, 25, 26, 27, 28, 29, 30, 31, 32, 33, 34, 35, 36, 37, 38, 39, 40, 41, 42, 43, 44, 45, 46, 47, 48, 85, 86, 87, 63, 64, 65, 66, 67, 68, 69, 70, 71, 72] (by decide +kernel) (by decide +kernel)
set_option maxRecDepth 20000 in
theorem gX8_queue_X3_remember : GoodIn wsX8_queue (wsV RX8 199 RX3 yX3_remember wsX3_remember) := goodIn_app (goodIn_of _ (by decide +kernel)) ggX8_queue_X3_remember
set_option maxRecDepth 20000 in
theorem ggX8_queue_X6_joinQueue : GoodIn wsX8_queue wsX6_joinQueue := goodIn_r _ [52, 41, 47, 48, 63, 64, 65, 66, 67, 68, 69, 70, 71, 72] (by decide +kernel) (by decide +kernel)
set_option maxRecDepth 20000 in
theorem gX8_queue_X6_joinQueue : GoodIn wsX8_queue (wsV RX8 220 RX6 yX6_joinQueue wsX6_joinQueue) := goodIn_app (goodIn_of _ (by decide +kernel)) ggX8_queue_X6_joinQueue
theorem dX8_queue_0 : decode cX8_queue 0 = .ok (.aload_n 0, 1) := by decide +kernel
theorem dX8_queue_1 : decode cX8_queue 1 = .ok (.getfield 19, 3) := by decide +kernel
theorem dX8_queue_4 : decode cX8_queue 4 = .ok (.iload_n 1, 1) := by decide +kernel
theorem dX8_queue_5 : decode cX8_queue 5 = .ok (.invokevirtual 173, 3) := by decide +kernel
theorem dX8_queue_8 : decode cX8_queue 8 = .ok (.ifCond .eq 14, 3) := by decide +kernel
theorem dX8_queue_11 : decode cX8_queue 11 = .ok (.aload_n 0, 1) := by decide +kernel
theorem dX8_queue_12 : decode cX8_queue 12 = .ok (.getfield 19, 3) := by decide +kernel
theorem dX8_queue_15 : decode cX8_queue 15 = .ok (.iload_n 2, 1) := by decide +kernel
theorem dX8_queue_16 : decode cX8_queue 16 = .ok (.invokevirtual 143, 3) := by decide +kernel
theorem dX8_queue_19 : decode cX8_queue 19 = .ok (.ifCond .ne 6, 3) := by decide +kernel
theorem dX8_queue_22 : decode cX8_queue 22 = .ok (.ldc 146, 2) := by decide +kernel
theorem dX8_queue_24 : decode cX8_queue 24 = .ok (.ireturn, 1) := by decide +kernel
theorem dX8_queue_25 : decode cX8_queue 25 = .ok (.aload_n 0, 1) := by decide +kernel
theorem dX8_queue_26 : decode cX8_queue 26 = .ok (.getfield 29, 3) := by decide +kernel
theorem dX8_queue_29 : decode cX8_queue 29 = .ok (.getfield 136, 3) := by decide +kernel
theorem dX8_queue_32 : decode cX8_queue 32 = .ok (.bipush 6, 2) := by decide +kernel
theorem dX8_queue_34 : decode cX8_queue 34 = .ok (.if_icmp .lt 6, 3) := by decide +kernel
theorem dX8_queue_37 : decode cX8_queue 37 = .ok (.ldc 80, 2) := by decide +kernel
theorem dX8_queue_39 : decode cX8_queue 39 = .ok (.ireturn, 1) := by decide +kernel
theorem dX8_queue_40 : decode cX8_queue 40 = .ok (.aload_n 0, 1) := by decide +kernel
theorem dX8_queue_41 : decode cX8_queue 41 = .ok (.getfield 39, 3) := by decide +kernel
theorem dX8_queue_44 : decode cX8_queue 44 = .ok (.aload_n 0, 1) := by decide +kernel
theorem dX8_queue_45 : decode cX8_queue 45 = .ok (.getfield 29, 3) := by decide +kernel
theorem dX8_queue_48 : decode cX8_queue 48 = .ok (.invokevirtual 199, 3) := by decide +kernel
theorem dX8_queue_51 : decode cX8_queue 51 = .ok (.aload_n 0, 1) := by decide +kernel
theorem dX8_queue_52 : decode cX8_queue 52 = .ok (.getfield 29, 3) := by decide +kernel
theorem dX8_queue_55 : decode cX8_queue 55 = .ok (.iload_n 1, 1) := by decide +kernel
theorem dX8_queue_56 : decode cX8_queue 56 = .ok (.iload_n 2, 1) := by decide +kernel
theorem dX8_queue_57 : decode cX8_queue 57 = .ok (.invokevirtual 220, 3) := by decide +kernel
theorem dX8_queue_60 : decode cX8_queue 60 = .ok (.aload_n 0, 1) := by decide +kernel
theorem dX8_queue_61 : decode cX8_queue 61 = .ok (.getfield 29, 3) := by decide +kernel
theorem dX8_queue_64 : decode cX8_queue 64 = .ok (.getfield 136, 3) := by decide +kernel
theorem dX8_queue_67 : decode cX8_queue 67 = .ok (.ireturn, 1) := by decide +kernel
set_option maxRecDepth 20000 in
theorem ggX8_turn_X3_remember : GoodIn wsX8_turn wsX3_remember := goodIn_r _ [10, 11, 12, 13, 14, 15, 16, 17, 18, 19, 20, 21, 22, 23, 24, 25, 26, 27, 28, 29, 30, 31, 32, 33, 34, 35, 36, 98, 99, 100, 88, 89, 90, 91, 92, 93, 94, 95, 96, 97] (by decide +kernel) (by decide +kernel)
set_option maxRecDepth 20000 in
theorem gX8_turn_X3_remember : GoodIn wsX8_turn (wsV RX8 199 RX3 yX3_remember wsX3_remember) := goodIn_app (goodIn_of _ (by decide +kernel)) ggX8_turn_X3_remember
set_option maxRecDepth 20000 in
theorem ggX8_turn_X6_takeTurn : GoodIn wsX8_turn wsX6_takeTurn := goodIn_r _ [40, 35, 36, 27, 41, 42, 43, 21, 44, 23, 25, 30, 45, 46, 47, 48, 49, 50, 28, 51, 52, 15, 16, 17, 53, 54, 55, 56, 57, 58, 59, 60, 61, 62, 63, 64, 65, 66, 67, 68, 69, 70, 29, 71, 72, 73, 74, 75, 76, 77, 88, 89, 90, 91, 92, 93, 94, 95, 96, 97, 101, 102, 103, 104, 105, 106, 107, 108, 109, 110, 111, 112] (by decide +kernel) (by decide +kernel)
set_option maxRecDepth 20000 in
theorem gX8_turn_X6_takeTurn : GoodIn wsX8_turn (wsV RX8 224 RX6 yX6_takeTurn wsX6_takeTurn) := goodIn_app (goodIn_of _ (by decide +kernel)) ggX8_turn_X6_takeTurn
theorem dX8_turn_0 : decode cX8_turn 0 = .ok (.aload_n 0, 1) := by decide +kernel
theorem dX8_turn_1 : decode cX8_turn 1 = .ok (.getfield 29, 3) := by decide +kernel
theorem dX8_turn_4 : decode cX8_turn 4 = .ok (.getfield 136, 3) := by decide +kernel
theorem dX8_turn_7 : decode cX8_turn 7 = .ok (.ifCond .ne 6, 3) := by decide +kernel
theorem dX8_turn_10 : decode cX8_turn 10 = .ok (.ldc 198, 2) := by decide +kernel
theorem dX8_turn_12 : decode cX8_turn 12 = .ok (.ireturn, 1) := by decide +kernel
theorem dX8_turn_13 : decode cX8_turn 13 = .ok (.aload_n 0, 1) := by decide +kernel
theorem dX8_turn_14 : decode cX8_turn 14 = .ok (.getfield 39, 3) := by decide +kernel
theorem dX8_turn_17 : decode cX8_turn 17 = .ok (.aload_n 0, 1) := by decide +kernel
theorem dX8_turn_18 : decode cX8_turn 18 = .ok (.getfield 29, 3) := by decide +kernel
theorem dX8_turn_21 : decode cX8_turn 21 = .ok (.invokevirtual 199, 3) := by decide +kernel
theorem dX8_turn_24 : decode cX8_turn 24 = .ok (.aload_n 0, 1) := by decide +kernel
theorem dX8_turn_25 : decode cX8_turn 25 = .ok (.getfield 29, 3) := by decide +kernel
theorem dX8_turn_28 : decode cX8_turn 28 = .ok (.aload_n 0, 1) := by decide +kernel
theorem dX8_turn_29 : decode cX8_turn 29 = .ok (.getfield 19, 3) := by decide +kernel
theorem dX8_turn_32 : decode cX8_turn 32 = .ok (.invokevirtual 224, 3) := by decide +kernel
theorem dX8_turn_35 : decode cX8_turn 35 = .ok (.ireturn, 1) := by decide +kernel
set_option maxRecDepth 20000 in
theorem ggX8_drift_X8_refusalOfNights : GoodIn wsX8_drift wsX8_refusalOfNights := goodIn_r _ [11, 12, 3, 13, 14, 2, 15, 16, 98, 99, 100, 101, 102, 103, 104, 105, 106, 107, 108, 109, 110, 111, 112, 113, 114, 115, 116, 117, 118, 119, 120, 121, 122, 123, 124, 125, 126, 127, 128, 129] (by decide +kernel) (by decide +kernel)
set_option maxRecDepth 20000 in
theorem gX8_drift_X8_refusalOfNights : GoodIn wsX8_drift (wsV RX8 209 RX8 yX8_refusalOfNights wsX8_refusalOfNights) := goodIn_app (goodIn_of _ (by decide +kernel)) ggX8_drift_X8_refusalOfNights
set_option maxRecDepth 20000 in
theorem ggX8_drift_X3_remember : GoodIn wsX8_drift wsX3_remember := goodIn_r _ [21, 22, 23, 24, 25, 26, 27, 28, 29, 30, 31, 32, 33, 34, 35, 36, 37, 38, 39, 40, 41, 42, 43, 44, 45, 46, 47, 130, 131, 132, 120, 121, 122, 123, 124, 125, 126, 127, 128, 129] (by decide +kernel) (by decide +kernel)
set_option maxRecDepth 20000 in
theorem gX8_drift_X3_remember : GoodIn wsX8_drift (wsV RX8 199 RX3 yX3_remember wsX3_remember) := goodIn_app (goodIn_of _ (by decide +kernel)) ggX8_drift_X3_remember
set_option maxRecDepth 20000 in
theorem ggX8_drift_X6_driftAheadOfNight : GoodIn wsX8_drift wsX6_driftAheadOfNight := goodIn_r _ [51, 52, 53, 35, 54, 55, 56, 57, 58, 59, 60, 61, 62, 63, 64, 65, 66, 32, 67, 34, 36, 41, 68, 69, 38, 70, 71, 72, 73, 39, 74, 75, 26, 27, 28, 76, 77, 78, 79, 80, 81, 82, 83, 84, 85, 86, 87, 88, 89, 90, 91, 92, 93, 108, 109, 110, 111, 112, 113, 114, 115, 116, 117, 118, 119, 120, 121, 122, 123, 124, 125, 126, 127, 128, 129, 133] (by decide +kernel) (by decide +kernel)
set_option maxRecDepth 20000 in
theorem gX8_drift_X6_driftAheadOfNight : GoodIn wsX8_drift (wsV RX8 227 RX6 yX6_driftAheadOfNight wsX6_driftAheadOfNight) := goodIn_app (goodIn_of _ (by decide +kernel)) ggX8_drift_X6_driftAheadOfNight
set_option maxRecDepth 20000 in
theorem ggX8_drift_X6_passNight : GoodIn wsX8_drift wsX6_passNight := goodIn_r _ [97, 34, 35, 75, 26, 27, 28, 36, 37, 120, 121, 122, 123, 124, 125, 126, 127, 128, 129] (by decide +kernel) (by decide +kernel)
set_option maxRecDepth 20000 in
theorem gX8_drift_X6_passNight : GoodIn wsX8_drift (wsV RX8 212 RX6 yX6_passNight wsX6_passNight) := goodIn_app (goodIn_of _ (by decide +kernel)) ggX8_drift_X6_passNight
theorem dX8_drift_0 : decode cX8_drift 0 = .ok (.aload_n 0, 1) := by decide +kernel
theorem dX8_drift_1 : decode cX8_drift 1 = .ok (.iload_n 1, 1) := by decide +kernel
theorem dX8_drift_2 : decode cX8_drift 2 = .ok (.invokevirtual 209, 3) := by decide +kernel
theorem dX8_drift_5 : decode cX8_drift 5 = .ok (.istore_n 2, 1) := by decide +kernel
theorem dX8_drift_6 : decode cX8_drift 6 = .ok (.iload_n 2, 1) := by decide +kernel
theorem dX8_drift_7 : decode cX8_drift 7 = .ok (.ifCond .eq 5, 3) := by decide +kernel
theorem dX8_drift_10 : decode cX8_drift 10 = .ok (.iload_n 2, 1) := by decide +kernel
theorem dX8_drift_11 : decode cX8_drift 11 = .ok (.ireturn, 1) := by decide +kernel
theorem dX8_drift_12 : decode cX8_drift 12 = .ok (.aload_n 0, 1) := by decide +kernel
theorem dX8_drift_13 : decode cX8_drift 13 = .ok (.getfield 39, 3) := by decide +kernel
theorem dX8_drift_16 : decode cX8_drift 16 = .ok (.aload_n 0, 1) := by decide +kernel
theorem dX8_drift_17 : decode cX8_drift 17 = .ok (.getfield 29, 3) := by decide +kernel
theorem dX8_drift_20 : decode cX8_drift 20 = .ok (.invokevirtual 199, 3) := by decide +kernel
theorem dX8_drift_23 : decode cX8_drift 23 = .ok (.iconst 0, 1) := by decide +kernel
theorem dX8_drift_24 : decode cX8_drift 24 = .ok (.istore_n 3, 1) := by decide +kernel
theorem dX8_drift_25 : decode cX8_drift 25 = .ok (.iload_n 3, 1) := by decide +kernel
theorem dX8_drift_26 : decode cX8_drift 26 = .ok (.iload_n 1, 1) := by decide +kernel
theorem dX8_drift_27 : decode cX8_drift 27 = .ok (.if_icmp .ge 38, 3) := by decide +kernel
theorem dX8_drift_30 : decode cX8_drift 30 = .ok (.aload_n 0, 1) := by decide +kernel
theorem dX8_drift_31 : decode cX8_drift 31 = .ok (.getfield 29, 3) := by decide +kernel
theorem dX8_drift_34 : decode cX8_drift 34 = .ok (.aload_n 0, 1) := by decide +kernel
theorem dX8_drift_35 : decode cX8_drift 35 = .ok (.getfield 19, 3) := by decide +kernel
theorem dX8_drift_38 : decode cX8_drift 38 = .ok (.aload_n 0, 1) := by decide +kernel
theorem dX8_drift_39 : decode cX8_drift 39 = .ok (.getfield 53, 3) := by decide +kernel
theorem dX8_drift_42 : decode cX8_drift 42 = .ok (.invokevirtual 227, 3) := by decide +kernel
theorem dX8_drift_45 : decode cX8_drift 45 = .ok (.aload_n 0, 1) := by decide +kernel
theorem dX8_drift_46 : decode cX8_drift 46 = .ok (.getfield 29, 3) := by decide +kernel
theorem dX8_drift_49 : decode cX8_drift 49 = .ok (.aload_n 0, 1) := by decide +kernel
theorem dX8_drift_50 : decode cX8_drift 50 = .ok (.getfield 19, 3) := by decide +kernel
theorem dX8_drift_53 : decode cX8_drift 53 = .ok (.getfield 140, 3) := by decide +kernel
theorem dX8_drift_56 : decode cX8_drift 56 = .ok (.invokevirtual 212, 3) := by decide +kernel
theorem dX8_drift_59 : decode cX8_drift 59 = .ok (.iinc 3 1, 3) := by decide +kernel
theorem dX8_drift_62 : decode cX8_drift 62 = .ok (.goto (-37), 3) := by decide +kernel
theorem dX8_drift_65 : decode cX8_drift 65 = .ok (.aload_n 0, 1) := by decide +kernel
theorem dX8_drift_66 : decode cX8_drift 66 = .ok (.getfield 29, 3) := by decide +kernel
theorem dX8_drift_69 : decode cX8_drift 69 = .ok (.getfield 111, 3) := by decide +kernel
theorem dX8_drift_72 : decode cX8_drift 72 = .ok (.ireturn, 1) := by decide +kernel
set_option maxRecDepth 20000 in
theorem ggX8_undo_X3_takeBack : GoodIn wsX8_undo wsX3_takeBack := goodIn_r _ [9, 10, 11, 12, 13, 14, 15, 16, 17, 18, 19, 20, 21, 22, 23, 24, 25, 26, 27, 28, 29, 30, 31, 42, 43, 44, 45, 46, 47, 48, 49, 50, 51, 52, 53, 54] (by decide +kernel) (by decide +kernel)
set_option maxRecDepth 20000 in
theorem gX8_undo_X3_takeBack : GoodIn wsX8_undo (wsV RX8 231 RX3 yX3_takeBack wsX3_takeBack) := goodIn_app (goodIn_of _ (by decide +kernel)) ggX8_undo_X3_takeBack
theorem dX8_undo_0 : decode cX8_undo 0 = .ok (.aload_n 0, 1) := by decide +kernel
theorem dX8_undo_1 : decode cX8_undo 1 = .ok (.getfield 39, 3) := by decide +kernel
theorem dX8_undo_4 : decode cX8_undo 4 = .ok (.getfield 139, 3) := by decide +kernel
theorem dX8_undo_7 : decode cX8_undo 7 = .ok (.ifCond .ne 6, 3) := by decide +kernel
theorem dX8_undo_10 : decode cX8_undo 10 = .ok (.ldc 198, 2) := by decide +kernel
theorem dX8_undo_12 : decode cX8_undo 12 = .ok (.ireturn, 1) := by decide +kernel
theorem dX8_undo_13 : decode cX8_undo 13 = .ok (.aload_n 0, 1) := by decide +kernel
theorem dX8_undo_14 : decode cX8_undo 14 = .ok (.getfield 39, 3) := by decide +kernel
theorem dX8_undo_17 : decode cX8_undo 17 = .ok (.aload_n 0, 1) := by decide +kernel
theorem dX8_undo_18 : decode cX8_undo 18 = .ok (.getfield 29, 3) := by decide +kernel
theorem dX8_undo_21 : decode cX8_undo 21 = .ok (.invokevirtual 231, 3) := by decide +kernel
theorem dX8_undo_24 : decode cX8_undo 24 = .ok (.aload_n 0, 1) := by decide +kernel
theorem dX8_undo_25 : decode cX8_undo 25 = .ok (.getfield 39, 3) := by decide +kernel
theorem dX8_undo_28 : decode cX8_undo 28 = .ok (.getfield 139, 3) := by decide +kernel
theorem dX8_undo_31 : decode cX8_undo 31 = .ok (.ireturn, 1) := by decide +kernel
set_option maxRecDepth 20000 in
theorem ggX8_state_X7_hasAll : GoodIn wsX8_state wsX7_hasAll := goodIn_r _ [9, 10, 53, 54, 55, 56, 57, 58, 59, 60, 61, 62, 63, 64] (by decide +kernel) (by decide +kernel)
set_option maxRecDepth 20000 in
theorem gX8_state_X7_hasAll : GoodIn wsX8_state (wsV RX8 234 RX7 yX7_hasAll wsX7_hasAll) := goodIn_app (goodIn_of _ (by decide +kernel)) ggX8_state_X7_hasAll
set_option maxRecDepth 20000 in
theorem ggX8_state_X6_cheapestFor : GoodIn wsX8_state wsX6_cheapestFor := goodIn_r _ [15, 16, 17, 18, 19, 14, 20, 21, 22, 23, 24, 25, 26, 27, 28, 29, 8, 30, 10, 31, 32, 33, 34, 35, 36, 37, 38, 39, 40, 41, 53, 54, 55, 56, 57, 58, 59, 60, 61, 62, 63, 64, 65, 66, 67, 68, 69, 70, 71, 72, 73, 74] (by decide +kernel) (by decide +kernel)
set_option maxRecDepth 20000 in
theorem gX8_state_X6_cheapestFor : GoodIn wsX8_state (wsV RX8 237 RX6 yX6_cheapestFor wsX6_cheapestFor) := goodIn_app (goodIn_of _ (by decide +kernel)) ggX8_state_X6_cheapestFor
set_option maxRecDepth 20000 in
theorem ggX8_state_X6_pailsFor : GoodIn wsX8_state wsX6_pailsFor := goodIn_r _ [38, 16, 39, 40, 41, 33, 8, 34, 53, 54, 55, 56, 57, 58, 59, 60, 61, 62, 63, 64, 65, 66, 67, 68, 69, 70, 71, 72, 73, 74] (by decide +kernel) (by decide +kernel)
set_option maxRecDepth 20000 in
theorem gX8_state_X6_pailsFor : GoodIn wsX8_state (wsV RX8 240 RX6 yX6_pailsFor wsX6_pailsFor) := goodIn_app (goodIn_of _ (by decide +kernel)) ggX8_state_X6_pailsFor
theorem dX8_state_0 : decode cX8_state 0 = .ok (.aload_n 0, 1) := by decide +kernel
theorem dX8_state_1 : decode cX8_state 1 = .ok (.getfield 19, 3) := by decide +kernel
theorem dX8_state_4 : decode cX8_state 4 = .ok (.iload_n 1, 1) := by decide +kernel
theorem dX8_state_5 : decode cX8_state 5 = .ok (.invokevirtual 234, 3) := by decide +kernel
theorem dX8_state_8 : decode cX8_state 8 = .ok (.ifCond .eq 14, 3) := by decide +kernel
theorem dX8_state_11 : decode cX8_state 11 = .ok (.aload_n 0, 1) := by decide +kernel
theorem dX8_state_12 : decode cX8_state 12 = .ok (.getfield 19, 3) := by decide +kernel
theorem dX8_state_15 : decode cX8_state 15 = .ok (.iload_n 2, 1) := by decide +kernel
theorem dX8_state_16 : decode cX8_state 16 = .ok (.invokevirtual 234, 3) := by decide +kernel
theorem dX8_state_19 : decode cX8_state 19 = .ok (.ifCond .ne 6, 3) := by decide +kernel
theorem dX8_state_22 : decode cX8_state 22 = .ok (.ldc 146, 2) := by decide +kernel
theorem dX8_state_24 : decode cX8_state 24 = .ok (.ireturn, 1) := by decide +kernel
theorem dX8_state_25 : decode cX8_state 25 = .ok (.iload_n 3, 1) := by decide +kernel
theorem dX8_state_26 : decode cX8_state 26 = .ok (.ifCond .lt 8, 3) := by decide +kernel
theorem dX8_state_29 : decode cX8_state 29 = .ok (.iload_n 3, 1) := by decide +kernel
theorem dX8_state_30 : decode cX8_state 30 = .ok (.iconst 1, 1) := by decide +kernel
theorem dX8_state_31 : decode cX8_state 31 = .ok (.if_icmp .le 6, 3) := by decide +kernel
theorem dX8_state_34 : decode cX8_state 34 = .ok (.ldc 71, 2) := by decide +kernel
theorem dX8_state_36 : decode cX8_state 36 = .ok (.ireturn, 1) := by decide +kernel
theorem dX8_state_37 : decode cX8_state 37 = .ok (.aload_n 0, 1) := by decide +kernel
theorem dX8_state_38 : decode cX8_state 38 = .ok (.getfield 29, 3) := by decide +kernel
theorem dX8_state_41 : decode cX8_state 41 = .ok (.aload_n 0, 1) := by decide +kernel
theorem dX8_state_42 : decode cX8_state 42 = .ok (.getfield 19, 3) := by decide +kernel
theorem dX8_state_45 : decode cX8_state 45 = .ok (.iload_n 1, 1) := by decide +kernel
theorem dX8_state_46 : decode cX8_state 46 = .ok (.iload_n 2, 1) := by decide +kernel
theorem dX8_state_47 : decode cX8_state 47 = .ok (.invokevirtual 237, 3) := by decide +kernel
theorem dX8_state_50 : decode cX8_state 50 = .ok (.istore 4, 2) := by decide +kernel
theorem dX8_state_52 : decode cX8_state 52 = .ok (.iload 4, 2) := by decide +kernel
theorem dX8_state_54 : decode cX8_state 54 = .ok (.iconst (-1), 1) := by decide +kernel
theorem dX8_state_55 : decode cX8_state 55 = .ok (.if_icmp .eq 8, 3) := by decide +kernel
theorem dX8_state_58 : decode cX8_state 58 = .ok (.iload_n 3, 1) := by decide +kernel
theorem dX8_state_59 : decode cX8_state 59 = .ok (.iconst 1, 1) := by decide +kernel
theorem dX8_state_60 : decode cX8_state 60 = .ok (.if_icmp .ne 8, 3) := by decide +kernel
theorem dX8_state_63 : decode cX8_state 63 = .ok (.iload 4, 2) := by decide +kernel
theorem dX8_state_65 : decode cX8_state 65 = .ok (.goto 16, 3) := by decide +kernel
theorem dX8_state_68 : decode cX8_state 68 = .ok (.aload_n 0, 1) := by decide +kernel
theorem dX8_state_69 : decode cX8_state 69 = .ok (.getfield 29, 3) := by decide +kernel
theorem dX8_state_72 : decode cX8_state 72 = .ok (.aload_n 0, 1) := by decide +kernel
theorem dX8_state_73 : decode cX8_state 73 = .ok (.getfield 19, 3) := by decide +kernel
theorem dX8_state_76 : decode cX8_state 76 = .ok (.iload 4, 2) := by decide +kernel
theorem dX8_state_78 : decode cX8_state 78 = .ok (.invokevirtual 240, 3) := by decide +kernel
theorem dX8_state_81 : decode cX8_state 81 = .ok (.ireturn, 1) := by decide +kernel
set_option maxRecDepth 20000 in
theorem ggX8_best_X6_bestFor : GoodIn wsX8_best wsX6_bestFor := goodIn_r _ [8, 9, 10, 11, 12, 7, 13, 14, 15, 16, 17, 18, 19, 20, 21, 22, 23, 24, 25, 26, 27, 28, 29, 30, 31, 32, 33, 34, 35, 36, 37, 38, 39, 40, 41, 53, 54, 55, 56, 57, 58, 59, 60, 61, 62, 63, 64, 65, 66, 67, 68, 69, 70, 71, 72, 73, 74] (by decide +kernel) (by decide +kernel)
set_option maxRecDepth 20000 in
theorem gX8_best_X6_bestFor : GoodIn wsX8_best (wsV RX8 244 RX6 yX6_bestFor wsX6_bestFor) := goodIn_app (goodIn_of _ (by decide +kernel)) ggX8_best_X6_bestFor
set_option maxRecDepth 20000 in
theorem ggX8_best_X6_worthWith : GoodIn wsX8_best wsX6_worthWith := goodIn_r _ [13, 14, 15, 16, 17, 18, 19, 20, 21, 22, 23, 24, 25, 26, 27, 28, 29, 65, 66, 67, 68, 69, 70, 71, 72, 73, 74, 53, 54, 55, 56, 57, 58, 59, 60, 61, 62, 63, 64] (by decide +kernel) (by decide +kernel)
set_option maxRecDepth 20000 in
theorem gX8_best_X6_worthWith : GoodIn wsX8_best (wsV RX8 247 RX6 yX6_worthWith wsX6_worthWith) := goodIn_app (goodIn_of _ (by decide +kernel)) ggX8_best_X6_worthWith
theorem dX8_best_0 : decode cX8_best 0 = .ok (.iload_n 1, 1) := by decide +kernel
theorem dX8_best_1 : decode cX8_best 1 = .ok (.ifCond .lt 18, 3) := by decide +kernel
theorem dX8_best_4 : decode cX8_best 4 = .ok (.iload_n 1, 1) := by decide +kernel
theorem dX8_best_5 : decode cX8_best 5 = .ok (.bipush 99, 2) := by decide +kernel
theorem dX8_best_7 : decode cX8_best 7 = .ok (.if_icmp .gt 12, 3) := by decide +kernel
theorem dX8_best_10 : decode cX8_best 10 = .ok (.iload_n 2, 1) := by decide +kernel
theorem dX8_best_11 : decode cX8_best 11 = .ok (.ifCond .lt 8, 3) := by decide +kernel
theorem dX8_best_14 : decode cX8_best 14 = .ok (.iload_n 2, 1) := by decide +kernel
theorem dX8_best_15 : decode cX8_best 15 = .ok (.iconst 1, 1) := by decide +kernel
theorem dX8_best_16 : decode cX8_best 16 = .ok (.if_icmp .le 6, 3) := by decide +kernel
theorem dX8_best_19 : decode cX8_best 19 = .ok (.ldc 71, 2) := by decide +kernel
theorem dX8_best_21 : decode cX8_best 21 = .ok (.ireturn, 1) := by decide +kernel
theorem dX8_best_22 : decode cX8_best 22 = .ok (.aload_n 0, 1) := by decide +kernel
theorem dX8_best_23 : decode cX8_best 23 = .ok (.getfield 29, 3) := by decide +kernel
theorem dX8_best_26 : decode cX8_best 26 = .ok (.aload_n 0, 1) := by decide +kernel
theorem dX8_best_27 : decode cX8_best 27 = .ok (.getfield 19, 3) := by decide +kernel
theorem dX8_best_30 : decode cX8_best 30 = .ok (.iload_n 1, 1) := by decide +kernel
theorem dX8_best_31 : decode cX8_best 31 = .ok (.invokevirtual 244, 3) := by decide +kernel
theorem dX8_best_34 : decode cX8_best 34 = .ok (.istore_n 3, 1) := by decide +kernel
theorem dX8_best_35 : decode cX8_best 35 = .ok (.iload_n 2, 1) := by decide +kernel
theorem dX8_best_36 : decode cX8_best 36 = .ok (.iconst 1, 1) := by decide +kernel
theorem dX8_best_37 : decode cX8_best 37 = .ok (.if_icmp .ne 7, 3) := by decide +kernel
theorem dX8_best_40 : decode cX8_best 40 = .ok (.iload_n 3, 1) := by decide +kernel
theorem dX8_best_41 : decode cX8_best 41 = .ok (.goto 19, 3) := by decide +kernel
theorem dX8_best_44 : decode cX8_best 44 = .ok (.aload_n 0, 1) := by decide +kernel
theorem dX8_best_45 : decode cX8_best 45 = .ok (.getfield 29, 3) := by decide +kernel
theorem dX8_best_48 : decode cX8_best 48 = .ok (.aload_n 0, 1) := by decide +kernel
theorem dX8_best_49 : decode cX8_best 49 = .ok (.getfield 19, 3) := by decide +kernel
theorem dX8_best_52 : decode cX8_best 52 = .ok (.iload_n 3, 1) := by decide +kernel
theorem dX8_best_53 : decode cX8_best 53 = .ok (.invokevirtual 247, 3) := by decide +kernel
theorem dX8_best_56 : decode cX8_best 56 = .ok (.sipush 1000, 3) := by decide +kernel
theorem dX8_best_59 : decode cX8_best 59 = .ok (.iadd, 1) := by decide +kernel
theorem dX8_best_60 : decode cX8_best 60 = .ok (.ireturn, 1) := by decide +kernel
set_option maxRecDepth 20000 in
theorem ggX8_alone_X7_hasPerson : GoodIn wsX8_alone wsX7_hasPerson := goodIn_r _ [9, 10, 74, 75, 76, 77, 78, 79, 80, 81, 82, 83, 84, 85] (by decide +kernel) (by decide +kernel)
set_option maxRecDepth 20000 in
theorem gX8_alone_X7_hasPerson : GoodIn wsX8_alone (wsV RX8 173 RX7 yX7_hasPerson wsX7_hasPerson) := goodIn_app (goodIn_of _ (by decide +kernel)) ggX8_alone_X7_hasPerson
set_option maxRecDepth 20000 in
theorem ggX8_alone_X7_hasSaying : GoodIn wsX8_alone wsX7_hasSaying := goodIn_r _ [14, 15, 74, 75, 76, 77, 78, 79, 80, 81, 82, 83, 84, 85] (by decide +kernel) (by decide +kernel)
set_option maxRecDepth 20000 in
theorem gX8_alone_X7_hasSaying : GoodIn wsX8_alone (wsV RX8 143 RX7 yX7_hasSaying wsX7_hasSaying) := goodIn_app (goodIn_of _ (by decide +kernel)) ggX8_alone_X7_hasSaying
set_option maxRecDepth 20000 in
theorem ggX8_alone_X6_copyFrom : GoodIn wsX8_alone wsX6_copyFrom := goodIn_r _ [20, 21, 22, 23, 24, 25, 26, 27, 28, 29, 30, 31, 32, 33, 34, 86, 87, 88, 89, 90, 91, 92, 93, 94, 95] (by decide +kernel) (by decide +kernel)
set_option maxRecDepth 20000 in
theorem gX8_alone_X6_copyFrom : GoodIn wsX8_alone (wsV RX8 250 RX6 yX6_copyFrom wsX6_copyFrom) := goodIn_app (goodIn_of _ (by decide +kernel)) ggX8_alone_X6_copyFrom
set_option maxRecDepth 20000 in
theorem ggX8_alone_X6_nightsAlone : GoodIn wsX8_alone wsX6_nightsAlone := goodIn_r _ [38, 25, 39, 40, 41, 8, 42, 43, 44, 45, 19, 46, 26, 47, 28, 48, 21, 49, 50, 51, 52, 53, 54, 6, 7, 9, 10, 55, 12, 13, 14, 15, 56, 57, 58, 59, 23, 60, 61, 62, 63, 22, 24, 86, 87, 88, 89, 90, 91, 92, 93, 94, 95, 74, 75, 76, 77, 78, 79, 80, 81, 82, 83, 84, 85] (by decide +kernel) (by decide +kernel)
set_option maxRecDepth 20000 in
theorem gX8_alone_X6_nightsAlone : GoodIn wsX8_alone (wsV RX8 253 RX6 yX6_nightsAlone wsX6_nightsAlone) := goodIn_app (goodIn_of _ (by decide +kernel)) ggX8_alone_X6_nightsAlone
theorem dX8_alone_0 : decode cX8_alone 0 = .ok (.aload_n 0, 1) := by decide +kernel
theorem dX8_alone_1 : decode cX8_alone 1 = .ok (.getfield 19, 3) := by decide +kernel
theorem dX8_alone_4 : decode cX8_alone 4 = .ok (.iload_n 1, 1) := by decide +kernel
theorem dX8_alone_5 : decode cX8_alone 5 = .ok (.invokevirtual 173, 3) := by decide +kernel
theorem dX8_alone_8 : decode cX8_alone 8 = .ok (.ifCond .eq 14, 3) := by decide +kernel
theorem dX8_alone_11 : decode cX8_alone 11 = .ok (.aload_n 0, 1) := by decide +kernel
theorem dX8_alone_12 : decode cX8_alone 12 = .ok (.getfield 19, 3) := by decide +kernel
theorem dX8_alone_15 : decode cX8_alone 15 = .ok (.iload_n 2, 1) := by decide +kernel
theorem dX8_alone_16 : decode cX8_alone 16 = .ok (.invokevirtual 143, 3) := by decide +kernel
theorem dX8_alone_19 : decode cX8_alone 19 = .ok (.ifCond .ne 6, 3) := by decide +kernel
theorem dX8_alone_22 : decode cX8_alone 22 = .ok (.ldc 146, 2) := by decide +kernel
theorem dX8_alone_24 : decode cX8_alone 24 = .ok (.ireturn, 1) := by decide +kernel
theorem dX8_alone_25 : decode cX8_alone 25 = .ok (.aload_n 0, 1) := by decide +kernel
theorem dX8_alone_26 : decode cX8_alone 26 = .ok (.getfield 33, 3) := by decide +kernel
theorem dX8_alone_29 : decode cX8_alone 29 = .ok (.aload_n 0, 1) := by decide +kernel
theorem dX8_alone_30 : decode cX8_alone 30 = .ok (.getfield 29, 3) := by decide +kernel
theorem dX8_alone_33 : decode cX8_alone 33 = .ok (.invokevirtual 250, 3) := by decide +kernel
theorem dX8_alone_36 : decode cX8_alone 36 = .ok (.aload_n 0, 1) := by decide +kernel
theorem dX8_alone_37 : decode cX8_alone 37 = .ok (.getfield 33, 3) := by decide +kernel
theorem dX8_alone_40 : decode cX8_alone 40 = .ok (.aload_n 0, 1) := by decide +kernel
theorem dX8_alone_41 : decode cX8_alone 41 = .ok (.getfield 19, 3) := by decide +kernel
theorem dX8_alone_44 : decode cX8_alone 44 = .ok (.iload_n 1, 1) := by decide +kernel
theorem dX8_alone_45 : decode cX8_alone 45 = .ok (.iload_n 2, 1) := by decide +kernel
theorem dX8_alone_46 : decode cX8_alone 46 = .ok (.invokevirtual 253, 3) := by decide +kernel
theorem dX8_alone_49 : decode cX8_alone 49 = .ok (.ireturn, 1) := by decide +kernel
set_option maxRecDepth 20000 in
theorem ggX8_wasUnsaid_X7_hasAll : GoodIn wsX8_wasUnsaid wsX7_hasAll := goodIn_r _ [12, 13, 61, 62, 63, 64, 65, 66, 67, 68, 69, 70, 71, 72] (by decide +kernel) (by decide +kernel)
set_option maxRecDepth 20000 in
theorem gX8_wasUnsaid_X7_hasAll : GoodIn wsX8_wasUnsaid (wsV RX8 234 RX7 yX7_hasAll wsX7_hasAll) := goodIn_app (goodIn_of _ (by decide +kernel)) ggX8_wasUnsaid_X7_hasAll
set_option maxRecDepth 20000 in
theorem ggX8_wasUnsaid_X5_gather : GoodIn wsX8_wasUnsaid wsX5_gather := goodIn_r _ [18, 19, 20, 21, 22, 23, 24, 25, 11, 26, 13, 27, 28, 29, 30, 31, 32, 33, 34, 35, 36, 37, 38, 17, 39, 58, 59, 60, 61, 62, 63, 64, 65, 66, 67, 68, 69, 70, 71, 72] (by decide +kernel) (by decide +kernel)
set_option maxRecDepth 20000 in
theorem gX8_wasUnsaid_X5_gather : GoodIn wsX8_wasUnsaid (wsV RX8 256 RX5 yX5_gather wsX5_gather) := goodIn_app (goodIn_of _ (by decide +kernel)) ggX8_wasUnsaid_X5_gather
set_option maxRecDepth 20000 in
theorem ggX8_wasUnsaid_X5_frog : GoodIn wsX8_wasUnsaid wsX5_frog := goodIn_r _ [43, 19, 21, 44, 45, 46, 47, 58, 59, 60] (by decide +kernel) (by decide +kernel)
set_option maxRecDepth 20000 in
theorem gX8_wasUnsaid_X5_frog : GoodIn wsX8_wasUnsaid (wsV RX8 264 RX5 yX5_frog wsX5_frog) := goodIn_app (goodIn_of _ (by decide +kernel)) ggX8_wasUnsaid_X5_frog
theorem dX8_wasUnsaid_0 : decode cX8_wasUnsaid 0 = .ok (.aload_n 0, 1) := by decide +kernel
theorem dX8_wasUnsaid_1 : decode cX8_wasUnsaid 1 = .ok (.getfield 19, 3) := by decide +kernel
theorem dX8_wasUnsaid_4 : decode cX8_wasUnsaid 4 = .ok (.iload_n 1, 1) := by decide +kernel
theorem dX8_wasUnsaid_5 : decode cX8_wasUnsaid 5 = .ok (.invokevirtual 234, 3) := by decide +kernel
theorem dX8_wasUnsaid_8 : decode cX8_wasUnsaid 8 = .ok (.ifCond .ne 6, 3) := by decide +kernel
theorem dX8_wasUnsaid_11 : decode cX8_wasUnsaid 11 = .ok (.ldc 146, 2) := by decide +kernel
theorem dX8_wasUnsaid_13 : decode cX8_wasUnsaid 13 = .ok (.ireturn, 1) := by decide +kernel
theorem dX8_wasUnsaid_14 : decode cX8_wasUnsaid 14 = .ok (.iload_n 2, 1) := by decide +kernel
theorem dX8_wasUnsaid_15 : decode cX8_wasUnsaid 15 = .ok (.ifCond .lt 19, 3) := by decide +kernel
theorem dX8_wasUnsaid_18 : decode cX8_wasUnsaid 18 = .ok (.iload_n 2, 1) := by decide +kernel
theorem dX8_wasUnsaid_19 : decode cX8_wasUnsaid 19 = .ok (.sipush 200, 3) := by decide +kernel
theorem dX8_wasUnsaid_22 : decode cX8_wasUnsaid 22 = .ok (.if_icmp .gt 12, 3) := by decide +kernel
theorem dX8_wasUnsaid_25 : decode cX8_wasUnsaid 25 = .ok (.iload_n 3, 1) := by decide +kernel
theorem dX8_wasUnsaid_26 : decode cX8_wasUnsaid 26 = .ok (.ifCond .lt 8, 3) := by decide +kernel
theorem dX8_wasUnsaid_29 : decode cX8_wasUnsaid 29 = .ok (.iload_n 3, 1) := by decide +kernel
theorem dX8_wasUnsaid_30 : decode cX8_wasUnsaid 30 = .ok (.iconst 2, 1) := by decide +kernel
theorem dX8_wasUnsaid_31 : decode cX8_wasUnsaid 31 = .ok (.if_icmp .le 6, 3) := by decide +kernel
theorem dX8_wasUnsaid_34 : decode cX8_wasUnsaid 34 = .ok (.ldc 71, 2) := by decide +kernel
theorem dX8_wasUnsaid_36 : decode cX8_wasUnsaid 36 = .ok (.ireturn, 1) := by decide +kernel
theorem dX8_wasUnsaid_37 : decode cX8_wasUnsaid 37 = .ok (.aload_n 0, 1) := by decide +kernel
theorem dX8_wasUnsaid_38 : decode cX8_wasUnsaid 38 = .ok (.getfield 67, 3) := by decide +kernel
theorem dX8_wasUnsaid_41 : decode cX8_wasUnsaid 41 = .ok (.aload_n 0, 1) := by decide +kernel
theorem dX8_wasUnsaid_42 : decode cX8_wasUnsaid 42 = .ok (.getfield 19, 3) := by decide +kernel
theorem dX8_wasUnsaid_45 : decode cX8_wasUnsaid 45 = .ok (.iload_n 1, 1) := by decide +kernel
theorem dX8_wasUnsaid_46 : decode cX8_wasUnsaid 46 = .ok (.iload_n 2, 1) := by decide +kernel
theorem dX8_wasUnsaid_47 : decode cX8_wasUnsaid 47 = .ok (.invokevirtual 256, 3) := by decide +kernel
theorem dX8_wasUnsaid_50 : decode cX8_wasUnsaid 50 = .ok (.iload_n 3, 1) := by decide +kernel
theorem dX8_wasUnsaid_51 : decode cX8_wasUnsaid 51 = .ok (.lookupswitch 55 #[(0, 25), (1, 33)], 25) := by decide +kernel
theorem dX8_wasUnsaid_76 : decode cX8_wasUnsaid 76 = .ok (.aload_n 0, 1) := by decide +kernel
theorem dX8_wasUnsaid_77 : decode cX8_wasUnsaid 77 = .ok (.getfield 67, 3) := by decide +kernel
theorem dX8_wasUnsaid_80 : decode cX8_wasUnsaid 80 = .ok (.getfield 260, 3) := by decide +kernel
theorem dX8_wasUnsaid_83 : decode cX8_wasUnsaid 83 = .ok (.ireturn, 1) := by decide +kernel
theorem dX8_wasUnsaid_84 : decode cX8_wasUnsaid 84 = .ok (.aload_n 0, 1) := by decide +kernel
theorem dX8_wasUnsaid_85 : decode cX8_wasUnsaid 85 = .ok (.getfield 67, 3) := by decide +kernel
theorem dX8_wasUnsaid_88 : decode cX8_wasUnsaid 88 = .ok (.getfield 260, 3) := by decide +kernel
theorem dX8_wasUnsaid_91 : decode cX8_wasUnsaid 91 = .ok (.ifCond .ne 7, 3) := by decide +kernel
theorem dX8_wasUnsaid_94 : decode cX8_wasUnsaid 94 = .ok (.iconst (-1), 1) := by decide +kernel
theorem dX8_wasUnsaid_95 : decode cX8_wasUnsaid 95 = .ok (.goto 10, 3) := by decide +kernel
theorem dX8_wasUnsaid_98 : decode cX8_wasUnsaid 98 = .ok (.aload_n 0, 1) := by decide +kernel
theorem dX8_wasUnsaid_99 : decode cX8_wasUnsaid 99 = .ok (.getfield 67, 3) := by decide +kernel
theorem dX8_wasUnsaid_102 : decode cX8_wasUnsaid 102 = .ok (.getfield 261, 3) := by decide +kernel
theorem dX8_wasUnsaid_105 : decode cX8_wasUnsaid 105 = .ok (.ireturn, 1) := by decide +kernel
theorem dX8_wasUnsaid_106 : decode cX8_wasUnsaid 106 = .ok (.aload_n 0, 1) := by decide +kernel
theorem dX8_wasUnsaid_107 : decode cX8_wasUnsaid 107 = .ok (.getfield 67, 3) := by decide +kernel
theorem dX8_wasUnsaid_110 : decode cX8_wasUnsaid 110 = .ok (.aload_n 0, 1) := by decide +kernel
theorem dX8_wasUnsaid_111 : decode cX8_wasUnsaid 111 = .ok (.getfield 19, 3) := by decide +kernel
theorem dX8_wasUnsaid_114 : decode cX8_wasUnsaid 114 = .ok (.getfield 96, 3) := by decide +kernel
theorem dX8_wasUnsaid_117 : decode cX8_wasUnsaid 117 = .ok (.invokevirtual 264, 3) := by decide +kernel
theorem dX8_wasUnsaid_120 : decode cX8_wasUnsaid 120 = .ok (.ireturn, 1) := by decide +kernel
theorem dX8_drought_0 : decode cX8_drought 0 = .ok (.iload_n 1, 1) := by decide +kernel
theorem dX8_drought_1 : decode cX8_drought 1 = .ok (.ifCond .lt 9, 3) := by decide +kernel
theorem dX8_drought_4 : decode cX8_drought 4 = .ok (.iload_n 1, 1) := by decide +kernel
theorem dX8_drought_5 : decode cX8_drought 5 = .ok (.bipush 99, 2) := by decide +kernel
theorem dX8_drought_7 : decode cX8_drought 7 = .ok (.if_icmp .le 6, 3) := by decide +kernel
theorem dX8_drought_10 : decode cX8_drought 10 = .ok (.ldc 71, 2) := by decide +kernel
theorem dX8_drought_12 : decode cX8_drought 12 = .ok (.ireturn, 1) := by decide +kernel
theorem dX8_drought_13 : decode cX8_drought 13 = .ok (.aload_n 0, 1) := by decide +kernel
theorem dX8_drought_14 : decode cX8_drought 14 = .ok (.getfield 19, 3) := by decide +kernel
theorem dX8_drought_17 : decode cX8_drought 17 = .ok (.getfield 216, 3) := by decide +kernel
theorem dX8_drought_20 : decode cX8_drought 20 = .ok (.ifCond .ne 6, 3) := by decide +kernel
theorem dX8_drought_23 : decode cX8_drought 23 = .ok (.ldc 198, 2) := by decide +kernel
theorem dX8_drought_25 : decode cX8_drought 25 = .ok (.ireturn, 1) := by decide +kernel
theorem dX8_drought_26 : decode cX8_drought 26 = .ok (.iconst 0, 1) := by decide +kernel
theorem dX8_drought_27 : decode cX8_drought 27 = .ok (.istore_n 2, 1) := by decide +kernel
theorem dX8_drought_28 : decode cX8_drought 28 = .ok (.iload_n 2, 1) := by decide +kernel
theorem dX8_drought_29 : decode cX8_drought 29 = .ok (.bipush 99, 2) := by decide +kernel
theorem dX8_drought_31 : decode cX8_drought 31 = .ok (.if_icmp .gt 32, 3) := by decide +kernel
theorem dX8_drought_34 : decode cX8_drought 34 = .ok (.aload_n 0, 1) := by decide +kernel
theorem dX8_drought_35 : decode cX8_drought 35 = .ok (.getfield 29, 3) := by decide +kernel
theorem dX8_drought_38 : decode cX8_drought 38 = .ok (.getfield 111, 3) := by decide +kernel
theorem dX8_drought_41 : decode cX8_drought 41 = .ok (.iload_n 2, 1) := by decide +kernel
theorem dX8_drought_42 : decode cX8_drought 42 = .ok (.aload_n 0, 1) := by decide +kernel
theorem dX8_drought_43 : decode cX8_drought 43 = .ok (.getfield 19, 3) := by decide +kernel
theorem dX8_drought_46 : decode cX8_drought 46 = .ok (.getfield 140, 3) := by decide +kernel
theorem dX8_drought_49 : decode cX8_drought 49 = .ok (.imul, 1) := by decide +kernel
theorem dX8_drought_50 : decode cX8_drought 50 = .ok (.iadd, 1) := by decide +kernel
theorem dX8_drought_51 : decode cX8_drought 51 = .ok (.iload_n 1, 1) := by decide +kernel
theorem dX8_drought_52 : decode cX8_drought 52 = .ok (.if_icmp .lt 5, 3) := by decide +kernel
theorem dX8_drought_55 : decode cX8_drought 55 = .ok (.iload_n 2, 1) := by decide +kernel
theorem dX8_drought_56 : decode cX8_drought 56 = .ok (.ireturn, 1) := by decide +kernel
theorem dX8_drought_57 : decode cX8_drought 57 = .ok (.iinc 2 1, 3) := by decide +kernel
theorem dX8_drought_60 : decode cX8_drought 60 = .ok (.goto (-32), 3) := by decide +kernel
theorem dX8_drought_63 : decode cX8_drought 63 = .ok (.iconst (-1), 1) := by decide +kernel
theorem dX8_drought_64 : decode cX8_drought 64 = .ok (.ireturn, 1) := by decide +kernel
theorem dX8_rainy_0 : decode cX8_rainy 0 = .ok (.iload_n 1, 1) := by decide +kernel
theorem dX8_rainy_1 : decode cX8_rainy 1 = .ok (.ifCond .lt 19, 3) := by decide +kernel
theorem dX8_rainy_4 : decode cX8_rainy 4 = .ok (.iload_n 1, 1) := by decide +kernel
theorem dX8_rainy_5 : decode cX8_rainy 5 = .ok (.bipush 60, 2) := by decide +kernel
theorem dX8_rainy_7 : decode cX8_rainy 7 = .ok (.if_icmp .gt 13, 3) := by decide +kernel
theorem dX8_rainy_10 : decode cX8_rainy 10 = .ok (.iload_n 2, 1) := by decide +kernel
theorem dX8_rainy_11 : decode cX8_rainy 11 = .ok (.ifCond .lt 9, 3) := by decide +kernel
theorem dX8_rainy_14 : decode cX8_rainy 14 = .ok (.iload_n 2, 1) := by decide +kernel
theorem dX8_rainy_15 : decode cX8_rainy 15 = .ok (.bipush 100, 2) := by decide +kernel
theorem dX8_rainy_17 : decode cX8_rainy 17 = .ok (.if_icmp .le 6, 3) := by decide +kernel
theorem dX8_rainy_20 : decode cX8_rainy 20 = .ok (.ldc 71, 2) := by decide +kernel
theorem dX8_rainy_22 : decode cX8_rainy 22 = .ok (.ireturn, 1) := by decide +kernel
theorem dX8_rainy_23 : decode cX8_rainy 23 = .ok (.ldc2_w 267, 3) := by decide +kernel
theorem dX8_rainy_26 : decode cX8_rainy 26 = .ok (.lstore_n 3, 1) := by decide +kernel
theorem dX8_rainy_27 : decode cX8_rainy 27 = .ok (.iconst 0, 1) := by decide +kernel
theorem dX8_rainy_28 : decode cX8_rainy 28 = .ok (.istore 5, 2) := by decide +kernel
theorem dX8_rainy_30 : decode cX8_rainy 30 = .ok (.iload 5, 2) := by decide +kernel
theorem dX8_rainy_32 : decode cX8_rainy 32 = .ok (.iload_n 1, 1) := by decide +kernel
theorem dX8_rainy_33 : decode cX8_rainy 33 = .ok (.if_icmp .ge 18, 3) := by decide +kernel
theorem dX8_rainy_36 : decode cX8_rainy 36 = .ok (.lload_n 3, 1) := by decide +kernel
theorem dX8_rainy_37 : decode cX8_rainy 37 = .ok (.iload_n 2, 1) := by decide +kernel
theorem dX8_rainy_38 : decode cX8_rainy 38 = .ok (.i2l, 1) := by decide +kernel
theorem dX8_rainy_39 : decode cX8_rainy 39 = .ok (.lmul, 1) := by decide +kernel
theorem dX8_rainy_40 : decode cX8_rainy 40 = .ok (.ldc2_w 269, 3) := by decide +kernel
theorem dX8_rainy_43 : decode cX8_rainy 43 = .ok (.ldiv, 1) := by decide +kernel
theorem dX8_rainy_44 : decode cX8_rainy 44 = .ok (.lstore_n 3, 1) := by decide +kernel
theorem dX8_rainy_45 : decode cX8_rainy 45 = .ok (.iinc 5 1, 3) := by decide +kernel
theorem dX8_rainy_48 : decode cX8_rainy 48 = .ok (.goto (-18), 3) := by decide +kernel
theorem dX8_rainy_51 : decode cX8_rainy 51 = .ok (.lload_n 3, 1) := by decide +kernel
theorem dX8_rainy_52 : decode cX8_rainy 52 = .ok (.l2i, 1) := by decide +kernel
theorem dX8_rainy_53 : decode cX8_rainy 53 = .ok (.ireturn, 1) := by decide +kernel
set_option maxRecDepth 20000 in
theorem ggX8_write_X7_hasSaying : GoodIn wsX8_write wsX7_hasSaying := goodIn_r _ [10, 11, 33, 34, 35, 36, 37, 38, 39, 40, 41, 42, 43, 44] (by decide +kernel) (by decide +kernel)
set_option maxRecDepth 20000 in
theorem gX8_write_X7_hasSaying : GoodIn wsX8_write (wsV RX8 143 RX7 yX7_hasSaying wsX7_hasSaying) := goodIn_app (goodIn_of _ (by decide +kernel)) ggX8_write_X7_hasSaying
set_option maxRecDepth 20000 in
theorem ggX8_write_X0_add : GoodIn wsX8_write wsX0_add := goodIn_r _ [16, 17, 18, 19, 30, 31, 32] (by decide +kernel) (by decide +kernel)
set_option maxRecDepth 20000 in
theorem gX8_write_X0_add : GoodIn wsX8_write (wsV RX8 271 RX0 yX0_add wsX0_add) := goodIn_app (goodIn_of _ (by decide +kernel)) ggX8_write_X0_add
theorem dX8_write_0 : decode cX8_write 0 = .ok (.aload_n 0, 1) := by decide +kernel
theorem dX8_write_1 : decode cX8_write 1 = .ok (.getfield 19, 3) := by decide +kernel
theorem dX8_write_4 : decode cX8_write 4 = .ok (.iload_n 1, 1) := by decide +kernel
theorem dX8_write_5 : decode cX8_write 5 = .ok (.invokevirtual 143, 3) := by decide +kernel
theorem dX8_write_8 : decode cX8_write 8 = .ok (.ifCond .ne 6, 3) := by decide +kernel
theorem dX8_write_11 : decode cX8_write 11 = .ok (.ldc 146, 2) := by decide +kernel
theorem dX8_write_13 : decode cX8_write 13 = .ok (.ireturn, 1) := by decide +kernel
theorem dX8_write_14 : decode cX8_write 14 = .ok (.aload_n 0, 1) := by decide +kernel
theorem dX8_write_15 : decode cX8_write 15 = .ok (.getfield 46, 3) := by decide +kernel
theorem dX8_write_18 : decode cX8_write 18 = .ok (.iload_n 1, 1) := by decide +kernel
theorem dX8_write_19 : decode cX8_write 19 = .ok (.iload_n 2, 1) := by decide +kernel
theorem dX8_write_20 : decode cX8_write 20 = .ok (.invokevirtual 271, 3) := by decide +kernel
theorem dX8_write_23 : decode cX8_write 23 = .ok (.ifCond .eq 13, 3) := by decide +kernel
theorem dX8_write_26 : decode cX8_write 26 = .ok (.aload_n 0, 1) := by decide +kernel
theorem dX8_write_27 : decode cX8_write 27 = .ok (.getfield 46, 3) := by decide +kernel
theorem dX8_write_30 : decode cX8_write 30 = .ok (.getfield 92, 3) := by decide +kernel
theorem dX8_write_33 : decode cX8_write 33 = .ok (.goto 5, 3) := by decide +kernel
theorem dX8_write_36 : decode cX8_write 36 = .ok (.ldc 80, 2) := by decide +kernel
theorem dX8_write_38 : decode cX8_write 38 = .ok (.ireturn, 1) := by decide +kernel
theorem dX8_tear_0 : decode cX8_tear 0 = .ok (.aload_n 0, 1) := by decide +kernel
theorem dX8_tear_1 : decode cX8_tear 1 = .ok (.getfield 46, 3) := by decide +kernel
theorem dX8_tear_4 : decode cX8_tear 4 = .ok (.getfield 92, 3) := by decide +kernel
theorem dX8_tear_7 : decode cX8_tear 7 = .ok (.istore_n 1, 1) := by decide +kernel
theorem dX8_tear_8 : decode cX8_tear 8 = .ok (.aload_n 0, 1) := by decide +kernel
theorem dX8_tear_9 : decode cX8_tear 9 = .ok (.getfield 46, 3) := by decide +kernel
theorem dX8_tear_12 : decode cX8_tear 12 = .ok (.iconst 0, 1) := by decide +kernel
theorem dX8_tear_13 : decode cX8_tear 13 = .ok (.putfield 92, 3) := by decide +kernel
theorem dX8_tear_16 : decode cX8_tear 16 = .ok (.iload_n 1, 1) := by decide +kernel
theorem dX8_tear_17 : decode cX8_tear 17 = .ok (.ireturn, 1) := by decide +kernel
set_option maxRecDepth 20000 in
theorem ggX8_judge_X7_holding : GoodIn wsX8_judge wsX7_holding := goodIn_r _ [9, 10, 11, 12, 13, 8, 14, 44, 45, 46, 47, 48, 49, 50, 51, 52, 53, 54, 55] (by decide +kernel) (by decide +kernel)
set_option maxRecDepth 20000 in
theorem gX8_judge_X7_holding : GoodIn wsX8_judge (wsV RX8 120 RX7 yX7_holding wsX7_holding) := goodIn_app (goodIn_of _ (by decide +kernel)) ggX8_judge_X7_holding
set_option maxRecDepth 20000 in
theorem ggX8_judge_X0_firstWrong : GoodIn wsX8_judge wsX0_firstWrong := goodIn_r _ [19, 20, 21, 22, 23, 13, 8, 14, 56, 57, 58] (by decide +kernel) (by decide +kernel)
set_option maxRecDepth 20000 in
theorem gX8_judge_X0_firstWrong : GoodIn wsX8_judge (wsV RX8 274 RX0 yX0_firstWrong wsX0_firstWrong) := goodIn_app (goodIn_of _ (by decide +kernel)) ggX8_judge_X0_firstWrong
theorem dX8_judge_0 : decode cX8_judge 0 = .ok (.aload_n 0, 1) := by decide +kernel
theorem dX8_judge_1 : decode cX8_judge 1 = .ok (.getfield 46, 3) := by decide +kernel
theorem dX8_judge_4 : decode cX8_judge 4 = .ok (.aload_n 0, 1) := by decide +kernel
theorem dX8_judge_5 : decode cX8_judge 5 = .ok (.getfield 19, 3) := by decide +kernel
theorem dX8_judge_8 : decode cX8_judge 8 = .ok (.aload_n 0, 1) := by decide +kernel
theorem dX8_judge_9 : decode cX8_judge 9 = .ok (.getfield 29, 3) := by decide +kernel
theorem dX8_judge_12 : decode cX8_judge 12 = .ok (.getfield 117, 3) := by decide +kernel
theorem dX8_judge_15 : decode cX8_judge 15 = .ok (.invokevirtual 120, 3) := by decide +kernel
theorem dX8_judge_18 : decode cX8_judge 18 = .ok (.invokevirtual 274, 3) := by decide +kernel
theorem dX8_judge_21 : decode cX8_judge 21 = .ok (.ireturn, 1) := by decide +kernel
theorem dX8_seed_0 : decode cX8_seed 0 = .ok (.iload_n 1, 1) := by decide +kernel
theorem dX8_seed_1 : decode cX8_seed 1 = .ok (.ifCond .ge 6, 3) := by decide +kernel
theorem dX8_seed_4 : decode cX8_seed 4 = .ok (.ldc 71, 2) := by decide +kernel
theorem dX8_seed_6 : decode cX8_seed 6 = .ok (.ireturn, 1) := by decide +kernel
theorem dX8_seed_7 : decode cX8_seed 7 = .ok (.aload_n 0, 1) := by decide +kernel
theorem dX8_seed_8 : decode cX8_seed 8 = .ok (.getfield 53, 3) := by decide +kernel
theorem dX8_seed_11 : decode cX8_seed 11 = .ok (.getfield 277, 3) := by decide +kernel
theorem dX8_seed_14 : decode cX8_seed 14 = .ok (.istore_n 2, 1) := by decide +kernel
theorem dX8_seed_15 : decode cX8_seed 15 = .ok (.aload_n 0, 1) := by decide +kernel
theorem dX8_seed_16 : decode cX8_seed 16 = .ok (.getfield 53, 3) := by decide +kernel
theorem dX8_seed_19 : decode cX8_seed 19 = .ok (.iload_n 1, 1) := by decide +kernel
theorem dX8_seed_20 : decode cX8_seed 20 = .ok (.putfield 277, 3) := by decide +kernel
theorem dX8_seed_23 : decode cX8_seed 23 = .ok (.iload_n 2, 1) := by decide +kernel
theorem dX8_seed_24 : decode cX8_seed 24 = .ok (.ireturn, 1) := by decide +kernel
set_option maxRecDepth 20000 in
theorem ggX8_keep_X2_take : GoodIn wsX8_keep wsX2_take := goodIn_r _ [10, 11, 12, 13, 14, 15, 16, 17, 18, 19, 20, 21, 22, 23, 24, 25, 26, 27, 28, 29, 30, 31, 32, 33, 50, 51, 52, 53, 54, 55, 56, 57, 58, 59, 60, 61, 62, 63] (by decide +kernel) (by decide +kernel)
set_option maxRecDepth 20000 in
theorem gX8_keep_X2_take : GoodIn wsX8_keep (wsV RX8 280 RX2 yX2_take wsX2_take) := goodIn_app (goodIn_of _ (by decide +kernel)) ggX8_keep_X2_take
set_option maxRecDepth 20000 in
theorem ggX8_keep_X3_forget : GoodIn wsX8_keep wsX3_forget := goodIn_r _ [38, 39, 64, 65, 66] (by decide +kernel) (by decide +kernel)
set_option maxRecDepth 20000 in
theorem gX8_keep_X3_forget : GoodIn wsX8_keep (wsV RX8 89 RX3 yX3_forget wsX3_forget) := goodIn_app (goodIn_of _ (by decide +kernel)) ggX8_keep_X3_forget
theorem dX8_keep_0 : decode cX8_keep 0 = .ok (.iload_n 1, 1) := by decide +kernel
theorem dX8_keep_1 : decode cX8_keep 1 = .ok (.ifCond .lt 8, 3) := by decide +kernel
theorem dX8_keep_4 : decode cX8_keep 4 = .ok (.iload_n 1, 1) := by decide +kernel
theorem dX8_keep_5 : decode cX8_keep 5 = .ok (.iconst 2, 1) := by decide +kernel
theorem dX8_keep_6 : decode cX8_keep 6 = .ok (.if_icmp .lt 6, 3) := by decide +kernel
theorem dX8_keep_9 : decode cX8_keep 9 = .ok (.ldc 146, 2) := by decide +kernel
theorem dX8_keep_11 : decode cX8_keep 11 = .ok (.ireturn, 1) := by decide +kernel
theorem dX8_keep_12 : decode cX8_keep 12 = .ok (.aload_n 0, 1) := by decide +kernel
theorem dX8_keep_13 : decode cX8_keep 13 = .ok (.getfield 60, 3) := by decide +kernel
theorem dX8_keep_16 : decode cX8_keep 16 = .ok (.iload_n 1, 1) := by decide +kernel
theorem dX8_keep_17 : decode cX8_keep 17 = .ok (.aload_n 0, 1) := by decide +kernel
theorem dX8_keep_18 : decode cX8_keep 18 = .ok (.getfield 29, 3) := by decide +kernel
theorem dX8_keep_21 : decode cX8_keep 21 = .ok (.aload_n 0, 1) := by decide +kernel
theorem dX8_keep_22 : decode cX8_keep 22 = .ok (.getfield 53, 3) := by decide +kernel
theorem dX8_keep_25 : decode cX8_keep 25 = .ok (.invokevirtual 280, 3) := by decide +kernel
theorem dX8_keep_28 : decode cX8_keep 28 = .ok (.aload_n 0, 1) := by decide +kernel
theorem dX8_keep_29 : decode cX8_keep 29 = .ok (.getfield 39, 3) := by decide +kernel
theorem dX8_keep_32 : decode cX8_keep 32 = .ok (.invokevirtual 89, 3) := by decide +kernel
theorem dX8_keep_35 : decode cX8_keep 35 = .ok (.iconst 1, 1) := by decide +kernel
theorem dX8_keep_36 : decode cX8_keep 36 = .ok (.ireturn, 1) := by decide +kernel
set_option maxRecDepth 20000 in
theorem ggX8_goBack_X2_isKept : GoodIn wsX8_goBack wsX2_isKept := goodIn_r _ [11, 12, 13, 56, 57, 58] (by decide +kernel) (by decide +kernel)
set_option maxRecDepth 20000 in
theorem gX8_goBack_X2_isKept : GoodIn wsX8_goBack (wsV RX8 284 RX2 yX2_isKept wsX2_isKept) := goodIn_app (goodIn_of _ (by decide +kernel)) ggX8_goBack_X2_isKept
set_option maxRecDepth 20000 in
theorem ggX8_goBack_X2_giveBack : GoodIn wsX8_goBack wsX2_giveBack := goodIn_r _ [17, 12, 18, 19, 20, 8, 9, 10, 11, 13, 21, 22, 23, 24, 25, 26, 27, 28, 29, 30, 31, 32, 33, 34, 35, 36, 37, 38, 39, 56, 57, 58, 59, 60, 61, 62, 63, 64, 65, 66, 67, 68, 69] (by decide +kernel) (by decide +kernel)
set_option maxRecDepth 20000 in
theorem gX8_goBack_X2_giveBack : GoodIn wsX8_goBack (wsV RX8 287 RX2 yX2_giveBack wsX2_giveBack) := goodIn_app (goodIn_of _ (by decide +kernel)) ggX8_goBack_X2_giveBack
set_option maxRecDepth 20000 in
theorem ggX8_goBack_X3_forget : GoodIn wsX8_goBack wsX3_forget := goodIn_r _ [44, 45, 70, 71, 72] (by decide +kernel) (by decide +kernel)
set_option maxRecDepth 20000 in
theorem gX8_goBack_X3_forget : GoodIn wsX8_goBack (wsV RX8 89 RX3 yX3_forget wsX3_forget) := goodIn_app (goodIn_of _ (by decide +kernel)) ggX8_goBack_X3_forget
theorem dX8_goBack_0 : decode cX8_goBack 0 = .ok (.iload_n 1, 1) := by decide +kernel
theorem dX8_goBack_1 : decode cX8_goBack 1 = .ok (.ifCond .lt 8, 3) := by decide +kernel
theorem dX8_goBack_4 : decode cX8_goBack 4 = .ok (.iload_n 1, 1) := by decide +kernel
theorem dX8_goBack_5 : decode cX8_goBack 5 = .ok (.iconst 2, 1) := by decide +kernel
theorem dX8_goBack_6 : decode cX8_goBack 6 = .ok (.if_icmp .lt 6, 3) := by decide +kernel
theorem dX8_goBack_9 : decode cX8_goBack 9 = .ok (.ldc 146, 2) := by decide +kernel
theorem dX8_goBack_11 : decode cX8_goBack 11 = .ok (.ireturn, 1) := by decide +kernel
theorem dX8_goBack_12 : decode cX8_goBack 12 = .ok (.aload_n 0, 1) := by decide +kernel
theorem dX8_goBack_13 : decode cX8_goBack 13 = .ok (.getfield 60, 3) := by decide +kernel
theorem dX8_goBack_16 : decode cX8_goBack 16 = .ok (.iload_n 1, 1) := by decide +kernel
theorem dX8_goBack_17 : decode cX8_goBack 17 = .ok (.invokevirtual 284, 3) := by decide +kernel
theorem dX8_goBack_20 : decode cX8_goBack 20 = .ok (.ifCond .ne 6, 3) := by decide +kernel
theorem dX8_goBack_23 : decode cX8_goBack 23 = .ok (.ldc 198, 2) := by decide +kernel
theorem dX8_goBack_25 : decode cX8_goBack 25 = .ok (.ireturn, 1) := by decide +kernel
theorem dX8_goBack_26 : decode cX8_goBack 26 = .ok (.aload_n 0, 1) := by decide +kernel
theorem dX8_goBack_27 : decode cX8_goBack 27 = .ok (.getfield 60, 3) := by decide +kernel
theorem dX8_goBack_30 : decode cX8_goBack 30 = .ok (.iload_n 1, 1) := by decide +kernel
theorem dX8_goBack_31 : decode cX8_goBack 31 = .ok (.aload_n 0, 1) := by decide +kernel
theorem dX8_goBack_32 : decode cX8_goBack 32 = .ok (.getfield 29, 3) := by decide +kernel
theorem dX8_goBack_35 : decode cX8_goBack 35 = .ok (.aload_n 0, 1) := by decide +kernel
theorem dX8_goBack_36 : decode cX8_goBack 36 = .ok (.getfield 53, 3) := by decide +kernel
theorem dX8_goBack_39 : decode cX8_goBack 39 = .ok (.invokevirtual 287, 3) := by decide +kernel
theorem dX8_goBack_42 : decode cX8_goBack 42 = .ok (.aload_n 0, 1) := by decide +kernel
theorem dX8_goBack_43 : decode cX8_goBack 43 = .ok (.getfield 39, 3) := by decide +kernel
theorem dX8_goBack_46 : decode cX8_goBack 46 = .ok (.invokevirtual 89, 3) := by decide +kernel
theorem dX8_goBack_49 : decode cX8_goBack 49 = .ok (.iconst 1, 1) := by decide +kernel
theorem dX8_goBack_50 : decode cX8_goBack 50 = .ok (.ireturn, 1) := by decide +kernel
theorem dX8_refusalOfNights_0 : decode cX8_refusalOfNights 0 = .ok (.iload_n 1, 1) := by decide +kernel
theorem dX8_refusalOfNights_1 : decode cX8_refusalOfNights 1 = .ok (.iconst 1, 1) := by decide +kernel
theorem dX8_refusalOfNights_2 : decode cX8_refusalOfNights 2 = .ok (.if_icmp .lt 9, 3) := by decide +kernel
theorem dX8_refusalOfNights_5 : decode cX8_refusalOfNights 5 = .ok (.iload_n 1, 1) := by decide +kernel
theorem dX8_refusalOfNights_6 : decode cX8_refusalOfNights 6 = .ok (.bipush 60, 2) := by decide +kernel
theorem dX8_refusalOfNights_8 : decode cX8_refusalOfNights 8 = .ok (.if_icmp .le 6, 3) := by decide +kernel
theorem dX8_refusalOfNights_11 : decode cX8_refusalOfNights 11 = .ok (.ldc 71, 2) := by decide +kernel
theorem dX8_refusalOfNights_13 : decode cX8_refusalOfNights 13 = .ok (.ireturn, 1) := by decide +kernel
theorem dX8_refusalOfNights_14 : decode cX8_refusalOfNights 14 = .ok (.aload_n 0, 1) := by decide +kernel
theorem dX8_refusalOfNights_15 : decode cX8_refusalOfNights 15 = .ok (.getfield 19, 3) := by decide +kernel
theorem dX8_refusalOfNights_18 : decode cX8_refusalOfNights 18 = .ok (.getfield 216, 3) := by decide +kernel
theorem dX8_refusalOfNights_21 : decode cX8_refusalOfNights 21 = .ok (.ifCond .ne 6, 3) := by decide +kernel
theorem dX8_refusalOfNights_24 : decode cX8_refusalOfNights 24 = .ok (.ldc 198, 2) := by decide +kernel
theorem dX8_refusalOfNights_26 : decode cX8_refusalOfNights 26 = .ok (.ireturn, 1) := by decide +kernel
theorem dX8_refusalOfNights_27 : decode cX8_refusalOfNights 27 = .ok (.aload_n 0, 1) := by decide +kernel
theorem dX8_refusalOfNights_28 : decode cX8_refusalOfNights 28 = .ok (.getfield 29, 3) := by decide +kernel
theorem dX8_refusalOfNights_31 : decode cX8_refusalOfNights 31 = .ok (.getfield 108, 3) := by decide +kernel
theorem dX8_refusalOfNights_34 : decode cX8_refusalOfNights 34 = .ok (.sipush 9000, 3) := by decide +kernel
theorem dX8_refusalOfNights_37 : decode cX8_refusalOfNights 37 = .ok (.if_icmp .le 8, 3) := by decide +kernel
theorem dX8_refusalOfNights_40 : decode cX8_refusalOfNights 40 = .ok (.ldc 80, 2) := by decide +kernel
theorem dX8_refusalOfNights_42 : decode cX8_refusalOfNights 42 = .ok (.goto 4, 3) := by decide +kernel
theorem dX8_refusalOfNights_45 : decode cX8_refusalOfNights 45 = .ok (.iconst 0, 1) := by decide +kernel
theorem dX8_refusalOfNights_46 : decode cX8_refusalOfNights 46 = .ok (.ireturn, 1) := by decide +kernel
