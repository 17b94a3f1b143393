theorem dX9_init_0 : decode cX9_init 0 = .ok (.aload_n 0, 1) := by decide +kernel
theorem dX9_init_1 : decode cX9_init 1 = .ok (.invokespecial 1, 3) := by decide +kernel
theorem dX9_init_4 : decode cX9_init 4 = .ok (.aload_n 0, 1) := by decide +kernel
theorem dX9_init_5 : decode cX9_init 5 = .ok (.iconst 5, 1) := by decide +kernel
theorem dX9_init_6 : decode cX9_init 6 = .ok (.newarray .int, 2) := by decide +kernel
theorem dX9_init_8 : decode cX9_init 8 = .ok (.putfield 7, 3) := by decide +kernel
theorem dX9_init_11 : decode cX9_init 11 = .ok (.aload_n 0, 1) := by decide +kernel
theorem dX9_init_12 : decode cX9_init 12 = .ok (.bipush 10, 2) := by decide +kernel
theorem dX9_init_14 : decode cX9_init 14 = .ok (.newarray .int, 2) := by decide +kernel
theorem dX9_init_16 : decode cX9_init 16 = .ok (.putfield 13, 3) := by decide +kernel
theorem dX9_init_19 : decode cX9_init 19 = .ok (.aload_n 0, 1) := by decide +kernel
theorem dX9_init_20 : decode cX9_init 20 = .ok (.bipush 10, 2) := by decide +kernel
theorem dX9_init_22 : decode cX9_init 22 = .ok (.newarray .int, 2) := by decide +kernel
theorem dX9_init_24 : decode cX9_init 24 = .ok (.putfield 16, 3) := by decide +kernel
theorem dX9_init_27 : decode cX9_init 27 = .ok (.aload_n 0, 1) := by decide +kernel
theorem dX9_init_28 : decode cX9_init 28 = .ok (.bipush 10, 2) := by decide +kernel
theorem dX9_init_30 : decode cX9_init 30 = .ok (.newarray .int, 2) := by decide +kernel
theorem dX9_init_32 : decode cX9_init 32 = .ok (.putfield 19, 3) := by decide +kernel
theorem dX9_init_35 : decode cX9_init 35 = .ok (.aload_n 0, 1) := by decide +kernel
theorem dX9_init_36 : decode cX9_init 36 = .ok (.bipush 10, 2) := by decide +kernel
theorem dX9_init_38 : decode cX9_init 38 = .ok (.newarray .int, 2) := by decide +kernel
theorem dX9_init_40 : decode cX9_init 40 = .ok (.putfield 22, 3) := by decide +kernel
theorem dX9_init_43 : decode cX9_init 43 = .ok (.aload_n 0, 1) := by decide +kernel
theorem dX9_init_44 : decode cX9_init 44 = .ok (.bipush 23, 2) := by decide +kernel
theorem dX9_init_46 : decode cX9_init 46 = .ok (.newarray .int, 2) := by decide +kernel
theorem dX9_init_48 : decode cX9_init 48 = .ok (.putfield 25, 3) := by decide +kernel
theorem dX9_init_51 : decode cX9_init 51 = .ok (.aload_n 0, 1) := by decide +kernel
theorem dX9_init_52 : decode cX9_init 52 = .ok (.sipush 240, 3) := by decide +kernel
theorem dX9_init_55 : decode cX9_init 55 = .ok (.newarray .int, 2) := by decide +kernel
theorem dX9_init_57 : decode cX9_init 57 = .ok (.putfield 28, 3) := by decide +kernel
theorem dX9_init_60 : decode cX9_init 60 = .ok (.aload_n 0, 1) := by decide +kernel
theorem dX9_init_61 : decode cX9_init 61 = .ok (.iconst (-1), 1) := by decide +kernel
theorem dX9_init_62 : decode cX9_init 62 = .ok (.putfield 31, 3) := by decide +kernel
theorem dX9_init_65 : decode cX9_init 65 = .ok (.aload_n 0, 1) := by decide +kernel
theorem dX9_init_66 : decode cX9_init 66 = .ok (.iconst 5, 1) := by decide +kernel
theorem dX9_init_67 : decode cX9_init 67 = .ok (.newarray .int, 2) := by decide +kernel
theorem dX9_init_69 : decode cX9_init 69 = .ok (.putfield 35, 3) := by decide +kernel
theorem dX9_init_72 : decode cX9_init 72 = .ok (.aload_n 0, 1) := by decide +kernel
theorem dX9_init_73 : decode cX9_init 73 = .ok (.bipush 10, 2) := by decide +kernel
theorem dX9_init_75 : decode cX9_init 75 = .ok (.newarray .int, 2) := by decide +kernel
theorem dX9_init_77 : decode cX9_init 77 = .ok (.putfield 38, 3) := by decide +kernel
theorem dX9_init_80 : decode cX9_init 80 = .ok (.aload_n 0, 1) := by decide +kernel
theorem dX9_init_81 : decode cX9_init 81 = .ok (.bipush 10, 2) := by decide +kernel
theorem dX9_init_83 : decode cX9_init 83 = .ok (.newarray .int, 2) := by decide +kernel
theorem dX9_init_85 : decode cX9_init 85 = .ok (.putfield 41, 3) := by decide +kernel
theorem dX9_init_88 : decode cX9_init 88 = .ok (.aload_n 0, 1) := by decide +kernel
theorem dX9_init_89 : decode cX9_init 89 = .ok (.bipush 10, 2) := by decide +kernel
theorem dX9_init_91 : decode cX9_init 91 = .ok (.newarray .int, 2) := by decide +kernel
theorem dX9_init_93 : decode cX9_init 93 = .ok (.putfield 44, 3) := by decide +kernel
theorem dX9_init_96 : decode cX9_init 96 = .ok (.aload_n 0, 1) := by decide +kernel
theorem dX9_init_97 : decode cX9_init 97 = .ok (.bipush 10, 2) := by decide +kernel
theorem dX9_init_99 : decode cX9_init 99 = .ok (.newarray .int, 2) := by decide +kernel
theorem dX9_init_101 : decode cX9_init 101 = .ok (.putfield 47, 3) := by decide +kernel
theorem dX9_init_104 : decode cX9_init 104 = .ok (.aload_n 0, 1) := by decide +kernel
theorem dX9_init_105 : decode cX9_init 105 = .ok (.bipush 10, 2) := by decide +kernel
theorem dX9_init_107 : decode cX9_init 107 = .ok (.newarray .int, 2) := by decide +kernel
theorem dX9_init_109 : decode cX9_init 109 = .ok (.putfield 50, 3) := by decide +kernel
theorem dX9_init_112 : decode cX9_init 112 = .ok (.aload_n 0, 1) := by decide +kernel
theorem dX9_init_113 : decode cX9_init 113 = .ok (.sipush 368, 3) := by decide +kernel
theorem dX9_init_116 : decode cX9_init 116 = .ok (.newarray .int, 2) := by decide +kernel
theorem dX9_init_118 : decode cX9_init 118 = .ok (.putfield 53, 3) := by decide +kernel
theorem dX9_init_121 : decode cX9_init 121 = .ok (.aload_n 0, 1) := by decide +kernel
theorem dX9_init_122 : decode cX9_init 122 = .ok (.bipush 15, 2) := by decide +kernel
theorem dX9_init_124 : decode cX9_init 124 = .ok (.newarray .int, 2) := by decide +kernel
theorem dX9_init_126 : decode cX9_init 126 = .ok (.putfield 56, 3) := by decide +kernel
theorem dX9_init_129 : decode cX9_init 129 = .ok (.aload_n 0, 1) := by decide +kernel
theorem dX9_init_130 : decode cX9_init 130 = .ok (.bipush 15, 2) := by decide +kernel
theorem dX9_init_132 : decode cX9_init 132 = .ok (.newarray .boolean, 2) := by decide +kernel
theorem dX9_init_134 : decode cX9_init 134 = .ok (.putfield 59, 3) := by decide +kernel
theorem dX9_init_137 : decode cX9_init 137 = .ok (.aload_n 0, 1) := by decide +kernel
theorem dX9_init_138 : decode cX9_init 138 = .ok (.bipush 48, 2) := by decide +kernel
theorem dX9_init_140 : decode cX9_init 140 = .ok (.newarray .int, 2) := by decide +kernel
theorem dX9_init_142 : decode cX9_init 142 = .ok (.putfield 63, 3) := by decide +kernel
theorem dX9_init_145 : decode cX9_init 145 = .ok (.aload_n 0, 1) := by decide +kernel
theorem dX9_init_146 : decode cX9_init 146 = .ok (.iconst 2, 1) := by decide +kernel
theorem dX9_init_147 : decode cX9_init 147 = .ok (.newarray .boolean, 2) := by decide +kernel
theorem dX9_init_149 : decode cX9_init 149 = .ok (.putfield 66, 3) := by decide +kernel
theorem dX9_init_152 : decode cX9_init 152 = .ok (.aload_n 0, 1) := by decide +kernel
theorem dX9_init_153 : decode cX9_init 153 = .ok (.iconst 0, 1) := by decide +kernel
theorem dX9_init_154 : decode cX9_init 154 = .ok (.putfield 69, 3) := by decide +kernel
theorem dX9_init_157 : decode cX9_init 157 = .ok (.return_, 1) := by decide +kernel
theorem dX9_in_0 : decode cX9_in 0 = .ok (.lload_n 0, 1) := by decide +kernel
theorem dX9_in_1 : decode cX9_in 1 = .ok (.lload_n 2, 1) := by decide +kernel
theorem dX9_in_2 : decode cX9_in 2 = .ok (.lcmp, 1) := by decide +kernel
theorem dX9_in_3 : decode cX9_in 3 = .ok (.ifCond .lt 14, 3) := by decide +kernel
theorem dX9_in_6 : decode cX9_in 6 = .ok (.lload_n 0, 1) := by decide +kernel
theorem dX9_in_7 : decode cX9_in 7 = .ok (.lload 4, 2) := by decide +kernel
theorem dX9_in_9 : decode cX9_in 9 = .ok (.lcmp, 1) := by decide +kernel
theorem dX9_in_10 : decode cX9_in 10 = .ok (.ifCond .gt 7, 3) := by decide +kernel
theorem dX9_in_13 : decode cX9_in 13 = .ok (.iconst 1, 1) := by decide +kernel
theorem dX9_in_14 : decode cX9_in 14 = .ok (.goto 4, 3) := by decide +kernel
theorem dX9_in_17 : decode cX9_in 17 = .ok (.iconst 0, 1) := by decide +kernel
theorem dX9_in_18 : decode cX9_in 18 = .ok (.ireturn, 1) := by decide +kernel
theorem dX9_has_0 : decode cX9_has 0 = .ok (.iload_n 0, 1) := by decide +kernel
theorem dX9_has_1 : decode cX9_has 1 = .ok (.iload_n 1, 1) := by decide +kernel
theorem dX9_has_2 : decode cX9_has 2 = .ok (.ishr, 1) := by decide +kernel
theorem dX9_has_3 : decode cX9_has 3 = .ok (.iconst 1, 1) := by decide +kernel
theorem dX9_has_4 : decode cX9_has 4 = .ok (.iand, 1) := by decide +kernel
theorem dX9_has_5 : decode cX9_has 5 = .ok (.iconst 1, 1) := by decide +kernel
theorem dX9_has_6 : decode cX9_has 6 = .ok (.if_icmp .ne 7, 3) := by decide +kernel
theorem dX9_has_9 : decode cX9_has 9 = .ok (.iconst 1, 1) := by decide +kernel
theorem dX9_has_10 : decode cX9_has 10 = .ok (.goto 4, 3) := by decide +kernel
theorem dX9_has_13 : decode cX9_has 13 = .ok (.iconst 0, 1) := by decide +kernel
theorem dX9_has_14 : decode cX9_has 14 = .ok (.ireturn, 1) := by decide +kernel
theorem dX9_bits_0 : decode cX9_bits 0 = .ok (.iconst 0, 1) := by decide +kernel
theorem dX9_bits_1 : decode cX9_bits 1 = .ok (.istore_n 1, 1) := by decide +kernel
theorem dX9_bits_2 : decode cX9_bits 2 = .ok (.iconst 0, 1) := by decide +kernel
theorem dX9_bits_3 : decode cX9_bits 3 = .ok (.istore_n 2, 1) := by decide +kernel
theorem dX9_bits_4 : decode cX9_bits 4 = .ok (.iload_n 2, 1) := by decide +kernel
theorem dX9_bits_5 : decode cX9_bits 5 = .ok (.bipush 10, 2) := by decide +kernel
theorem dX9_bits_7 : decode cX9_bits 7 = .ok (.if_icmp .ge 17, 3) := by decide +kernel
theorem dX9_bits_10 : decode cX9_bits 10 = .ok (.iload_n 1, 1) := by decide +kernel
theorem dX9_bits_11 : decode cX9_bits 11 = .ok (.iload_n 0, 1) := by decide +kernel
theorem dX9_bits_12 : decode cX9_bits 12 = .ok (.iload_n 2, 1) := by decide +kernel
theorem dX9_bits_13 : decode cX9_bits 13 = .ok (.ishr, 1) := by decide +kernel
theorem dX9_bits_14 : decode cX9_bits 14 = .ok (.iconst 1, 1) := by decide +kernel
theorem dX9_bits_15 : decode cX9_bits 15 = .ok (.iand, 1) := by decide +kernel
theorem dX9_bits_16 : decode cX9_bits 16 = .ok (.iadd, 1) := by decide +kernel
theorem dX9_bits_17 : decode cX9_bits 17 = .ok (.istore_n 1, 1) := by decide +kernel
theorem dX9_bits_18 : decode cX9_bits 18 = .ok (.iinc 2 1, 3) := by decide +kernel
theorem dX9_bits_21 : decode cX9_bits 21 = .ok (.goto (-17), 3) := by decide +kernel
theorem dX9_bits_24 : decode cX9_bits 24 = .ok (.iload_n 1, 1) := by decide +kernel
theorem dX9_bits_25 : decode cX9_bits 25 = .ok (.ireturn, 1) := by decide +kernel
set_option maxRecDepth 20000 in
theorem ggX9_isPerson_X9_in : GoodIn wsX9_isPerson wsX9_in := goodIn_r _ [5] (by decide +kernel) (by decide +kernel)
set_option maxRecDepth 20000 in
theorem gX9_isPerson_X9_in : GoodIn wsX9_isPerson (va_wsS RX9 76 yX9_in wsX9_in) := goodIn_app (goodIn_of _ (by decide +kernel)) ggX9_isPerson_X9_in
theorem dX9_isPerson_0 : decode cX9_isPerson 0 = .ok (.iload_n 1, 1) := by decide +kernel
theorem dX9_isPerson_1 : decode cX9_isPerson 1 = .ok (.i2l, 1) := by decide +kernel
theorem dX9_isPerson_2 : decode cX9_isPerson 2 = .ok (.lconst 0, 1) := by decide +kernel
theorem dX9_isPerson_3 : decode cX9_isPerson 3 = .ok (.aload_n 0, 1) := by decide +kernel
theorem dX9_isPerson_4 : decode cX9_isPerson 4 = .ok (.getfield 73, 3) := by decide +kernel
theorem dX9_isPerson_7 : decode cX9_isPerson 7 = .ok (.iconst 1, 1) := by decide +kernel
theorem dX9_isPerson_8 : decode cX9_isPerson 8 = .ok (.isub, 1) := by decide +kernel
theorem dX9_isPerson_9 : decode cX9_isPerson 9 = .ok (.i2l, 1) := by decide +kernel
theorem dX9_isPerson_10 : decode cX9_isPerson 10 = .ok (.invokestatic 76, 3) := by decide +kernel
theorem dX9_isPerson_13 : decode cX9_isPerson 13 = .ok (.ireturn, 1) := by decide +kernel
set_option maxRecDepth 20000 in
theorem ggX9_isSaying_X9_in : GoodIn wsX9_isSaying wsX9_in := goodIn_r _ [5] (by decide +kernel) (by decide +kernel)
set_option maxRecDepth 20000 in
theorem gX9_isSaying_X9_in : GoodIn wsX9_isSaying (va_wsS RX9 76 yX9_in wsX9_in) := goodIn_app (goodIn_of _ (by decide +kernel)) ggX9_isSaying_X9_in
theorem dX9_isSaying_0 : decode cX9_isSaying 0 = .ok (.iload_n 1, 1) := by decide +kernel
theorem dX9_isSaying_1 : decode cX9_isSaying 1 = .ok (.i2l, 1) := by decide +kernel
theorem dX9_isSaying_2 : decode cX9_isSaying 2 = .ok (.lconst 0, 1) := by decide +kernel
theorem dX9_isSaying_3 : decode cX9_isSaying 3 = .ok (.aload_n 0, 1) := by decide +kernel
theorem dX9_isSaying_4 : decode cX9_isSaying 4 = .ok (.getfield 80, 3) := by decide +kernel
theorem dX9_isSaying_7 : decode cX9_isSaying 7 = .ok (.iconst 1, 1) := by decide +kernel
theorem dX9_isSaying_8 : decode cX9_isSaying 8 = .ok (.isub, 1) := by decide +kernel
theorem dX9_isSaying_9 : decode cX9_isSaying 9 = .ok (.i2l, 1) := by decide +kernel
theorem dX9_isSaying_10 : decode cX9_isSaying 10 = .ok (.invokestatic 76, 3) := by decide +kernel
theorem dX9_isSaying_13 : decode cX9_isSaying 13 = .ok (.ireturn, 1) := by decide +kernel
set_option maxRecDepth 20000 in
theorem ggX9_isSet_X9_in : GoodIn wsX9_isSet wsX9_in := goodIn_r _ [5] (by decide +kernel) (by decide +kernel)
set_option maxRecDepth 20000 in
theorem gX9_isSet_X9_in : GoodIn wsX9_isSet (va_wsS RX9 76 yX9_in wsX9_in) := goodIn_app (goodIn_of _ (by decide +kernel)) ggX9_isSet_X9_in
theorem dX9_isSet_0 : decode cX9_isSet 0 = .ok (.iload_n 1, 1) := by decide +kernel
theorem dX9_isSet_1 : decode cX9_isSet 1 = .ok (.i2l, 1) := by decide +kernel
theorem dX9_isSet_2 : decode cX9_isSet 2 = .ok (.lconst 0, 1) := by decide +kernel
theorem dX9_isSet_3 : decode cX9_isSet 3 = .ok (.iconst 1, 1) := by decide +kernel
theorem dX9_isSet_4 : decode cX9_isSet 4 = .ok (.aload_n 0, 1) := by decide +kernel
theorem dX9_isSet_5 : decode cX9_isSet 5 = .ok (.getfield 80, 3) := by decide +kernel
theorem dX9_isSet_8 : decode cX9_isSet 8 = .ok (.ishl, 1) := by decide +kernel
theorem dX9_isSet_9 : decode cX9_isSet 9 = .ok (.iconst 1, 1) := by decide +kernel
theorem dX9_isSet_10 : decode cX9_isSet 10 = .ok (.isub, 1) := by decide +kernel
theorem dX9_isSet_11 : decode cX9_isSet 11 = .ok (.i2l, 1) := by decide +kernel
theorem dX9_isSet_12 : decode cX9_isSet 12 = .ok (.invokestatic 76, 3) := by decide +kernel
theorem dX9_isSet_15 : decode cX9_isSet 15 = .ok (.ireturn, 1) := by decide +kernel
set_option maxRecDepth 20000 in
theorem ggX9_feed_X9_in : GoodIn wsX9_feed wsX9_in := goodIn_r _ [9] (by decide +kernel) (by decide +kernel)
set_option maxRecDepth 20000 in
theorem gX9_feed_X9_in : GoodIn wsX9_feed (va_wsS RX9 76 yX9_in wsX9_in) := goodIn_app (goodIn_of _ (by decide +kernel)) ggX9_feed_X9_in
theorem dX9_feed_0 : decode cX9_feed 0 = .ok (.iload_n 1, 1) := by decide +kernel
theorem dX9_feed_1 : decode cX9_feed 1 = .ok (.i2l, 1) := by decide +kernel
theorem dX9_feed_2 : decode cX9_feed 2 = .ok (.lconst 0, 1) := by decide +kernel
theorem dX9_feed_3 : decode cX9_feed 3 = .ok (.ldc2_w 83, 3) := by decide +kernel
theorem dX9_feed_6 : decode cX9_feed 6 = .ok (.invokestatic 76, 3) := by decide +kernel
theorem dX9_feed_9 : decode cX9_feed 9 = .ok (.ifCond .ne 6, 3) := by decide +kernel
theorem dX9_feed_12 : decode cX9_feed 12 = .ok (.ldc 85, 2) := by decide +kernel
theorem dX9_feed_14 : decode cX9_feed 14 = .ok (.ireturn, 1) := by decide +kernel
theorem dX9_feed_15 : decode cX9_feed 15 = .ok (.aload_n 0, 1) := by decide +kernel
theorem dX9_feed_16 : decode cX9_feed 16 = .ok (.getfield 86, 3) := by decide +kernel
theorem dX9_feed_19 : decode cX9_feed 19 = .ok (.sipush 240, 3) := by decide +kernel
theorem dX9_feed_22 : decode cX9_feed 22 = .ok (.if_icmp .ne 6, 3) := by decide +kernel
theorem dX9_feed_25 : decode cX9_feed 25 = .ok (.ldc 89, 2) := by decide +kernel
theorem dX9_feed_27 : decode cX9_feed 27 = .ok (.ireturn, 1) := by decide +kernel
theorem dX9_feed_28 : decode cX9_feed 28 = .ok (.aload_n 0, 1) := by decide +kernel
theorem dX9_feed_29 : decode cX9_feed 29 = .ok (.getfield 28, 3) := by decide +kernel
theorem dX9_feed_32 : decode cX9_feed 32 = .ok (.aload_n 0, 1) := by decide +kernel
theorem dX9_feed_33 : decode cX9_feed 33 = .ok (.getfield 86, 3) := by decide +kernel
theorem dX9_feed_36 : decode cX9_feed 36 = .ok (.iload_n 1, 1) := by decide +kernel
theorem dX9_feed_37 : decode cX9_feed 37 = .ok (.iastore, 1) := by decide +kernel
theorem dX9_feed_38 : decode cX9_feed 38 = .ok (.aload_n 0, 1) := by decide +kernel
theorem dX9_feed_39 : decode cX9_feed 39 = .ok (.dup, 1) := by decide +kernel
theorem dX9_feed_40 : decode cX9_feed 40 = .ok (.getfield 86, 3) := by decide +kernel
theorem dX9_feed_43 : decode cX9_feed 43 = .ok (.iconst 1, 1) := by decide +kernel
theorem dX9_feed_44 : decode cX9_feed 44 = .ok (.iadd, 1) := by decide +kernel
theorem dX9_feed_45 : decode cX9_feed 45 = .ok (.putfield 86, 3) := by decide +kernel
theorem dX9_feed_48 : decode cX9_feed 48 = .ok (.aload_n 0, 1) := by decide +kernel
theorem dX9_feed_49 : decode cX9_feed 49 = .ok (.getfield 86, 3) := by decide +kernel
theorem dX9_feed_52 : decode cX9_feed 52 = .ok (.ireturn, 1) := by decide +kernel
theorem dX9_here_0 : decode cX9_here 0 = .ok (.aload_n 0, 1) := by decide +kernel
theorem dX9_here_1 : decode cX9_here 1 = .ok (.getfield 90, 3) := by decide +kernel
theorem dX9_here_4 : decode cX9_here 4 = .ok (.aload_n 0, 1) := by decide +kernel
theorem dX9_here_5 : decode cX9_here 5 = .ok (.getfield 86, 3) := by decide +kernel
theorem dX9_here_8 : decode cX9_here 8 = .ok (.if_icmp .ge 30, 3) := by decide +kernel
theorem dX9_here_11 : decode cX9_here 11 = .ok (.aload_n 0, 1) := by decide +kernel
theorem dX9_here_12 : decode cX9_here 12 = .ok (.getfield 28, 3) := by decide +kernel
theorem dX9_here_15 : decode cX9_here 15 = .ok (.aload_n 0, 1) := by decide +kernel
theorem dX9_here_16 : decode cX9_here 16 = .ok (.getfield 90, 3) := by decide +kernel
theorem dX9_here_19 : decode cX9_here 19 = .ok (.iaload, 1) := by decide +kernel
theorem dX9_here_20 : decode cX9_here 20 = .ok (.bipush 32, 2) := by decide +kernel
theorem dX9_here_22 : decode cX9_here 22 = .ok (.if_icmp .ne 16, 3) := by decide +kernel
theorem dX9_here_25 : decode cX9_here 25 = .ok (.aload_n 0, 1) := by decide +kernel
theorem dX9_here_26 : decode cX9_here 26 = .ok (.dup, 1) := by decide +kernel
theorem dX9_here_27 : decode cX9_here 27 = .ok (.getfield 90, 3) := by decide +kernel
theorem dX9_here_30 : decode cX9_here 30 = .ok (.iconst 1, 1) := by decide +kernel
theorem dX9_here_31 : decode cX9_here 31 = .ok (.iadd, 1) := by decide +kernel
theorem dX9_here_32 : decode cX9_here 32 = .ok (.putfield 90, 3) := by decide +kernel
theorem dX9_here_35 : decode cX9_here 35 = .ok (.goto (-35), 3) := by decide +kernel
theorem dX9_here_38 : decode cX9_here 38 = .ok (.aload_n 0, 1) := by decide +kernel
theorem dX9_here_39 : decode cX9_here 39 = .ok (.getfield 90, 3) := by decide +kernel
theorem dX9_here_42 : decode cX9_here 42 = .ok (.aload_n 0, 1) := by decide +kernel
theorem dX9_here_43 : decode cX9_here 43 = .ok (.getfield 86, 3) := by decide +kernel
theorem dX9_here_46 : decode cX9_here 46 = .ok (.if_icmp .ge 15, 3) := by decide +kernel
theorem dX9_here_49 : decode cX9_here 49 = .ok (.aload_n 0, 1) := by decide +kernel
theorem dX9_here_50 : decode cX9_here 50 = .ok (.getfield 28, 3) := by decide +kernel
theorem dX9_here_53 : decode cX9_here 53 = .ok (.aload_n 0, 1) := by decide +kernel
theorem dX9_here_54 : decode cX9_here 54 = .ok (.getfield 90, 3) := by decide +kernel
theorem dX9_here_57 : decode cX9_here 57 = .ok (.iaload, 1) := by decide +kernel
theorem dX9_here_58 : decode cX9_here 58 = .ok (.goto 4, 3) := by decide +kernel
theorem dX9_here_61 : decode cX9_here 61 = .ok (.iconst (-1), 1) := by decide +kernel
theorem dX9_here_62 : decode cX9_here 62 = .ok (.ireturn, 1) := by decide +kernel
theorem dX9_fails_0 : decode cX9_fails 0 = .ok (.aload_n 0, 1) := by decide +kernel
theorem dX9_fails_1 : decode cX9_fails 1 = .ok (.iload_n 2, 1) := by decide +kernel
theorem dX9_fails_2 : decode cX9_fails 2 = .ok (.putfield 31, 3) := by decide +kernel
theorem dX9_fails_5 : decode cX9_fails 5 = .ok (.iload_n 1, 1) := by decide +kernel
theorem dX9_fails_6 : decode cX9_fails 6 = .ok (.ireturn, 1) := by decide +kernel
set_option maxRecDepth 20000 in
theorem ggX9_takeNumber_X9_here : GoodIn wsX9_takeNumber wsX9_here := goodIn_r _ [12, 3, 6, 7, 21, 22, 23, 24, 25, 26, 27, 28, 29, 30, 31, 32, 33, 34, 35, 36, 37, 38, 39, 40, 41, 42, 43, 44, 45, 46, 47, 48, 49, 50, 51, 52, 53, 54, 55, 56, 57, 58] (by decide +kernel) (by decide +kernel)
set_option maxRecDepth 20000 in
theorem gX9_takeNumber_X9_here : GoodIn wsX9_takeNumber (wsV RX9 93 RX9 yX9_here wsX9_here) := goodIn_app (goodIn_of _ (by decide +kernel)) ggX9_takeNumber_X9_here
set_option maxRecDepth 20000 in
theorem ggX9_takeNumber_X9_in : GoodIn wsX9_takeNumber wsX9_in := goodIn_r _ [15] (by decide +kernel) (by decide +kernel)
set_option maxRecDepth 20000 in
theorem gX9_takeNumber_X9_in : GoodIn wsX9_takeNumber (va_wsS RX9 76 yX9_in wsX9_in) := goodIn_app (goodIn_of _ (by decide +kernel)) ggX9_takeNumber_X9_in
set_option maxRecDepth 20000 in
theorem ggX9_takeNumber_X9_fails : GoodIn wsX9_takeNumber wsX9_fails := goodIn_r _ [19, 20, 21, 22, 23, 24, 25, 26, 27, 28, 29, 30, 31, 32, 33, 34, 35, 36, 37, 38, 39, 40, 41, 42, 43, 44, 45, 46, 47, 48, 49, 50, 51, 52, 53, 54, 55, 56, 57, 58] (by decide +kernel) (by decide +kernel)
set_option maxRecDepth 20000 in
theorem gX9_takeNumber_X9_fails : GoodIn wsX9_takeNumber (wsV RX9 101 RX9 yX9_fails wsX9_fails) := goodIn_app (goodIn_of _ (by decide +kernel)) ggX9_takeNumber_X9_fails
theorem dX9_takeNumber_0 : decode cX9_takeNumber 0 = .ok (.aload_n 0, 1) := by decide +kernel
theorem dX9_takeNumber_1 : decode cX9_takeNumber 1 = .ok (.invokevirtual 93, 3) := by decide +kernel
theorem dX9_takeNumber_4 : decode cX9_takeNumber 4 = .ok (.istore_n 3, 1) := by decide +kernel
theorem dX9_takeNumber_5 : decode cX9_takeNumber 5 = .ok (.iload_n 3, 1) := by decide +kernel
theorem dX9_takeNumber_6 : decode cX9_takeNumber 6 = .ok (.i2l, 1) := by decide +kernel
theorem dX9_takeNumber_7 : decode cX9_takeNumber 7 = .ok (.ldc2_w 97, 3) := by decide +kernel
theorem dX9_takeNumber_10 : decode cX9_takeNumber 10 = .ok (.ldc2_w 99, 3) := by decide +kernel
theorem dX9_takeNumber_13 : decode cX9_takeNumber 13 = .ok (.invokestatic 76, 3) := by decide +kernel
theorem dX9_takeNumber_16 : decode cX9_takeNumber 16 = .ok (.ifCond .ne 13, 3) := by decide +kernel
theorem dX9_takeNumber_19 : decode cX9_takeNumber 19 = .ok (.aload_n 0, 1) := by decide +kernel
theorem dX9_takeNumber_20 : decode cX9_takeNumber 20 = .ok (.iconst 1, 1) := by decide +kernel
theorem dX9_takeNumber_21 : decode cX9_takeNumber 21 = .ok (.aload_n 0, 1) := by decide +kernel
theorem dX9_takeNumber_22 : decode cX9_takeNumber 22 = .ok (.getfield 90, 3) := by decide +kernel
theorem dX9_takeNumber_25 : decode cX9_takeNumber 25 = .ok (.invokevirtual 101, 3) := by decide +kernel
theorem dX9_takeNumber_28 : decode cX9_takeNumber 28 = .ok (.ireturn, 1) := by decide +kernel
theorem dX9_takeNumber_29 : decode cX9_takeNumber 29 = .ok (.aload_n 0, 1) := by decide +kernel
theorem dX9_takeNumber_30 : decode cX9_takeNumber 30 = .ok (.aload_n 0, 1) := by decide +kernel
theorem dX9_takeNumber_31 : decode cX9_takeNumber 31 = .ok (.getfield 90, 3) := by decide +kernel
theorem dX9_takeNumber_34 : decode cX9_takeNumber 34 = .ok (.putfield 105, 3) := by decide +kernel
theorem dX9_takeNumber_37 : decode cX9_takeNumber 37 = .ok (.aload_n 0, 1) := by decide +kernel
theorem dX9_takeNumber_38 : decode cX9_takeNumber 38 = .ok (.iconst 0, 1) := by decide +kernel
theorem dX9_takeNumber_39 : decode cX9_takeNumber 39 = .ok (.putfield 108, 3) := by decide +kernel
theorem dX9_takeNumber_42 : decode cX9_takeNumber 42 = .ok (.aload_n 0, 1) := by decide +kernel
theorem dX9_takeNumber_43 : decode cX9_takeNumber 43 = .ok (.getfield 90, 3) := by decide +kernel
theorem dX9_takeNumber_46 : decode cX9_takeNumber 46 = .ok (.aload_n 0, 1) := by decide +kernel
theorem dX9_takeNumber_47 : decode cX9_takeNumber 47 = .ok (.getfield 86, 3) := by decide +kernel
theorem dX9_takeNumber_50 : decode cX9_takeNumber 50 = .ok (.if_icmp .ge 79, 3) := by decide +kernel
theorem dX9_takeNumber_53 : decode cX9_takeNumber 53 = .ok (.aload_n 0, 1) := by decide +kernel
theorem dX9_takeNumber_54 : decode cX9_takeNumber 54 = .ok (.getfield 28, 3) := by decide +kernel
theorem dX9_takeNumber_57 : decode cX9_takeNumber 57 = .ok (.aload_n 0, 1) := by decide +kernel
theorem dX9_takeNumber_58 : decode cX9_takeNumber 58 = .ok (.getfield 90, 3) := by decide +kernel
theorem dX9_takeNumber_61 : decode cX9_takeNumber 61 = .ok (.iaload, 1) := by decide +kernel
theorem dX9_takeNumber_62 : decode cX9_takeNumber 62 = .ok (.i2l, 1) := by decide +kernel
theorem dX9_takeNumber_63 : decode cX9_takeNumber 63 = .ok (.ldc2_w 97, 3) := by decide +kernel
theorem dX9_takeNumber_66 : decode cX9_takeNumber 66 = .ok (.ldc2_w 99, 3) := by decide +kernel
theorem dX9_takeNumber_69 : decode cX9_takeNumber 69 = .ok (.invokestatic 76, 3) := by decide +kernel
theorem dX9_takeNumber_72 : decode cX9_takeNumber 72 = .ok (.ifCond .eq 57, 3) := by decide +kernel
theorem dX9_takeNumber_75 : decode cX9_takeNumber 75 = .ok (.aload_n 0, 1) := by decide +kernel
theorem dX9_takeNumber_76 : decode cX9_takeNumber 76 = .ok (.aload_n 0, 1) := by decide +kernel
theorem dX9_takeNumber_77 : decode cX9_takeNumber 77 = .ok (.getfield 108, 3) := by decide +kernel
theorem dX9_takeNumber_80 : decode cX9_takeNumber 80 = .ok (.sipush 10000, 3) := by decide +kernel
theorem dX9_takeNumber_83 : decode cX9_takeNumber 83 = .ok (.if_icmp .le 10, 3) := by decide +kernel
theorem dX9_takeNumber_86 : decode cX9_takeNumber 86 = .ok (.aload_n 0, 1) := by decide +kernel
theorem dX9_takeNumber_87 : decode cX9_takeNumber 87 = .ok (.getfield 108, 3) := by decide +kernel
theorem dX9_takeNumber_90 : decode cX9_takeNumber 90 = .ok (.goto 23, 3) := by decide +kernel
theorem dX9_takeNumber_93 : decode cX9_takeNumber 93 = .ok (.bipush 10, 2) := by decide +kernel
theorem dX9_takeNumber_95 : decode cX9_takeNumber 95 = .ok (.aload_n 0, 1) := by decide +kernel
theorem dX9_takeNumber_96 : decode cX9_takeNumber 96 = .ok (.getfield 108, 3) := by decide +kernel
theorem dX9_takeNumber_99 : decode cX9_takeNumber 99 = .ok (.imul, 1) := by decide +kernel
theorem dX9_takeNumber_100 : decode cX9_takeNumber 100 = .ok (.aload_n 0, 1) := by decide +kernel
theorem dX9_takeNumber_101 : decode cX9_takeNumber 101 = .ok (.getfield 28, 3) := by decide +kernel
theorem dX9_takeNumber_104 : decode cX9_takeNumber 104 = .ok (.aload_n 0, 1) := by decide +kernel
theorem dX9_takeNumber_105 : decode cX9_takeNumber 105 = .ok (.getfield 90, 3) := by decide +kernel
theorem dX9_takeNumber_108 : decode cX9_takeNumber 108 = .ok (.iaload, 1) := by decide +kernel
theorem dX9_takeNumber_109 : decode cX9_takeNumber 109 = .ok (.iadd, 1) := by decide +kernel
theorem dX9_takeNumber_110 : decode cX9_takeNumber 110 = .ok (.bipush 48, 2) := by decide +kernel
theorem dX9_takeNumber_112 : decode cX9_takeNumber 112 = .ok (.isub, 1) := by decide +kernel
theorem dX9_takeNumber_113 : decode cX9_takeNumber 113 = .ok (.putfield 108, 3) := by decide +kernel
theorem dX9_takeNumber_116 : decode cX9_takeNumber 116 = .ok (.aload_n 0, 1) := by decide +kernel
theorem dX9_takeNumber_117 : decode cX9_takeNumber 117 = .ok (.dup, 1) := by decide +kernel
theorem dX9_takeNumber_118 : decode cX9_takeNumber 118 = .ok (.getfield 90, 3) := by decide +kernel
theorem dX9_takeNumber_121 : decode cX9_takeNumber 121 = .ok (.iconst 1, 1) := by decide +kernel
theorem dX9_takeNumber_122 : decode cX9_takeNumber 122 = .ok (.iadd, 1) := by decide +kernel
theorem dX9_takeNumber_123 : decode cX9_takeNumber 123 = .ok (.putfield 90, 3) := by decide +kernel
theorem dX9_takeNumber_126 : decode cX9_takeNumber 126 = .ok (.goto (-84), 3) := by decide +kernel
theorem dX9_takeNumber_129 : decode cX9_takeNumber 129 = .ok (.aload_n 0, 1) := by decide +kernel
theorem dX9_takeNumber_130 : decode cX9_takeNumber 130 = .ok (.getfield 90, 3) := by decide +kernel
theorem dX9_takeNumber_133 : decode cX9_takeNumber 133 = .ok (.aload_n 0, 1) := by decide +kernel
theorem dX9_takeNumber_134 : decode cX9_takeNumber 134 = .ok (.getfield 105, 3) := by decide +kernel
theorem dX9_takeNumber_137 : decode cX9_takeNumber 137 = .ok (.isub, 1) := by decide +kernel
theorem dX9_takeNumber_138 : decode cX9_takeNumber 138 = .ok (.iconst 3, 1) := by decide +kernel
theorem dX9_takeNumber_139 : decode cX9_takeNumber 139 = .ok (.if_icmp .gt 18, 3) := by decide +kernel
theorem dX9_takeNumber_142 : decode cX9_takeNumber 142 = .ok (.aload_n 0, 1) := by decide +kernel
theorem dX9_takeNumber_143 : decode cX9_takeNumber 143 = .ok (.getfield 108, 3) := by decide +kernel
theorem dX9_takeNumber_146 : decode cX9_takeNumber 146 = .ok (.i2l, 1) := by decide +kernel
theorem dX9_takeNumber_147 : decode cX9_takeNumber 147 = .ok (.iload_n 1, 1) := by decide +kernel
theorem dX9_takeNumber_148 : decode cX9_takeNumber 148 = .ok (.i2l, 1) := by decide +kernel
theorem dX9_takeNumber_149 : decode cX9_takeNumber 149 = .ok (.iload_n 2, 1) := by decide +kernel
theorem dX9_takeNumber_150 : decode cX9_takeNumber 150 = .ok (.i2l, 1) := by decide +kernel
theorem dX9_takeNumber_151 : decode cX9_takeNumber 151 = .ok (.invokestatic 76, 3) := by decide +kernel
theorem dX9_takeNumber_154 : decode cX9_takeNumber 154 = .ok (.ifCond .ne 15, 3) := by decide +kernel
theorem dX9_takeNumber_157 : decode cX9_takeNumber 157 = .ok (.aload_n 0, 1) := by decide +kernel
theorem dX9_takeNumber_158 : decode cX9_takeNumber 158 = .ok (.iconst 2, 1) := by decide +kernel
theorem dX9_takeNumber_159 : decode cX9_takeNumber 159 = .ok (.aload_n 0, 1) := by decide +kernel
theorem dX9_takeNumber_160 : decode cX9_takeNumber 160 = .ok (.getfield 105, 3) := by decide +kernel
theorem dX9_takeNumber_163 : decode cX9_takeNumber 163 = .ok (.invokevirtual 101, 3) := by decide +kernel
theorem dX9_takeNumber_166 : decode cX9_takeNumber 166 = .ok (.goto 4, 3) := by decide +kernel
theorem dX9_takeNumber_169 : decode cX9_takeNumber 169 = .ok (.iconst 0, 1) := by decide +kernel
theorem dX9_takeNumber_170 : decode cX9_takeNumber 170 = .ok (.ireturn, 1) := by decide +kernel
set_option maxRecDepth 20000 in
theorem ggX9_into_X9_takeNumber : GoodIn wsX9_into wsX9_takeNumber := goodIn_r _ [6, 7, 8, 9, 10, 1, 11, 12, 13, 14, 15, 5, 16, 17, 18, 19, 20, 21, 22, 23, 24, 25, 26, 27, 28, 29, 30, 31, 32, 33, 34, 35, 36, 37, 38, 39, 40, 41, 42, 43, 44, 45, 46, 47, 48, 49, 50, 51, 52, 53, 54, 55, 56, 57, 58, 59, 60, 61, 62] (by decide +kernel) (by decide +kernel)
set_option maxRecDepth 20000 in
theorem gX9_into_X9_takeNumber : GoodIn wsX9_into (wsV RX9 111 RX9 yX9_takeNumber wsX9_takeNumber) := goodIn_app (goodIn_of _ (by decide +kernel)) ggX9_into_X9_takeNumber
theorem dX9_into_0 : decode cX9_into 0 = .ok (.aload_n 0, 1) := by decide +kernel
theorem dX9_into_1 : decode cX9_into 1 = .ok (.iload_n 3, 1) := by decide +kernel
theorem dX9_into_2 : decode cX9_into 2 = .ok (.iload 4, 2) := by decide +kernel
theorem dX9_into_4 : decode cX9_into 4 = .ok (.invokevirtual 111, 3) := by decide +kernel
theorem dX9_into_7 : decode cX9_into 7 = .ok (.istore 5, 2) := by decide +kernel
theorem dX9_into_9 : decode cX9_into 9 = .ok (.aload_n 1, 1) := by decide +kernel
theorem dX9_into_10 : decode cX9_into 10 = .ok (.iload_n 2, 1) := by decide +kernel
theorem dX9_into_11 : decode cX9_into 11 = .ok (.aload_n 0, 1) := by decide +kernel
theorem dX9_into_12 : decode cX9_into 12 = .ok (.getfield 108, 3) := by decide +kernel
theorem dX9_into_15 : decode cX9_into 15 = .ok (.iastore, 1) := by decide +kernel
theorem dX9_into_16 : decode cX9_into 16 = .ok (.iload 5, 2) := by decide +kernel
theorem dX9_into_18 : decode cX9_into 18 = .ok (.ireturn, 1) := by decide +kernel
set_option maxRecDepth 20000 in
theorem ggX9_takeYard_X9_takeNumber : GoodIn wsX9_takeYard wsX9_takeNumber := goodIn_r _ [9, 10, 11, 12, 13, 2, 14, 15, 16, 17, 18, 8, 19, 20, 21, 22, 23, 24, 25, 26, 27, 28, 29, 30, 31, 32, 33, 34, 35, 36, 37, 38, 39, 40, 41, 42, 43, 44, 45, 46, 47, 48, 49, 50, 51, 52, 53, 54, 55, 56, 57, 58, 59, 60, 61, 62, 63, 64, 65] (by decide +kernel) (by decide +kernel)
set_option maxRecDepth 20000 in
theorem gX9_takeYard_X9_takeNumber : GoodIn wsX9_takeYard (wsV RX9 111 RX9 yX9_takeNumber wsX9_takeNumber) := goodIn_app (goodIn_of _ (by decide +kernel)) ggX9_takeYard_X9_takeNumber
theorem dX9_takeYard_0 : decode cX9_takeYard 0 = .ok (.aload_n 0, 1) := by decide +kernel
theorem dX9_takeYard_1 : decode cX9_takeYard 1 = .ok (.iconst 1, 1) := by decide +kernel
theorem dX9_takeYard_2 : decode cX9_takeYard 2 = .ok (.putfield 114, 3) := by decide +kernel
theorem dX9_takeYard_5 : decode cX9_takeYard 5 = .ok (.aload_n 0, 1) := by decide +kernel
theorem dX9_takeYard_6 : decode cX9_takeYard 6 = .ok (.iconst 0, 1) := by decide +kernel
theorem dX9_takeYard_7 : decode cX9_takeYard 7 = .ok (.bipush 99, 2) := by decide +kernel
theorem dX9_takeYard_9 : decode cX9_takeYard 9 = .ok (.invokevirtual 111, 3) := by decide +kernel
theorem dX9_takeYard_12 : decode cX9_takeYard 12 = .ok (.istore_n 1, 1) := by decide +kernel
theorem dX9_takeYard_13 : decode cX9_takeYard 13 = .ok (.aload_n 0, 1) := by decide +kernel
theorem dX9_takeYard_14 : decode cX9_takeYard 14 = .ok (.aload_n 0, 1) := by decide +kernel
theorem dX9_takeYard_15 : decode cX9_takeYard 15 = .ok (.getfield 108, 3) := by decide +kernel
theorem dX9_takeYard_18 : decode cX9_takeYard 18 = .ok (.putfield 117, 3) := by decide +kernel
theorem dX9_takeYard_21 : decode cX9_takeYard 21 = .ok (.iload_n 1, 1) := by decide +kernel
theorem dX9_takeYard_22 : decode cX9_takeYard 22 = .ok (.ifCond .le 7, 3) := by decide +kernel
theorem dX9_takeYard_25 : decode cX9_takeYard 25 = .ok (.iload_n 1, 1) := by decide +kernel
theorem dX9_takeYard_26 : decode cX9_takeYard 26 = .ok (.goto 10, 3) := by decide +kernel
theorem dX9_takeYard_29 : decode cX9_takeYard 29 = .ok (.aload_n 0, 1) := by decide +kernel
theorem dX9_takeYard_30 : decode cX9_takeYard 30 = .ok (.iconst 0, 1) := by decide +kernel
theorem dX9_takeYard_31 : decode cX9_takeYard 31 = .ok (.bipush 20, 2) := by decide +kernel
theorem dX9_takeYard_33 : decode cX9_takeYard 33 = .ok (.invokevirtual 111, 3) := by decide +kernel
theorem dX9_takeYard_36 : decode cX9_takeYard 36 = .ok (.istore_n 1, 1) := by decide +kernel
theorem dX9_takeYard_37 : decode cX9_takeYard 37 = .ok (.aload_n 0, 1) := by decide +kernel
theorem dX9_takeYard_38 : decode cX9_takeYard 38 = .ok (.aload_n 0, 1) := by decide +kernel
theorem dX9_takeYard_39 : decode cX9_takeYard 39 = .ok (.getfield 108, 3) := by decide +kernel
theorem dX9_takeYard_42 : decode cX9_takeYard 42 = .ok (.putfield 120, 3) := by decide +kernel
theorem dX9_takeYard_45 : decode cX9_takeYard 45 = .ok (.iload_n 1, 1) := by decide +kernel
theorem dX9_takeYard_46 : decode cX9_takeYard 46 = .ok (.ireturn, 1) := by decide +kernel
set_option maxRecDepth 20000 in
theorem ggX9_takePerson_X9_into : GoodIn wsX9_takePerson wsX9_into := goodIn_r _ [7, 8, 9, 10, 11, 6, 12, 13, 14, 15, 16, 17, 18, 19, 20, 21, 22, 23, 24, 25, 26, 27, 28, 29, 30, 31, 32, 33, 34, 35, 36, 37, 38, 39, 40, 41, 42, 43, 44, 45, 46, 47, 48, 49, 50, 51, 52, 53, 54, 55, 56, 57, 58, 59, 60, 61, 62, 63, 64, 65, 66, 67, 68] (by decide +kernel) (by decide +kernel)
set_option maxRecDepth 20000 in
theorem gX9_takePerson_X9_into : GoodIn wsX9_takePerson (wsV RX9 126 RX9 yX9_into wsX9_into) := goodIn_app (goodIn_of _ (by decide +kernel)) ggX9_takePerson_X9_into
theorem dX9_takePerson_0 : decode cX9_takePerson 0 = .ok (.aload_n 0, 1) := by decide +kernel
theorem dX9_takePerson_1 : decode cX9_takePerson 1 = .ok (.dup, 1) := by decide +kernel
theorem dX9_takePerson_2 : decode cX9_takePerson 2 = .ok (.getfield 123, 3) := by decide +kernel
theorem dX9_takePerson_5 : decode cX9_takePerson 5 = .ok (.iconst 1, 1) := by decide +kernel
theorem dX9_takePerson_6 : decode cX9_takePerson 6 = .ok (.iadd, 1) := by decide +kernel
theorem dX9_takePerson_7 : decode cX9_takePerson 7 = .ok (.putfield 123, 3) := by decide +kernel
theorem dX9_takePerson_10 : decode cX9_takePerson 10 = .ok (.aload_n 0, 1) := by decide +kernel
theorem dX9_takePerson_11 : decode cX9_takePerson 11 = .ok (.aload_n 0, 1) := by decide +kernel
theorem dX9_takePerson_12 : decode cX9_takePerson 12 = .ok (.getfield 35, 3) := by decide +kernel
theorem dX9_takePerson_15 : decode cX9_takePerson 15 = .ok (.aload_n 0, 1) := by decide +kernel
theorem dX9_takePerson_16 : decode cX9_takePerson 16 = .ok (.getfield 123, 3) := by decide +kernel
theorem dX9_takePerson_19 : decode cX9_takePerson 19 = .ok (.iconst 1, 1) := by decide +kernel
theorem dX9_takePerson_20 : decode cX9_takePerson 20 = .ok (.isub, 1) := by decide +kernel
theorem dX9_takePerson_21 : decode cX9_takePerson 21 = .ok (.iconst 1, 1) := by decide +kernel
theorem dX9_takePerson_22 : decode cX9_takePerson 22 = .ok (.bipush 9, 2) := by decide +kernel
theorem dX9_takePerson_24 : decode cX9_takePerson 24 = .ok (.invokevirtual 126, 3) := by decide +kernel
theorem dX9_takePerson_27 : decode cX9_takePerson 27 = .ok (.ireturn, 1) := by decide +kernel
set_option maxRecDepth 20000 in
theorem ggX9_takeSaying_X9_into : GoodIn wsX9_takeSaying wsX9_into := goodIn_r _ [11, 12, 13, 14, 15, 10, 16, 17, 18, 19, 20, 21, 22, 23, 24, 25, 26, 27, 28, 29, 30, 31, 32, 33, 34, 35, 36, 37, 38, 39, 40, 41, 42, 43, 44, 45, 46, 47, 48, 49, 50, 51, 52, 53, 54, 55, 56, 57, 58, 59, 60, 61, 62, 63, 64, 65, 66, 67, 68, 69, 70, 71, 72] (by decide +kernel) (by decide +kernel)
set_option maxRecDepth 20000 in
theorem gX9_takeSaying_X9_into : GoodIn wsX9_takeSaying (wsV RX9 126 RX9 yX9_into wsX9_into) := goodIn_app (goodIn_of _ (by decide +kernel)) ggX9_takeSaying_X9_into
theorem dX9_takeSaying_0 : decode cX9_takeSaying 0 = .ok (.aload_n 0, 1) := by decide +kernel
theorem dX9_takeSaying_1 : decode cX9_takeSaying 1 = .ok (.getfield 130, 3) := by decide +kernel
theorem dX9_takeSaying_4 : decode cX9_takeSaying 4 = .ok (.istore_n 1, 1) := by decide +kernel
theorem dX9_takeSaying_5 : decode cX9_takeSaying 5 = .ok (.aload_n 0, 1) := by decide +kernel
theorem dX9_takeSaying_6 : decode cX9_takeSaying 6 = .ok (.dup, 1) := by decide +kernel
theorem dX9_takeSaying_7 : decode cX9_takeSaying 7 = .ok (.getfield 130, 3) := by decide +kernel
theorem dX9_takeSaying_10 : decode cX9_takeSaying 10 = .ok (.iconst 1, 1) := by decide +kernel
theorem dX9_takeSaying_11 : decode cX9_takeSaying 11 = .ok (.iadd, 1) := by decide +kernel
theorem dX9_takeSaying_12 : decode cX9_takeSaying 12 = .ok (.putfield 130, 3) := by decide +kernel
theorem dX9_takeSaying_15 : decode cX9_takeSaying 15 = .ok (.aload_n 0, 1) := by decide +kernel
theorem dX9_takeSaying_16 : decode cX9_takeSaying 16 = .ok (.getfield 47, 3) := by decide +kernel
theorem dX9_takeSaying_19 : decode cX9_takeSaying 19 = .ok (.iload_n 1, 1) := by decide +kernel
theorem dX9_takeSaying_20 : decode cX9_takeSaying 20 = .ok (.iconst 0, 1) := by decide +kernel
theorem dX9_takeSaying_21 : decode cX9_takeSaying 21 = .ok (.iastore, 1) := by decide +kernel
theorem dX9_takeSaying_22 : decode cX9_takeSaying 22 = .ok (.aload_n 0, 1) := by decide +kernel
theorem dX9_takeSaying_23 : decode cX9_takeSaying 23 = .ok (.aload_n 0, 1) := by decide +kernel
theorem dX9_takeSaying_24 : decode cX9_takeSaying 24 = .ok (.getfield 38, 3) := by decide +kernel
theorem dX9_takeSaying_27 : decode cX9_takeSaying 27 = .ok (.iload_n 1, 1) := by decide +kernel
theorem dX9_takeSaying_28 : decode cX9_takeSaying 28 = .ok (.iconst 0, 1) := by decide +kernel
theorem dX9_takeSaying_29 : decode cX9_takeSaying 29 = .ok (.aload_n 0, 1) := by decide +kernel
theorem dX9_takeSaying_30 : decode cX9_takeSaying 30 = .ok (.getfield 123, 3) := by decide +kernel
theorem dX9_takeSaying_33 : decode cX9_takeSaying 33 = .ok (.iconst 1, 1) := by decide +kernel
theorem dX9_takeSaying_34 : decode cX9_takeSaying 34 = .ok (.isub, 1) := by decide +kernel
theorem dX9_takeSaying_35 : decode cX9_takeSaying 35 = .ok (.invokevirtual 126, 3) := by decide +kernel
theorem dX9_takeSaying_38 : decode cX9_takeSaying 38 = .ok (.istore_n 2, 1) := by decide +kernel
theorem dX9_takeSaying_39 : decode cX9_takeSaying 39 = .ok (.iload_n 2, 1) := by decide +kernel
theorem dX9_takeSaying_40 : decode cX9_takeSaying 40 = .ok (.ifCond .le 7, 3) := by decide +kernel
theorem dX9_takeSaying_43 : decode cX9_takeSaying 43 = .ok (.iload_n 2, 1) := by decide +kernel
theorem dX9_takeSaying_44 : decode cX9_takeSaying 44 = .ok (.goto 15, 3) := by decide +kernel
theorem dX9_takeSaying_47 : decode cX9_takeSaying 47 = .ok (.aload_n 0, 1) := by decide +kernel
theorem dX9_takeSaying_48 : decode cX9_takeSaying 48 = .ok (.aload_n 0, 1) := by decide +kernel
theorem dX9_takeSaying_49 : decode cX9_takeSaying 49 = .ok (.getfield 41, 3) := by decide +kernel
theorem dX9_takeSaying_52 : decode cX9_takeSaying 52 = .ok (.iload_n 1, 1) := by decide +kernel
theorem dX9_takeSaying_53 : decode cX9_takeSaying 53 = .ok (.iconst 1, 1) := by decide +kernel
theorem dX9_takeSaying_54 : decode cX9_takeSaying 54 = .ok (.bipush 20, 2) := by decide +kernel
theorem dX9_takeSaying_56 : decode cX9_takeSaying 56 = .ok (.invokevirtual 126, 3) := by decide +kernel
theorem dX9_takeSaying_59 : decode cX9_takeSaying 59 = .ok (.istore_n 2, 1) := by decide +kernel
theorem dX9_takeSaying_60 : decode cX9_takeSaying 60 = .ok (.iload_n 2, 1) := by decide +kernel
theorem dX9_takeSaying_61 : decode cX9_takeSaying 61 = .ok (.ifCond .le 7, 3) := by decide +kernel
theorem dX9_takeSaying_64 : decode cX9_takeSaying 64 = .ok (.iload_n 2, 1) := by decide +kernel
theorem dX9_takeSaying_65 : decode cX9_takeSaying 65 = .ok (.goto 15, 3) := by decide +kernel
theorem dX9_takeSaying_68 : decode cX9_takeSaying 68 = .ok (.aload_n 0, 1) := by decide +kernel
theorem dX9_takeSaying_69 : decode cX9_takeSaying 69 = .ok (.aload_n 0, 1) := by decide +kernel
theorem dX9_takeSaying_70 : decode cX9_takeSaying 70 = .ok (.getfield 44, 3) := by decide +kernel
theorem dX9_takeSaying_73 : decode cX9_takeSaying 73 = .ok (.iload_n 1, 1) := by decide +kernel
theorem dX9_takeSaying_74 : decode cX9_takeSaying 74 = .ok (.iconst 0, 1) := by decide +kernel
theorem dX9_takeSaying_75 : decode cX9_takeSaying 75 = .ok (.bipush 99, 2) := by decide +kernel
theorem dX9_takeSaying_77 : decode cX9_takeSaying 77 = .ok (.invokevirtual 126, 3) := by decide +kernel
theorem dX9_takeSaying_80 : decode cX9_takeSaying 80 = .ok (.ireturn, 1) := by decide +kernel
set_option maxRecDepth 20000 in
theorem ggX9_takeFollow_X9_takeNumber : GoodIn wsX9_takeFollow wsX9_takeNumber := goodIn_r _ [10, 11, 12, 13, 5, 3, 14, 15, 16, 17, 18, 9, 19, 20, 21, 22, 23, 24, 25, 26, 27, 31, 32, 33, 34, 35, 36, 37, 38, 39, 40, 41, 42, 43, 44, 45, 46, 47, 48, 49, 50, 51, 52, 53, 54, 55, 56, 57, 58, 59, 60, 61, 62, 63, 64, 65, 66, 67, 68] (by decide +kernel) (by decide +kernel)
set_option maxRecDepth 20000 in
theorem gX9_takeFollow_X9_takeNumber : GoodIn wsX9_takeFollow (wsV RX9 111 RX9 yX9_takeNumber wsX9_takeNumber) := goodIn_app (goodIn_of _ (by decide +kernel)) ggX9_takeFollow_X9_takeNumber
set_option maxRecDepth 20000 in
theorem ggX9_takeFollow_X9_has : GoodIn wsX9_takeFollow wsX9_has := goodIn_r _ [30] (by decide +kernel) (by decide +kernel)
set_option maxRecDepth 20000 in
theorem gX9_takeFollow_X9_has : GoodIn wsX9_takeFollow (va_wsS RX9 136 yX9_has wsX9_has) := goodIn_app (goodIn_of _ (by decide +kernel)) ggX9_takeFollow_X9_has
set_option maxRecDepth 20000 in
theorem ggX9_takeFollow_X9_fails : GoodIn wsX9_takeFollow wsX9_fails := goodIn_r _ [26, 27, 31, 32, 33, 34, 35, 36, 37, 38, 39, 40, 41, 42, 43, 44, 45, 46, 47, 48, 49, 50, 51, 52, 53, 54, 55, 56, 57, 58, 59, 60, 61, 62, 63, 64, 65, 66, 67, 68] (by decide +kernel) (by decide +kernel)
set_option maxRecDepth 20000 in
theorem gX9_takeFollow_X9_fails : GoodIn wsX9_takeFollow (wsV RX9 101 RX9 yX9_fails wsX9_fails) := goodIn_app (goodIn_of _ (by decide +kernel)) ggX9_takeFollow_X9_fails
theorem dX9_takeFollow_0 : decode cX9_takeFollow 0 = .ok (.aload_n 0, 1) := by decide +kernel
theorem dX9_takeFollow_1 : decode cX9_takeFollow 1 = .ok (.dup, 1) := by decide +kernel
theorem dX9_takeFollow_2 : decode cX9_takeFollow 2 = .ok (.getfield 133, 3) := by decide +kernel
theorem dX9_takeFollow_5 : decode cX9_takeFollow 5 = .ok (.iconst 1, 1) := by decide +kernel
theorem dX9_takeFollow_6 : decode cX9_takeFollow 6 = .ok (.iadd, 1) := by decide +kernel
theorem dX9_takeFollow_7 : decode cX9_takeFollow 7 = .ok (.putfield 133, 3) := by decide +kernel
theorem dX9_takeFollow_10 : decode cX9_takeFollow 10 = .ok (.aload_n 0, 1) := by decide +kernel
theorem dX9_takeFollow_11 : decode cX9_takeFollow 11 = .ok (.iconst 0, 1) := by decide +kernel
theorem dX9_takeFollow_12 : decode cX9_takeFollow 12 = .ok (.aload_n 0, 1) := by decide +kernel
theorem dX9_takeFollow_13 : decode cX9_takeFollow 13 = .ok (.getfield 130, 3) := by decide +kernel
theorem dX9_takeFollow_16 : decode cX9_takeFollow 16 = .ok (.iconst 1, 1) := by decide +kernel
theorem dX9_takeFollow_17 : decode cX9_takeFollow 17 = .ok (.isub, 1) := by decide +kernel
theorem dX9_takeFollow_18 : decode cX9_takeFollow 18 = .ok (.invokevirtual 111, 3) := by decide +kernel
theorem dX9_takeFollow_21 : decode cX9_takeFollow 21 = .ok (.istore_n 1, 1) := by decide +kernel
theorem dX9_takeFollow_22 : decode cX9_takeFollow 22 = .ok (.aload_n 0, 1) := by decide +kernel
theorem dX9_takeFollow_23 : decode cX9_takeFollow 23 = .ok (.getfield 108, 3) := by decide +kernel
theorem dX9_takeFollow_26 : decode cX9_takeFollow 26 = .ok (.istore_n 2, 1) := by decide +kernel
theorem dX9_takeFollow_27 : decode cX9_takeFollow 27 = .ok (.iload_n 1, 1) := by decide +kernel
theorem dX9_takeFollow_28 : decode cX9_takeFollow 28 = .ok (.ifCond .le 7, 3) := by decide +kernel
theorem dX9_takeFollow_31 : decode cX9_takeFollow 31 = .ok (.iload_n 1, 1) := by decide +kernel
theorem dX9_takeFollow_32 : decode cX9_takeFollow 32 = .ok (.goto 14, 3) := by decide +kernel
theorem dX9_takeFollow_35 : decode cX9_takeFollow 35 = .ok (.aload_n 0, 1) := by decide +kernel
theorem dX9_takeFollow_36 : decode cX9_takeFollow 36 = .ok (.iconst 0, 1) := by decide +kernel
theorem dX9_takeFollow_37 : decode cX9_takeFollow 37 = .ok (.aload_n 0, 1) := by decide +kernel
theorem dX9_takeFollow_38 : decode cX9_takeFollow 38 = .ok (.getfield 130, 3) := by decide +kernel
theorem dX9_takeFollow_41 : decode cX9_takeFollow 41 = .ok (.iconst 1, 1) := by decide +kernel
theorem dX9_takeFollow_42 : decode cX9_takeFollow 42 = .ok (.isub, 1) := by decide +kernel
theorem dX9_takeFollow_43 : decode cX9_takeFollow 43 = .ok (.invokevirtual 111, 3) := by decide +kernel
theorem dX9_takeFollow_46 : decode cX9_takeFollow 46 = .ok (.istore_n 1, 1) := by decide +kernel
theorem dX9_takeFollow_47 : decode cX9_takeFollow 47 = .ok (.iload_n 1, 1) := by decide +kernel
theorem dX9_takeFollow_48 : decode cX9_takeFollow 48 = .ok (.ifCond .le 5, 3) := by decide +kernel
theorem dX9_takeFollow_51 : decode cX9_takeFollow 51 = .ok (.iload_n 1, 1) := by decide +kernel
theorem dX9_takeFollow_52 : decode cX9_takeFollow 52 = .ok (.ireturn, 1) := by decide +kernel
theorem dX9_takeFollow_53 : decode cX9_takeFollow 53 = .ok (.iload_n 2, 1) := by decide +kernel
theorem dX9_takeFollow_54 : decode cX9_takeFollow 54 = .ok (.aload_n 0, 1) := by decide +kernel
theorem dX9_takeFollow_55 : decode cX9_takeFollow 55 = .ok (.getfield 108, 3) := by decide +kernel
theorem dX9_takeFollow_58 : decode cX9_takeFollow 58 = .ok (.if_icmp .ge 19, 3) := by decide +kernel
theorem dX9_takeFollow_61 : decode cX9_takeFollow 61 = .ok (.aload_n 0, 1) := by decide +kernel
theorem dX9_takeFollow_62 : decode cX9_takeFollow 62 = .ok (.getfield 47, 3) := by decide +kernel
theorem dX9_takeFollow_65 : decode cX9_takeFollow 65 = .ok (.aload_n 0, 1) := by decide +kernel
theorem dX9_takeFollow_66 : decode cX9_takeFollow 66 = .ok (.getfield 108, 3) := by decide +kernel
theorem dX9_takeFollow_69 : decode cX9_takeFollow 69 = .ok (.iaload, 1) := by decide +kernel
theorem dX9_takeFollow_70 : decode cX9_takeFollow 70 = .ok (.iload_n 2, 1) := by decide +kernel
theorem dX9_takeFollow_71 : decode cX9_takeFollow 71 = .ok (.invokestatic 136, 3) := by decide +kernel
theorem dX9_takeFollow_74 : decode cX9_takeFollow 74 = .ok (.ifCond .eq 13, 3) := by decide +kernel
theorem dX9_takeFollow_77 : decode cX9_takeFollow 77 = .ok (.aload_n 0, 1) := by decide +kernel
theorem dX9_takeFollow_78 : decode cX9_takeFollow 78 = .ok (.iconst 4, 1) := by decide +kernel
theorem dX9_takeFollow_79 : decode cX9_takeFollow 79 = .ok (.aload_n 0, 1) := by decide +kernel
theorem dX9_takeFollow_80 : decode cX9_takeFollow 80 = .ok (.getfield 105, 3) := by decide +kernel
theorem dX9_takeFollow_83 : decode cX9_takeFollow 83 = .ok (.invokevirtual 101, 3) := by decide +kernel
theorem dX9_takeFollow_86 : decode cX9_takeFollow 86 = .ok (.ireturn, 1) := by decide +kernel
theorem dX9_takeFollow_87 : decode cX9_takeFollow 87 = .ok (.aload_n 0, 1) := by decide +kernel
theorem dX9_takeFollow_88 : decode cX9_takeFollow 88 = .ok (.getfield 47, 3) := by decide +kernel
theorem dX9_takeFollow_91 : decode cX9_takeFollow 91 = .ok (.aload_n 0, 1) := by decide +kernel
theorem dX9_takeFollow_92 : decode cX9_takeFollow 92 = .ok (.getfield 108, 3) := by decide +kernel
theorem dX9_takeFollow_95 : decode cX9_takeFollow 95 = .ok (.dup2, 1) := by decide +kernel
theorem dX9_takeFollow_96 : decode cX9_takeFollow 96 = .ok (.iaload, 1) := by decide +kernel
theorem dX9_takeFollow_97 : decode cX9_takeFollow 97 = .ok (.iconst 1, 1) := by decide +kernel
theorem dX9_takeFollow_98 : decode cX9_takeFollow 98 = .ok (.iload_n 2, 1) := by decide +kernel
theorem dX9_takeFollow_99 : decode cX9_takeFollow 99 = .ok (.ishl, 1) := by decide +kernel
theorem dX9_takeFollow_100 : decode cX9_takeFollow 100 = .ok (.ior, 1) := by decide +kernel
theorem dX9_takeFollow_101 : decode cX9_takeFollow 101 = .ok (.iastore, 1) := by decide +kernel
theorem dX9_takeFollow_102 : decode cX9_takeFollow 102 = .ok (.iconst 0, 1) := by decide +kernel
theorem dX9_takeFollow_103 : decode cX9_takeFollow 103 = .ok (.ireturn, 1) := by decide +kernel
theorem dX9_isFull_0 : decode cX9_isFull 0 = .ok (.iload_n 1, 1) := by decide +kernel
theorem dX9_isFull_1 : decode cX9_isFull 1 = .ok (.tableswitch 61 0 2 #[27, 32, 46], 27) := by decide +kernel
theorem dX9_isFull_28 : decode cX9_isFull 28 = .ok (.aload_n 0, 1) := by decide +kernel
theorem dX9_isFull_29 : decode cX9_isFull 29 = .ok (.getfield 114, 3) := by decide +kernel
theorem dX9_isFull_32 : decode cX9_isFull 32 = .ok (.ireturn, 1) := by decide +kernel
theorem dX9_isFull_33 : decode cX9_isFull 33 = .ok (.aload_n 0, 1) := by decide +kernel
theorem dX9_isFull_34 : decode cX9_isFull 34 = .ok (.getfield 123, 3) := by decide +kernel
theorem dX9_isFull_37 : decode cX9_isFull 37 = .ok (.iconst 5, 1) := by decide +kernel
theorem dX9_isFull_38 : decode cX9_isFull 38 = .ok (.if_icmp .ne 7, 3) := by decide +kernel
theorem dX9_isFull_41 : decode cX9_isFull 41 = .ok (.iconst 1, 1) := by decide +kernel
theorem dX9_isFull_42 : decode cX9_isFull 42 = .ok (.goto 4, 3) := by decide +kernel
theorem dX9_isFull_45 : decode cX9_isFull 45 = .ok (.iconst 0, 1) := by decide +kernel
theorem dX9_isFull_46 : decode cX9_isFull 46 = .ok (.ireturn, 1) := by decide +kernel
theorem dX9_isFull_47 : decode cX9_isFull 47 = .ok (.aload_n 0, 1) := by decide +kernel
theorem dX9_isFull_48 : decode cX9_isFull 48 = .ok (.getfield 130, 3) := by decide +kernel
theorem dX9_isFull_51 : decode cX9_isFull 51 = .ok (.bipush 10, 2) := by decide +kernel
theorem dX9_isFull_53 : decode cX9_isFull 53 = .ok (.if_icmp .ne 7, 3) := by decide +kernel
theorem dX9_isFull_56 : decode cX9_isFull 56 = .ok (.iconst 1, 1) := by decide +kernel
theorem dX9_isFull_57 : decode cX9_isFull 57 = .ok (.goto 4, 3) := by decide +kernel
theorem dX9_isFull_60 : decode cX9_isFull 60 = .ok (.iconst 0, 1) := by decide +kernel
theorem dX9_isFull_61 : decode cX9_isFull 61 = .ok (.ireturn, 1) := by decide +kernel
theorem dX9_isFull_62 : decode cX9_isFull 62 = .ok (.aload_n 0, 1) := by decide +kernel
theorem dX9_isFull_63 : decode cX9_isFull 63 = .ok (.getfield 133, 3) := by decide +kernel
theorem dX9_isFull_66 : decode cX9_isFull 66 = .ok (.bipush 15, 2) := by decide +kernel
theorem dX9_isFull_68 : decode cX9_isFull 68 = .ok (.if_icmp .ne 7, 3) := by decide +kernel
theorem dX9_isFull_71 : decode cX9_isFull 71 = .ok (.iconst 1, 1) := by decide +kernel
theorem dX9_isFull_72 : decode cX9_isFull 72 = .ok (.goto 4, 3) := by decide +kernel
theorem dX9_isFull_75 : decode cX9_isFull 75 = .ok (.iconst 0, 1) := by decide +kernel
theorem dX9_isFull_76 : decode cX9_isFull 76 = .ok (.ireturn, 1) := by decide +kernel
set_option maxRecDepth 20000 in
theorem ggX9_takeClause_X9_here : GoodIn wsX9_takeClause wsX9_here := goodIn_r _ [7, 2, 8, 9, 63, 64, 65, 66, 67, 68, 69, 70, 71, 72, 73, 74, 75, 76, 77, 78, 79, 80, 81, 82, 83, 84, 85, 86, 87, 88, 89, 90, 91, 92, 93, 94, 95, 96, 97, 98, 99, 100] (by decide +kernel) (by decide +kernel)
set_option maxRecDepth 20000 in
theorem gX9_takeClause_X9_here : GoodIn wsX9_takeClause (wsV RX9 93 RX9 yX9_here wsX9_here) := goodIn_app (goodIn_of _ (by decide +kernel)) ggX9_takeClause_X9_here
set_option maxRecDepth 20000 in
theorem ggX9_takeClause_X9_fails : GoodIn wsX9_takeClause wsX9_fails := goodIn_r _ [13, 14, 63, 64, 65, 66, 67, 68, 69, 70, 71, 72, 73, 74, 75, 76, 77, 78, 79, 80, 81, 82, 83, 84, 85, 86, 87, 88, 89, 90, 91, 92, 93, 94, 95, 96, 97, 98, 99, 100] (by decide +kernel) (by decide +kernel)
set_option maxRecDepth 20000 in
theorem gX9_takeClause_X9_fails : GoodIn wsX9_takeClause (wsV RX9 101 RX9 yX9_fails wsX9_fails) := goodIn_app (goodIn_of _ (by decide +kernel)) ggX9_takeClause_X9_fails
set_option maxRecDepth 20000 in
theorem ggX9_takeClause_X9_isFull : GoodIn wsX9_takeClause wsX9_isFull := goodIn_r _ [18, 1, 19, 20, 21, 63, 64, 65, 66, 67, 68, 69, 70, 71, 72, 73, 74, 75, 76, 77, 78, 79, 80, 81, 82, 83, 84, 85, 86, 87, 88, 89, 90, 91, 92, 93, 94, 95, 96, 97, 98, 99, 100] (by decide +kernel) (by decide +kernel)
set_option maxRecDepth 20000 in
theorem gX9_takeClause_X9_isFull : GoodIn wsX9_takeClause (wsV RX9 140 RX9 yX9_isFull wsX9_isFull) := goodIn_app (goodIn_of _ (by decide +kernel)) ggX9_takeClause_X9_isFull
set_option maxRecDepth 20000 in
theorem ggX9_takeClause_X9_takeYard : GoodIn wsX9_takeClause wsX9_takeYard := goodIn_r _ [25, 1, 26, 27, 28, 29, 30, 31, 6, 32, 33, 34, 2, 35, 8, 9, 3, 4, 5, 7, 36, 37, 38, 10, 11, 12, 13, 14, 63, 64, 65, 66, 67, 68, 69, 70, 71, 72, 73, 74, 75, 76, 77, 78, 79, 80, 81, 82, 83, 84, 85, 86, 87, 88, 89, 90, 91, 92, 93, 94, 95, 96, 97, 98, 99, 100] (by decide +kernel) (by decide +kernel)
set_option maxRecDepth 20000 in
theorem gX9_takeClause_X9_takeYard : GoodIn wsX9_takeClause (wsV RX9 144 RX9 yX9_takeYard wsX9_takeYard) := goodIn_app (goodIn_of _ (by decide +kernel)) ggX9_takeClause_X9_takeYard
set_option maxRecDepth 20000 in
theorem ggX9_takeClause_X9_takePerson : GoodIn wsX9_takeClause wsX9_takePerson := goodIn_r _ [42, 19, 43, 44, 45, 46, 6, 47, 26, 29, 30, 31, 32, 33, 34, 2, 35, 8, 9, 3, 4, 5, 7, 36, 37, 38, 10, 11, 12, 13, 14, 63, 64, 65, 66, 67, 68, 69, 70, 71, 72, 73, 74, 75, 76, 77, 78, 79, 80, 81, 82, 83, 84, 85, 86, 87, 88, 89, 90, 91, 92, 93, 94, 95, 96, 97, 98, 99, 100] (by decide +kernel) (by decide +kernel)
set_option maxRecDepth 20000 in
theorem gX9_takeClause_X9_takePerson : GoodIn wsX9_takeClause (wsV RX9 147 RX9 yX9_takePerson wsX9_takePerson) := goodIn_app (goodIn_of _ (by decide +kernel)) ggX9_takeClause_X9_takePerson
set_option maxRecDepth 20000 in
theorem ggX9_takeClause_X9_takeSaying : GoodIn wsX9_takeClause wsX9_takeSaying := goodIn_r _ [51, 20, 52, 53, 19, 54, 55, 44, 45, 46, 6, 47, 26, 29, 30, 31, 32, 33, 34, 2, 35, 8, 9, 3, 4, 5, 7, 36, 37, 38, 10, 11, 12, 13, 14, 63, 64, 65, 66, 67, 68, 69, 70, 71, 72, 73, 74, 75, 76, 77, 78, 79, 80, 81, 82, 83, 84, 85, 86, 87, 88, 89, 90, 91, 92, 93, 94, 95, 96, 97, 98, 99, 100] (by decide +kernel) (by decide +kernel)
set_option maxRecDepth 20000 in
theorem gX9_takeClause_X9_takeSaying : GoodIn wsX9_takeClause (wsV RX9 150 RX9 yX9_takeSaying wsX9_takeSaying) := goodIn_app (goodIn_of _ (by decide +kernel)) ggX9_takeClause_X9_takeSaying
set_option maxRecDepth 20000 in
theorem ggX9_takeClause_X9_takeFollow : GoodIn wsX9_takeClause wsX9_takeFollow := goodIn_r _ [59, 21, 20, 26, 52, 35, 29, 30, 31, 6, 32, 33, 34, 2, 8, 9, 3, 4, 5, 7, 36, 37, 38, 10, 11, 12, 13, 14, 60, 61, 62, 63, 64, 65, 66, 67, 68, 69, 70, 71, 72, 73, 74, 75, 76, 77, 78, 79, 80, 81, 82, 83, 84, 85, 86, 87, 88, 89, 90, 91, 92, 93, 94, 95, 96, 97, 98, 99, 100] (by decide +kernel) (by decide +kernel)
set_option maxRecDepth 20000 in
theorem gX9_takeClause_X9_takeFollow : GoodIn wsX9_takeClause (wsV RX9 153 RX9 yX9_takeFollow wsX9_takeFollow) := goodIn_app (goodIn_of _ (by decide +kernel)) ggX9_takeClause_X9_takeFollow
theorem dX9_takeClause_0 : decode cX9_takeClause 0 = .ok (.aload_n 0, 1) := by decide +kernel
theorem dX9_takeClause_1 : decode cX9_takeClause 1 = .ok (.invokevirtual 93, 3) := by decide +kernel
theorem dX9_takeClause_4 : decode cX9_takeClause 4 = .ok (.istore_n 1, 1) := by decide +kernel
theorem dX9_takeClause_5 : decode cX9_takeClause 5 = .ok (.iload_n 1, 1) := by decide +kernel
theorem dX9_takeClause_6 : decode cX9_takeClause 6 = .ok (.bipush 121, 2) := by decide +kernel
theorem dX9_takeClause_8 : decode cX9_takeClause 8 = .ok (.if_icmp .ne 7, 3) := by decide +kernel
theorem dX9_takeClause_11 : decode cX9_takeClause 11 = .ok (.iconst 0, 1) := by decide +kernel
theorem dX9_takeClause_12 : decode cX9_takeClause 12 = .ok (.goto 34, 3) := by decide +kernel
theorem dX9_takeClause_15 : decode cX9_takeClause 15 = .ok (.iload_n 1, 1) := by decide +kernel
theorem dX9_takeClause_16 : decode cX9_takeClause 16 = .ok (.bipush 112, 2) := by decide +kernel
theorem dX9_takeClause_18 : decode cX9_takeClause 18 = .ok (.if_icmp .ne 7, 3) := by decide +kernel
theorem dX9_takeClause_21 : decode cX9_takeClause 21 = .ok (.iconst 1, 1) := by decide +kernel
theorem dX9_takeClause_22 : decode cX9_takeClause 22 = .ok (.goto 24, 3) := by decide +kernel
theorem dX9_takeClause_25 : decode cX9_takeClause 25 = .ok (.iload_n 1, 1) := by decide +kernel
theorem dX9_takeClause_26 : decode cX9_takeClause 26 = .ok (.bipush 115, 2) := by decide +kernel
theorem dX9_takeClause_28 : decode cX9_takeClause 28 = .ok (.if_icmp .ne 7, 3) := by decide +kernel
theorem dX9_takeClause_31 : decode cX9_takeClause 31 = .ok (.iconst 2, 1) := by decide +kernel
theorem dX9_takeClause_32 : decode cX9_takeClause 32 = .ok (.goto 14, 3) := by decide +kernel
theorem dX9_takeClause_35 : decode cX9_takeClause 35 = .ok (.iload_n 1, 1) := by decide +kernel
theorem dX9_takeClause_36 : decode cX9_takeClause 36 = .ok (.bipush 102, 2) := by decide +kernel
theorem dX9_takeClause_38 : decode cX9_takeClause 38 = .ok (.if_icmp .ne 7, 3) := by decide +kernel
theorem dX9_takeClause_41 : decode cX9_takeClause 41 = .ok (.iconst 3, 1) := by decide +kernel
theorem dX9_takeClause_42 : decode cX9_takeClause 42 = .ok (.goto 4, 3) := by decide +kernel
theorem dX9_takeClause_45 : decode cX9_takeClause 45 = .ok (.iconst (-1), 1) := by decide +kernel
theorem dX9_takeClause_46 : decode cX9_takeClause 46 = .ok (.istore_n 2, 1) := by decide +kernel
theorem dX9_takeClause_47 : decode cX9_takeClause 47 = .ok (.iload_n 2, 1) := by decide +kernel
theorem dX9_takeClause_48 : decode cX9_takeClause 48 = .ok (.ifCond .lt 14, 3) := by decide +kernel
theorem dX9_takeClause_51 : decode cX9_takeClause 51 = .ok (.iload_n 2, 1) := by decide +kernel
theorem dX9_takeClause_52 : decode cX9_takeClause 52 = .ok (.ifCond .le 20, 3) := by decide +kernel
theorem dX9_takeClause_55 : decode cX9_takeClause 55 = .ok (.aload_n 0, 1) := by decide +kernel
theorem dX9_takeClause_56 : decode cX9_takeClause 56 = .ok (.getfield 114, 3) := by decide +kernel
theorem dX9_takeClause_59 : decode cX9_takeClause 59 = .ok (.ifCond .ne 13, 3) := by decide +kernel
theorem dX9_takeClause_62 : decode cX9_takeClause 62 = .ok (.aload_n 0, 1) := by decide +kernel
theorem dX9_takeClause_63 : decode cX9_takeClause 63 = .ok (.iconst 1, 1) := by decide +kernel
theorem dX9_takeClause_64 : decode cX9_takeClause 64 = .ok (.aload_n 0, 1) := by decide +kernel
theorem dX9_takeClause_65 : decode cX9_takeClause 65 = .ok (.getfield 90, 3) := by decide +kernel
theorem dX9_takeClause_68 : decode cX9_takeClause 68 = .ok (.invokevirtual 101, 3) := by decide +kernel
theorem dX9_takeClause_71 : decode cX9_takeClause 71 = .ok (.ireturn, 1) := by decide +kernel
theorem dX9_takeClause_72 : decode cX9_takeClause 72 = .ok (.aload_n 0, 1) := by decide +kernel
theorem dX9_takeClause_73 : decode cX9_takeClause 73 = .ok (.iload_n 2, 1) := by decide +kernel
theorem dX9_takeClause_74 : decode cX9_takeClause 74 = .ok (.invokevirtual 140, 3) := by decide +kernel
theorem dX9_takeClause_77 : decode cX9_takeClause 77 = .ok (.ifCond .eq 13, 3) := by decide +kernel
theorem dX9_takeClause_80 : decode cX9_takeClause 80 = .ok (.aload_n 0, 1) := by decide +kernel
theorem dX9_takeClause_81 : decode cX9_takeClause 81 = .ok (.iconst 3, 1) := by decide +kernel
theorem dX9_takeClause_82 : decode cX9_takeClause 82 = .ok (.aload_n 0, 1) := by decide +kernel
theorem dX9_takeClause_83 : decode cX9_takeClause 83 = .ok (.getfield 90, 3) := by decide +kernel
theorem dX9_takeClause_86 : decode cX9_takeClause 86 = .ok (.invokevirtual 101, 3) := by decide +kernel
theorem dX9_takeClause_89 : decode cX9_takeClause 89 = .ok (.ireturn, 1) := by decide +kernel
theorem dX9_takeClause_90 : decode cX9_takeClause 90 = .ok (.aload_n 0, 1) := by decide +kernel
theorem dX9_takeClause_91 : decode cX9_takeClause 91 = .ok (.dup, 1) := by decide +kernel
theorem dX9_takeClause_92 : decode cX9_takeClause 92 = .ok (.getfield 90, 3) := by decide +kernel
theorem dX9_takeClause_95 : decode cX9_takeClause 95 = .ok (.iconst 1, 1) := by decide +kernel
theorem dX9_takeClause_96 : decode cX9_takeClause 96 = .ok (.iadd, 1) := by decide +kernel
theorem dX9_takeClause_97 : decode cX9_takeClause 97 = .ok (.putfield 90, 3) := by decide +kernel
theorem dX9_takeClause_100 : decode cX9_takeClause 100 = .ok (.iload_n 2, 1) := by decide +kernel
theorem dX9_takeClause_101 : decode cX9_takeClause 101 = .ok (.ifCond .ne 10, 3) := by decide +kernel
theorem dX9_takeClause_104 : decode cX9_takeClause 104 = .ok (.aload_n 0, 1) := by decide +kernel
theorem dX9_takeClause_105 : decode cX9_takeClause 105 = .ok (.invokevirtual 144, 3) := by decide +kernel
theorem dX9_takeClause_108 : decode cX9_takeClause 108 = .ok (.goto 31, 3) := by decide +kernel
theorem dX9_takeClause_111 : decode cX9_takeClause 111 = .ok (.iload_n 2, 1) := by decide +kernel
theorem dX9_takeClause_112 : decode cX9_takeClause 112 = .ok (.iconst 1, 1) := by decide +kernel
theorem dX9_takeClause_113 : decode cX9_takeClause 113 = .ok (.if_icmp .ne 10, 3) := by decide +kernel
theorem dX9_takeClause_116 : decode cX9_takeClause 116 = .ok (.aload_n 0, 1) := by decide +kernel
theorem dX9_takeClause_117 : decode cX9_takeClause 117 = .ok (.invokevirtual 147, 3) := by decide +kernel
theorem dX9_takeClause_120 : decode cX9_takeClause 120 = .ok (.goto 19, 3) := by decide +kernel
theorem dX9_takeClause_123 : decode cX9_takeClause 123 = .ok (.iload_n 2, 1) := by decide +kernel
theorem dX9_takeClause_124 : decode cX9_takeClause 124 = .ok (.iconst 2, 1) := by decide +kernel
theorem dX9_takeClause_125 : decode cX9_takeClause 125 = .ok (.if_icmp .ne 10, 3) := by decide +kernel
theorem dX9_takeClause_128 : decode cX9_takeClause 128 = .ok (.aload_n 0, 1) := by decide +kernel
theorem dX9_takeClause_129 : decode cX9_takeClause 129 = .ok (.invokevirtual 150, 3) := by decide +kernel
theorem dX9_takeClause_132 : decode cX9_takeClause 132 = .ok (.goto 7, 3) := by decide +kernel
theorem dX9_takeClause_135 : decode cX9_takeClause 135 = .ok (.aload_n 0, 1) := by decide +kernel
theorem dX9_takeClause_136 : decode cX9_takeClause 136 = .ok (.invokevirtual 153, 3) := by decide +kernel
theorem dX9_takeClause_139 : decode cX9_takeClause 139 = .ok (.istore_n 3, 1) := by decide +kernel
theorem dX9_takeClause_140 : decode cX9_takeClause 140 = .ok (.iload_n 3, 1) := by decide +kernel
theorem dX9_takeClause_141 : decode cX9_takeClause 141 = .ok (.ifCond .ne 22, 3) := by decide +kernel
theorem dX9_takeClause_144 : decode cX9_takeClause 144 = .ok (.aload_n 0, 1) := by decide +kernel
theorem dX9_takeClause_145 : decode cX9_takeClause 145 = .ok (.invokevirtual 93, 3) := by decide +kernel
theorem dX9_takeClause_148 : decode cX9_takeClause 148 = .ok (.bipush 59, 2) := by decide +kernel
theorem dX9_takeClause_150 : decode cX9_takeClause 150 = .ok (.if_icmp .eq 13, 3) := by decide +kernel
theorem dX9_takeClause_153 : decode cX9_takeClause 153 = .ok (.aload_n 0, 1) := by decide +kernel
theorem dX9_takeClause_154 : decode cX9_takeClause 154 = .ok (.iconst 1, 1) := by decide +kernel
theorem dX9_takeClause_155 : decode cX9_takeClause 155 = .ok (.aload_n 0, 1) := by decide +kernel
theorem dX9_takeClause_156 : decode cX9_takeClause 156 = .ok (.getfield 90, 3) := by decide +kernel
theorem dX9_takeClause_159 : decode cX9_takeClause 159 = .ok (.invokevirtual 101, 3) := by decide +kernel
theorem dX9_takeClause_162 : decode cX9_takeClause 162 = .ok (.ireturn, 1) := by decide +kernel
theorem dX9_takeClause_163 : decode cX9_takeClause 163 = .ok (.aload_n 0, 1) := by decide +kernel
theorem dX9_takeClause_164 : decode cX9_takeClause 164 = .ok (.dup, 1) := by decide +kernel
theorem dX9_takeClause_165 : decode cX9_takeClause 165 = .ok (.getfield 90, 3) := by decide +kernel
theorem dX9_takeClause_168 : decode cX9_takeClause 168 = .ok (.iconst 1, 1) := by decide +kernel
theorem dX9_takeClause_169 : decode cX9_takeClause 169 = .ok (.iadd, 1) := by decide +kernel
theorem dX9_takeClause_170 : decode cX9_takeClause 170 = .ok (.putfield 90, 3) := by decide +kernel
theorem dX9_takeClause_173 : decode cX9_takeClause 173 = .ok (.iload_n 3, 1) := by decide +kernel
theorem dX9_takeClause_174 : decode cX9_takeClause 174 = .ok (.ireturn, 1) := by decide +kernel
theorem dX9_copyRow_0 : decode cX9_copyRow 0 = .ok (.iconst 0, 1) := by decide +kernel
theorem dX9_copyRow_1 : decode cX9_copyRow 1 = .ok (.istore_n 3, 1) := by decide +kernel
theorem dX9_copyRow_2 : decode cX9_copyRow 2 = .ok (.iload_n 3, 1) := by decide +kernel
theorem dX9_copyRow_3 : decode cX9_copyRow 3 = .ok (.iload_n 2, 1) := by decide +kernel
theorem dX9_copyRow_4 : decode cX9_copyRow 4 = .ok (.if_icmp .ge 15, 3) := by decide +kernel
theorem dX9_copyRow_7 : decode cX9_copyRow 7 = .ok (.aload_n 1, 1) := by decide +kernel
theorem dX9_copyRow_8 : decode cX9_copyRow 8 = .ok (.iload_n 3, 1) := by decide +kernel
theorem dX9_copyRow_9 : decode cX9_copyRow 9 = .ok (.aload_n 0, 1) := by decide +kernel
theorem dX9_copyRow_10 : decode cX9_copyRow 10 = .ok (.iload_n 3, 1) := by decide +kernel
theorem dX9_copyRow_11 : decode cX9_copyRow 11 = .ok (.iaload, 1) := by decide +kernel
theorem dX9_copyRow_12 : decode cX9_copyRow 12 = .ok (.iastore, 1) := by decide +kernel
theorem dX9_copyRow_13 : decode cX9_copyRow 13 = .ok (.iinc 3 1, 3) := by decide +kernel
theorem dX9_copyRow_16 : decode cX9_copyRow 16 = .ok (.goto (-14), 3) := by decide +kernel
theorem dX9_copyRow_19 : decode cX9_copyRow 19 = .ok (.return_, 1) := by decide +kernel
set_option maxRecDepth 20000 in
theorem ggX9_takeRead_X9_copyRow : GoodIn wsX9_takeRead wsX9_copyRow := goodIn_r _ [27] (by decide +kernel) (by decide +kernel)
set_option maxRecDepth 20000 in
theorem gX9_takeRead_X9_copyRow : GoodIn wsX9_takeRead (va_wsS RX9 165 yX9_copyRow wsX9_copyRow) := goodIn_app (goodIn_of _ (by decide +kernel)) ggX9_takeRead_X9_copyRow
theorem dX9_takeRead_0 : decode cX9_takeRead 0 = .ok (.aload_n 0, 1) := by decide +kernel
theorem dX9_takeRead_1 : decode cX9_takeRead 1 = .ok (.aload_n 0, 1) := by decide +kernel
theorem dX9_takeRead_2 : decode cX9_takeRead 2 = .ok (.getfield 114, 3) := by decide +kernel
theorem dX9_takeRead_5 : decode cX9_takeRead 5 = .ok (.putfield 69, 3) := by decide +kernel
theorem dX9_takeRead_8 : decode cX9_takeRead 8 = .ok (.aload_n 0, 1) := by decide +kernel
theorem dX9_takeRead_9 : decode cX9_takeRead 9 = .ok (.aload_n 0, 1) := by decide +kernel
theorem dX9_takeRead_10 : decode cX9_takeRead 10 = .ok (.getfield 114, 3) := by decide +kernel
theorem dX9_takeRead_13 : decode cX9_takeRead 13 = .ok (.ifCond .eq 10, 3) := by decide +kernel
theorem dX9_takeRead_16 : decode cX9_takeRead 16 = .ok (.aload_n 0, 1) := by decide +kernel
theorem dX9_takeRead_17 : decode cX9_takeRead 17 = .ok (.getfield 117, 3) := by decide +kernel
theorem dX9_takeRead_20 : decode cX9_takeRead 20 = .ok (.goto 4, 3) := by decide +kernel
theorem dX9_takeRead_23 : decode cX9_takeRead 23 = .ok (.iconst 0, 1) := by decide +kernel
theorem dX9_takeRead_24 : decode cX9_takeRead 24 = .ok (.putfield 156, 3) := by decide +kernel
theorem dX9_takeRead_27 : decode cX9_takeRead 27 = .ok (.aload_n 0, 1) := by decide +kernel
theorem dX9_takeRead_28 : decode cX9_takeRead 28 = .ok (.aload_n 0, 1) := by decide +kernel
theorem dX9_takeRead_29 : decode cX9_takeRead 29 = .ok (.getfield 114, 3) := by decide +kernel
theorem dX9_takeRead_32 : decode cX9_takeRead 32 = .ok (.ifCond .eq 10, 3) := by decide +kernel
theorem dX9_takeRead_35 : decode cX9_takeRead 35 = .ok (.aload_n 0, 1) := by decide +kernel
theorem dX9_takeRead_36 : decode cX9_takeRead 36 = .ok (.getfield 120, 3) := by decide +kernel
theorem dX9_takeRead_39 : decode cX9_takeRead 39 = .ok (.goto 4, 3) := by decide +kernel
theorem dX9_takeRead_42 : decode cX9_takeRead 42 = .ok (.iconst 0, 1) := by decide +kernel
theorem dX9_takeRead_43 : decode cX9_takeRead 43 = .ok (.putfield 159, 3) := by decide +kernel
theorem dX9_takeRead_46 : decode cX9_takeRead 46 = .ok (.aload_n 0, 1) := by decide +kernel
theorem dX9_takeRead_47 : decode cX9_takeRead 47 = .ok (.aload_n 0, 1) := by decide +kernel
theorem dX9_takeRead_48 : decode cX9_takeRead 48 = .ok (.getfield 123, 3) := by decide +kernel
theorem dX9_takeRead_51 : decode cX9_takeRead 51 = .ok (.putfield 73, 3) := by decide +kernel
theorem dX9_takeRead_54 : decode cX9_takeRead 54 = .ok (.aload_n 0, 1) := by decide +kernel
theorem dX9_takeRead_55 : decode cX9_takeRead 55 = .ok (.aload_n 0, 1) := by decide +kernel
theorem dX9_takeRead_56 : decode cX9_takeRead 56 = .ok (.getfield 130, 3) := by decide +kernel
theorem dX9_takeRead_59 : decode cX9_takeRead 59 = .ok (.putfield 80, 3) := by decide +kernel
theorem dX9_takeRead_62 : decode cX9_takeRead 62 = .ok (.aload_n 0, 1) := by decide +kernel
theorem dX9_takeRead_63 : decode cX9_takeRead 63 = .ok (.aload_n 0, 1) := by decide +kernel
theorem dX9_takeRead_64 : decode cX9_takeRead 64 = .ok (.getfield 133, 3) := by decide +kernel
theorem dX9_takeRead_67 : decode cX9_takeRead 67 = .ok (.putfield 162, 3) := by decide +kernel
theorem dX9_takeRead_70 : decode cX9_takeRead 70 = .ok (.aload_n 0, 1) := by decide +kernel
theorem dX9_takeRead_71 : decode cX9_takeRead 71 = .ok (.getfield 35, 3) := by decide +kernel
theorem dX9_takeRead_74 : decode cX9_takeRead 74 = .ok (.aload_n 0, 1) := by decide +kernel
theorem dX9_takeRead_75 : decode cX9_takeRead 75 = .ok (.getfield 7, 3) := by decide +kernel
theorem dX9_takeRead_78 : decode cX9_takeRead 78 = .ok (.aload_n 0, 1) := by decide +kernel
theorem dX9_takeRead_79 : decode cX9_takeRead 79 = .ok (.getfield 73, 3) := by decide +kernel
theorem dX9_takeRead_82 : decode cX9_takeRead 82 = .ok (.invokestatic 165, 3) := by decide +kernel
theorem dX9_takeRead_85 : decode cX9_takeRead 85 = .ok (.aload_n 0, 1) := by decide +kernel
theorem dX9_takeRead_86 : decode cX9_takeRead 86 = .ok (.getfield 38, 3) := by decide +kernel
theorem dX9_takeRead_89 : decode cX9_takeRead 89 = .ok (.aload_n 0, 1) := by decide +kernel
theorem dX9_takeRead_90 : decode cX9_takeRead 90 = .ok (.getfield 13, 3) := by decide +kernel
theorem dX9_takeRead_93 : decode cX9_takeRead 93 = .ok (.aload_n 0, 1) := by decide +kernel
theorem dX9_takeRead_94 : decode cX9_takeRead 94 = .ok (.getfield 80, 3) := by decide +kernel
theorem dX9_takeRead_97 : decode cX9_takeRead 97 = .ok (.invokestatic 165, 3) := by decide +kernel
theorem dX9_takeRead_100 : decode cX9_takeRead 100 = .ok (.aload_n 0, 1) := by decide +kernel
theorem dX9_takeRead_101 : decode cX9_takeRead 101 = .ok (.getfield 41, 3) := by decide +kernel
theorem dX9_takeRead_104 : decode cX9_takeRead 104 = .ok (.aload_n 0, 1) := by decide +kernel
theorem dX9_takeRead_105 : decode cX9_takeRead 105 = .ok (.getfield 16, 3) := by decide +kernel
theorem dX9_takeRead_108 : decode cX9_takeRead 108 = .ok (.aload_n 0, 1) := by decide +kernel
theorem dX9_takeRead_109 : decode cX9_takeRead 109 = .ok (.getfield 80, 3) := by decide +kernel
theorem dX9_takeRead_112 : decode cX9_takeRead 112 = .ok (.invokestatic 165, 3) := by decide +kernel
theorem dX9_takeRead_115 : decode cX9_takeRead 115 = .ok (.aload_n 0, 1) := by decide +kernel
theorem dX9_takeRead_116 : decode cX9_takeRead 116 = .ok (.getfield 44, 3) := by decide +kernel
theorem dX9_takeRead_119 : decode cX9_takeRead 119 = .ok (.aload_n 0, 1) := by decide +kernel
theorem dX9_takeRead_120 : decode cX9_takeRead 120 = .ok (.getfield 19, 3) := by decide +kernel
theorem dX9_takeRead_123 : decode cX9_takeRead 123 = .ok (.aload_n 0, 1) := by decide +kernel
theorem dX9_takeRead_124 : decode cX9_takeRead 124 = .ok (.getfield 80, 3) := by decide +kernel
theorem dX9_takeRead_127 : decode cX9_takeRead 127 = .ok (.invokestatic 165, 3) := by decide +kernel
theorem dX9_takeRead_130 : decode cX9_takeRead 130 = .ok (.aload_n 0, 1) := by decide +kernel
theorem dX9_takeRead_131 : decode cX9_takeRead 131 = .ok (.getfield 47, 3) := by decide +kernel
theorem dX9_takeRead_134 : decode cX9_takeRead 134 = .ok (.aload_n 0, 1) := by decide +kernel
theorem dX9_takeRead_135 : decode cX9_takeRead 135 = .ok (.getfield 22, 3) := by decide +kernel
theorem dX9_takeRead_138 : decode cX9_takeRead 138 = .ok (.aload_n 0, 1) := by decide +kernel
theorem dX9_takeRead_139 : decode cX9_takeRead 139 = .ok (.getfield 80, 3) := by decide +kernel
theorem dX9_takeRead_142 : decode cX9_takeRead 142 = .ok (.invokestatic 165, 3) := by decide +kernel
theorem dX9_takeRead_145 : decode cX9_takeRead 145 = .ok (.iconst 0, 1) := by decide +kernel
theorem dX9_takeRead_146 : decode cX9_takeRead 146 = .ok (.istore_n 1, 1) := by decide +kernel
theorem dX9_takeRead_147 : decode cX9_takeRead 147 = .ok (.iload_n 1, 1) := by decide +kernel
theorem dX9_takeRead_148 : decode cX9_takeRead 148 = .ok (.bipush 23, 2) := by decide +kernel
theorem dX9_takeRead_150 : decode cX9_takeRead 150 = .ok (.if_icmp .ge 16, 3) := by decide +kernel
theorem dX9_takeRead_153 : decode cX9_takeRead 153 = .ok (.aload_n 0, 1) := by decide +kernel
theorem dX9_takeRead_154 : decode cX9_takeRead 154 = .ok (.getfield 25, 3) := by decide +kernel
theorem dX9_takeRead_157 : decode cX9_takeRead 157 = .ok (.iload_n 1, 1) := by decide +kernel
theorem dX9_takeRead_158 : decode cX9_takeRead 158 = .ok (.iconst 0, 1) := by decide +kernel
theorem dX9_takeRead_159 : decode cX9_takeRead 159 = .ok (.iastore, 1) := by decide +kernel
theorem dX9_takeRead_160 : decode cX9_takeRead 160 = .ok (.iinc 1 1, 3) := by decide +kernel
theorem dX9_takeRead_163 : decode cX9_takeRead 163 = .ok (.goto (-16), 3) := by decide +kernel
theorem dX9_takeRead_166 : decode cX9_takeRead 166 = .ok (.aload_n 0, 1) := by decide +kernel
theorem dX9_takeRead_167 : decode cX9_takeRead 167 = .ok (.getfield 25, 3) := by decide +kernel
theorem dX9_takeRead_170 : decode cX9_takeRead 170 = .ok (.bipush 12, 2) := by decide +kernel
theorem dX9_takeRead_172 : decode cX9_takeRead 172 = .ok (.aload_n 0, 1) := by decide +kernel
theorem dX9_takeRead_173 : decode cX9_takeRead 173 = .ok (.getfield 156, 3) := by decide +kernel
theorem dX9_takeRead_176 : decode cX9_takeRead 176 = .ok (.iastore, 1) := by decide +kernel
theorem dX9_takeRead_177 : decode cX9_takeRead 177 = .ok (.return_, 1) := by decide +kernel
set_option maxRecDepth 20000 in
theorem ggX9_yard_X9_here : GoodIn wsX9_yard wsX9_here := goodIn_r _ [16, 2, 7, 17, 89, 90, 91, 92, 93, 94, 95, 96, 97, 98, 99, 100, 101, 102, 103, 104, 105, 106, 107, 108, 109, 110, 111, 112, 113, 114, 115, 116, 117, 118, 119, 120, 121, 122, 123, 124, 125, 126] (by decide +kernel) (by decide +kernel)
set_option maxRecDepth 20000 in
theorem gX9_yard_X9_here : GoodIn wsX9_yard (wsV RX9 93 RX9 yX9_here wsX9_here) := goodIn_app (goodIn_of _ (by decide +kernel)) ggX9_yard_X9_here
set_option maxRecDepth 20000 in
theorem ggX9_yard_X9_takeClause : GoodIn wsX9_yard wsX9_takeClause := goodIn_r _ [21, 3, 2, 12, 13, 14, 15, 16, 7, 17, 22, 23, 24, 25, 1, 26, 27, 28, 29, 4, 5, 6, 30, 31, 32, 33, 34, 35, 36, 37, 38, 39, 40, 41, 42, 43, 44, 45, 46, 47, 48, 49, 50, 51, 52, 53, 54, 55, 56, 57, 58, 59, 60, 61, 62, 63, 64, 65, 66, 67, 68, 69, 70, 89, 90, 91, 92, 93, 94, 95, 96, 97, 98, 99, 100, 101, 102, 103, 104, 105, 106, 107, 108, 109, 110, 111, 112, 113, 114, 115, 116, 117, 118, 119, 120, 121, 122, 123, 124, 125, 126] (by decide +kernel) (by decide +kernel)
set_option maxRecDepth 20000 in
theorem gX9_yard_X9_takeClause : GoodIn wsX9_yard (wsV RX9 169 RX9 yX9_takeClause wsX9_takeClause) := goodIn_app (goodIn_of _ (by decide +kernel)) ggX9_yard_X9_takeClause
set_option maxRecDepth 20000 in
theorem ggX9_yard_X9_takeRead : GoodIn wsX9_yard wsX9_takeRead := goodIn_r _ [74, 3, 75, 35, 76, 36, 77, 4, 78, 5, 11, 6, 79, 51, 80, 61, 81, 62, 82, 63, 83, 60, 84, 85, 86, 87, 15, 88, 89, 90, 91, 92, 93, 94, 95, 96, 97, 98, 99, 100, 101, 102, 103, 104, 105, 106, 107, 108, 109, 110, 111, 112, 113, 114, 115, 116, 117, 118, 119, 120, 121, 122, 123, 124, 125, 126] (by decide +kernel) (by decide +kernel)
set_option maxRecDepth 20000 in
theorem gX9_yard_X9_takeRead : GoodIn wsX9_yard (wsV RX9 172 RX9 yX9_takeRead wsX9_takeRead) := goodIn_app (goodIn_of _ (by decide +kernel)) ggX9_yard_X9_takeRead
theorem dX9_yard_0 : decode cX9_yard 0 = .ok (.aload_n 0, 1) := by decide +kernel
theorem dX9_yard_1 : decode cX9_yard 1 = .ok (.iconst (-1), 1) := by decide +kernel
theorem dX9_yard_2 : decode cX9_yard 2 = .ok (.putfield 31, 3) := by decide +kernel
theorem dX9_yard_5 : decode cX9_yard 5 = .ok (.aload_n 0, 1) := by decide +kernel
theorem dX9_yard_6 : decode cX9_yard 6 = .ok (.iconst 0, 1) := by decide +kernel
theorem dX9_yard_7 : decode cX9_yard 7 = .ok (.putfield 90, 3) := by decide +kernel
theorem dX9_yard_10 : decode cX9_yard 10 = .ok (.aload_n 0, 1) := by decide +kernel
theorem dX9_yard_11 : decode cX9_yard 11 = .ok (.iconst 0, 1) := by decide +kernel
theorem dX9_yard_12 : decode cX9_yard 12 = .ok (.putfield 114, 3) := by decide +kernel
theorem dX9_yard_15 : decode cX9_yard 15 = .ok (.aload_n 0, 1) := by decide +kernel
theorem dX9_yard_16 : decode cX9_yard 16 = .ok (.iconst 0, 1) := by decide +kernel
theorem dX9_yard_17 : decode cX9_yard 17 = .ok (.putfield 123, 3) := by decide +kernel
theorem dX9_yard_20 : decode cX9_yard 20 = .ok (.aload_n 0, 1) := by decide +kernel
theorem dX9_yard_21 : decode cX9_yard 21 = .ok (.iconst 0, 1) := by decide +kernel
theorem dX9_yard_22 : decode cX9_yard 22 = .ok (.putfield 130, 3) := by decide +kernel
theorem dX9_yard_25 : decode cX9_yard 25 = .ok (.aload_n 0, 1) := by decide +kernel
theorem dX9_yard_26 : decode cX9_yard 26 = .ok (.iconst 0, 1) := by decide +kernel
theorem dX9_yard_27 : decode cX9_yard 27 = .ok (.putfield 133, 3) := by decide +kernel
theorem dX9_yard_30 : decode cX9_yard 30 = .ok (.iconst 0, 1) := by decide +kernel
theorem dX9_yard_31 : decode cX9_yard 31 = .ok (.istore_n 1, 1) := by decide +kernel
theorem dX9_yard_32 : decode cX9_yard 32 = .ok (.iload_n 1, 1) := by decide +kernel
theorem dX9_yard_33 : decode cX9_yard 33 = .ok (.ifCond .ne 18, 3) := by decide +kernel
theorem dX9_yard_36 : decode cX9_yard 36 = .ok (.aload_n 0, 1) := by decide +kernel
theorem dX9_yard_37 : decode cX9_yard 37 = .ok (.invokevirtual 93, 3) := by decide +kernel
theorem dX9_yard_40 : decode cX9_yard 40 = .ok (.ifCond .lt 11, 3) := by decide +kernel
theorem dX9_yard_43 : decode cX9_yard 43 = .ok (.aload_n 0, 1) := by decide +kernel
theorem dX9_yard_44 : decode cX9_yard 44 = .ok (.invokevirtual 169, 3) := by decide +kernel
theorem dX9_yard_47 : decode cX9_yard 47 = .ok (.istore_n 1, 1) := by decide +kernel
theorem dX9_yard_48 : decode cX9_yard 48 = .ok (.goto (-16), 3) := by decide +kernel
theorem dX9_yard_51 : decode cX9_yard 51 = .ok (.aload_n 0, 1) := by decide +kernel
theorem dX9_yard_52 : decode cX9_yard 52 = .ok (.iconst 0, 1) := by decide +kernel
theorem dX9_yard_53 : decode cX9_yard 53 = .ok (.putfield 86, 3) := by decide +kernel
theorem dX9_yard_56 : decode cX9_yard 56 = .ok (.iload_n 1, 1) := by decide +kernel
theorem dX9_yard_57 : decode cX9_yard 57 = .ok (.ifCond .le 8, 3) := by decide +kernel
theorem dX9_yard_60 : decode cX9_yard 60 = .ok (.bipush (-10), 2) := by decide +kernel
theorem dX9_yard_62 : decode cX9_yard 62 = .ok (.iload_n 1, 1) := by decide +kernel
theorem dX9_yard_63 : decode cX9_yard 63 = .ok (.isub, 1) := by decide +kernel
theorem dX9_yard_64 : decode cX9_yard 64 = .ok (.ireturn, 1) := by decide +kernel
theorem dX9_yard_65 : decode cX9_yard 65 = .ok (.aload_n 0, 1) := by decide +kernel
theorem dX9_yard_66 : decode cX9_yard 66 = .ok (.invokevirtual 172, 3) := by decide +kernel
theorem dX9_yard_69 : decode cX9_yard 69 = .ok (.aload_n 0, 1) := by decide +kernel
theorem dX9_yard_70 : decode cX9_yard 70 = .ok (.iconst 0, 1) := by decide +kernel
theorem dX9_yard_71 : decode cX9_yard 71 = .ok (.putfield 175, 3) := by decide +kernel
theorem dX9_yard_74 : decode cX9_yard 74 = .ok (.aload_n 0, 1) := by decide +kernel
theorem dX9_yard_75 : decode cX9_yard 75 = .ok (.iconst 0, 1) := by decide +kernel
theorem dX9_yard_76 : decode cX9_yard 76 = .ok (.putfield 178, 3) := by decide +kernel
theorem dX9_yard_79 : decode cX9_yard 79 = .ok (.aload_n 0, 1) := by decide +kernel
theorem dX9_yard_80 : decode cX9_yard 80 = .ok (.getfield 66, 3) := by decide +kernel
theorem dX9_yard_83 : decode cX9_yard 83 = .ok (.iconst 0, 1) := by decide +kernel
theorem dX9_yard_84 : decode cX9_yard 84 = .ok (.iconst 0, 1) := by decide +kernel
theorem dX9_yard_85 : decode cX9_yard 85 = .ok (.bastore, 1) := by decide +kernel
theorem dX9_yard_86 : decode cX9_yard 86 = .ok (.aload_n 0, 1) := by decide +kernel
theorem dX9_yard_87 : decode cX9_yard 87 = .ok (.getfield 66, 3) := by decide +kernel
theorem dX9_yard_90 : decode cX9_yard 90 = .ok (.iconst 1, 1) := by decide +kernel
theorem dX9_yard_91 : decode cX9_yard 91 = .ok (.iconst 0, 1) := by decide +kernel
theorem dX9_yard_92 : decode cX9_yard 92 = .ok (.bastore, 1) := by decide +kernel
theorem dX9_yard_93 : decode cX9_yard 93 = .ok (.aload_n 0, 1) := by decide +kernel
theorem dX9_yard_94 : decode cX9_yard 94 = .ok (.getfield 80, 3) := by decide +kernel
theorem dX9_yard_97 : decode cX9_yard 97 = .ok (.ireturn, 1) := by decide +kernel
theorem dX9_fault_0 : decode cX9_fault 0 = .ok (.aload_n 0, 1) := by decide +kernel
theorem dX9_fault_1 : decode cX9_fault 1 = .ok (.getfield 31, 3) := by decide +kernel
theorem dX9_fault_4 : decode cX9_fault 4 = .ok (.ireturn, 1) := by decide +kernel
set_option maxRecDepth 20000 in
theorem ggX9_holdsBut_X9_has : GoodIn wsX9_holdsBut wsX9_has := goodIn_r _ [6] (by decide +kernel) (by decide +kernel)
set_option maxRecDepth 20000 in
theorem gX9_holdsBut_X9_has : GoodIn wsX9_holdsBut (va_wsS RX9 136 yX9_has wsX9_has) := goodIn_app (goodIn_of _ (by decide +kernel)) ggX9_holdsBut_X9_has
theorem dX9_holdsBut_0 : decode cX9_holdsBut 0 = .ok (.iconst 0, 1) := by decide +kernel
theorem dX9_holdsBut_1 : decode cX9_holdsBut 1 = .ok (.istore_n 2, 1) := by decide +kernel
theorem dX9_holdsBut_2 : decode cX9_holdsBut 2 = .ok (.iconst 0, 1) := by decide +kernel
theorem dX9_holdsBut_3 : decode cX9_holdsBut 3 = .ok (.istore_n 3, 1) := by decide +kernel
theorem dX9_holdsBut_4 : decode cX9_holdsBut 4 = .ok (.iload_n 3, 1) := by decide +kernel
theorem dX9_holdsBut_5 : decode cX9_holdsBut 5 = .ok (.aload_n 0, 1) := by decide +kernel
theorem dX9_holdsBut_6 : decode cX9_holdsBut 6 = .ok (.getfield 80, 3) := by decide +kernel
theorem dX9_holdsBut_9 : decode cX9_holdsBut 9 = .ok (.if_icmp .ge 52, 3) := by decide +kernel
theorem dX9_holdsBut_12 : decode cX9_holdsBut 12 = .ok (.iload_n 1, 1) := by decide +kernel
theorem dX9_holdsBut_13 : decode cX9_holdsBut 13 = .ok (.iload_n 3, 1) := by decide +kernel
theorem dX9_holdsBut_14 : decode cX9_holdsBut 14 = .ok (.invokestatic 136, 3) := by decide +kernel
theorem dX9_holdsBut_17 : decode cX9_holdsBut 17 = .ok (.ifCond .ne 20, 3) := by decide +kernel
theorem dX9_holdsBut_20 : decode cX9_holdsBut 20 = .ok (.aload_n 0, 1) := by decide +kernel
theorem dX9_holdsBut_21 : decode cX9_holdsBut 21 = .ok (.getfield 22, 3) := by decide +kernel
theorem dX9_holdsBut_24 : decode cX9_holdsBut 24 = .ok (.iload_n 3, 1) := by decide +kernel
theorem dX9_holdsBut_25 : decode cX9_holdsBut 25 = .ok (.iaload, 1) := by decide +kernel
theorem dX9_holdsBut_26 : decode cX9_holdsBut 26 = .ok (.iload_n 2, 1) := by decide +kernel
theorem dX9_holdsBut_27 : decode cX9_holdsBut 27 = .ok (.iconst (-1), 1) := by decide +kernel
theorem dX9_holdsBut_28 : decode cX9_holdsBut 28 = .ok (.ixor, 1) := by decide +kernel
theorem dX9_holdsBut_29 : decode cX9_holdsBut 29 = .ok (.iand, 1) := by decide +kernel
theorem dX9_holdsBut_30 : decode cX9_holdsBut 30 = .ok (.ifCond .ne 7, 3) := by decide +kernel
theorem dX9_holdsBut_33 : decode cX9_holdsBut 33 = .ok (.iconst 1, 1) := by decide +kernel
theorem dX9_holdsBut_34 : decode cX9_holdsBut 34 = .ok (.goto 4, 3) := by decide +kernel
theorem dX9_holdsBut_37 : decode cX9_holdsBut 37 = .ok (.iconst 0, 1) := by decide +kernel
theorem dX9_holdsBut_38 : decode cX9_holdsBut 38 = .ok (.istore 4, 2) := by decide +kernel
theorem dX9_holdsBut_40 : decode cX9_holdsBut 40 = .ok (.iload_n 2, 1) := by decide +kernel
theorem dX9_holdsBut_41 : decode cX9_holdsBut 41 = .ok (.iload 4, 2) := by decide +kernel
theorem dX9_holdsBut_43 : decode cX9_holdsBut 43 = .ok (.ifCond .eq 9, 3) := by decide +kernel
theorem dX9_holdsBut_46 : decode cX9_holdsBut 46 = .ok (.iconst 1, 1) := by decide +kernel
theorem dX9_holdsBut_47 : decode cX9_holdsBut 47 = .ok (.iload_n 3, 1) := by decide +kernel
theorem dX9_holdsBut_48 : decode cX9_holdsBut 48 = .ok (.ishl, 1) := by decide +kernel
theorem dX9_holdsBut_49 : decode cX9_holdsBut 49 = .ok (.goto 4, 3) := by decide +kernel
theorem dX9_holdsBut_52 : decode cX9_holdsBut 52 = .ok (.iconst 0, 1) := by decide +kernel
theorem dX9_holdsBut_53 : decode cX9_holdsBut 53 = .ok (.ior, 1) := by decide +kernel
theorem dX9_holdsBut_54 : decode cX9_holdsBut 54 = .ok (.istore_n 2, 1) := by decide +kernel
theorem dX9_holdsBut_55 : decode cX9_holdsBut 55 = .ok (.iinc 3 1, 3) := by decide +kernel
theorem dX9_holdsBut_58 : decode cX9_holdsBut 58 = .ok (.goto (-54), 3) := by decide +kernel
theorem dX9_holdsBut_61 : decode cX9_holdsBut 61 = .ok (.iload_n 2, 1) := by decide +kernel
theorem dX9_holdsBut_62 : decode cX9_holdsBut 62 = .ok (.ireturn, 1) := by decide +kernel
set_option maxRecDepth 20000 in
theorem ggX9_holds_X9_holdsBut : GoodIn wsX9_holds wsX9_holdsBut := goodIn_r _ [6, 7, 8, 9, 10, 5, 11, 12, 13, 14, 15, 16, 17, 18, 19, 20, 21, 22, 23, 24, 25, 26, 27, 28, 29, 30, 31, 32, 33, 34, 35, 36, 37, 38, 39, 40, 41, 42, 43, 44, 45, 46, 47, 48, 49] (by decide +kernel) (by decide +kernel)
set_option maxRecDepth 20000 in
theorem gX9_holds_X9_holdsBut : GoodIn wsX9_holds (wsV RX9 181 RX9 yX9_holdsBut wsX9_holdsBut) := goodIn_app (goodIn_of _ (by decide +kernel)) ggX9_holds_X9_holdsBut
theorem dX9_holds_0 : decode cX9_holds 0 = .ok (.aload_n 0, 1) := by decide +kernel
theorem dX9_holds_1 : decode cX9_holds 1 = .ok (.aload_n 0, 1) := by decide +kernel
theorem dX9_holds_2 : decode cX9_holds 2 = .ok (.getfield 25, 3) := by decide +kernel
theorem dX9_holds_5 : decode cX9_holds 5 = .ok (.bipush 10, 2) := by decide +kernel
theorem dX9_holds_7 : decode cX9_holds 7 = .ok (.iaload, 1) := by decide +kernel
theorem dX9_holds_8 : decode cX9_holds 8 = .ok (.invokevirtual 181, 3) := by decide +kernel
theorem dX9_holds_11 : decode cX9_holds 11 = .ok (.ireturn, 1) := by decide +kernel
set_option maxRecDepth 20000 in
theorem ggX9_worthOf_X9_has : GoodIn wsX9_worthOf wsX9_has := goodIn_r _ [6] (by decide +kernel) (by decide +kernel)
set_option maxRecDepth 20000 in
theorem gX9_worthOf_X9_has : GoodIn wsX9_worthOf (va_wsS RX9 136 yX9_has wsX9_has) := goodIn_app (goodIn_of _ (by decide +kernel)) ggX9_worthOf_X9_has
theorem dX9_worthOf_0 : decode cX9_worthOf 0 = .ok (.iconst 0, 1) := by decide +kernel
theorem dX9_worthOf_1 : decode cX9_worthOf 1 = .ok (.istore_n 2, 1) := by decide +kernel
theorem dX9_worthOf_2 : decode cX9_worthOf 2 = .ok (.iconst 0, 1) := by decide +kernel
theorem dX9_worthOf_3 : decode cX9_worthOf 3 = .ok (.istore_n 3, 1) := by decide +kernel
theorem dX9_worthOf_4 : decode cX9_worthOf 4 = .ok (.iload_n 3, 1) := by decide +kernel
theorem dX9_worthOf_5 : decode cX9_worthOf 5 = .ok (.aload_n 0, 1) := by decide +kernel
theorem dX9_worthOf_6 : decode cX9_worthOf 6 = .ok (.getfield 80, 3) := by decide +kernel
theorem dX9_worthOf_9 : decode cX9_worthOf 9 = .ok (.if_icmp .ge 33, 3) := by decide +kernel
theorem dX9_worthOf_12 : decode cX9_worthOf 12 = .ok (.iload_n 2, 1) := by decide +kernel
theorem dX9_worthOf_13 : decode cX9_worthOf 13 = .ok (.iload_n 1, 1) := by decide +kernel
theorem dX9_worthOf_14 : decode cX9_worthOf 14 = .ok (.iload_n 3, 1) := by decide +kernel
theorem dX9_worthOf_15 : decode cX9_worthOf 15 = .ok (.invokestatic 136, 3) := by decide +kernel
theorem dX9_worthOf_18 : decode cX9_worthOf 18 = .ok (.ifCond .eq 15, 3) := by decide +kernel
theorem dX9_worthOf_21 : decode cX9_worthOf 21 = .ok (.aload_n 0, 1) := by decide +kernel
theorem dX9_worthOf_22 : decode cX9_worthOf 22 = .ok (.getfield 19, 3) := by decide +kernel
theorem dX9_worthOf_25 : decode cX9_worthOf 25 = .ok (.iload_n 3, 1) := by decide +kernel
theorem dX9_worthOf_26 : decode cX9_worthOf 26 = .ok (.iaload, 1) := by decide +kernel
theorem dX9_worthOf_27 : decode cX9_worthOf 27 = .ok (.bipush 50, 2) := by decide +kernel
theorem dX9_worthOf_29 : decode cX9_worthOf 29 = .ok (.isub, 1) := by decide +kernel
theorem dX9_worthOf_30 : decode cX9_worthOf 30 = .ok (.goto 4, 3) := by decide +kernel
theorem dX9_worthOf_33 : decode cX9_worthOf 33 = .ok (.iconst 0, 1) := by decide +kernel
theorem dX9_worthOf_34 : decode cX9_worthOf 34 = .ok (.iadd, 1) := by decide +kernel
theorem dX9_worthOf_35 : decode cX9_worthOf 35 = .ok (.istore_n 2, 1) := by decide +kernel
theorem dX9_worthOf_36 : decode cX9_worthOf 36 = .ok (.iinc 3 1, 3) := by decide +kernel
theorem dX9_worthOf_39 : decode cX9_worthOf 39 = .ok (.goto (-35), 3) := by decide +kernel
theorem dX9_worthOf_42 : decode cX9_worthOf 42 = .ok (.iload_n 2, 1) := by decide +kernel
theorem dX9_worthOf_43 : decode cX9_worthOf 43 = .ok (.ireturn, 1) := by decide +kernel
set_option maxRecDepth 20000 in
theorem ggX9_fallsOf_X9_holds : GoodIn wsX9_fallsOf wsX9_holds := goodIn_r _ [6, 1, 7, 8, 9, 5, 10, 11, 12, 13, 14, 15, 16, 17, 18, 19, 20, 21, 22, 23, 24, 25, 26, 27, 28, 29, 30, 31, 32, 33, 34, 35, 36, 37, 38, 39, 40, 41, 42, 43, 44, 45, 46, 47, 48, 49, 50, 51, 52, 53] (by decide +kernel) (by decide +kernel)
set_option maxRecDepth 20000 in
theorem gX9_fallsOf_X9_holds : GoodIn wsX9_fallsOf (wsV RX9 185 RX9 yX9_holds wsX9_holds) := goodIn_app (goodIn_of _ (by decide +kernel)) ggX9_fallsOf_X9_holds
set_option maxRecDepth 20000 in
theorem ggX9_fallsOf_X9_holdsBut : GoodIn wsX9_fallsOf wsX9_holdsBut := goodIn_r _ [10, 11, 12, 13, 14, 5, 15, 16, 17, 18, 19, 20, 21, 22, 23, 24, 25, 26, 27, 28, 29, 30, 31, 32, 33, 34, 35, 36, 37, 38, 39, 40, 41, 42, 43, 44, 45, 46, 47, 48, 49, 50, 51, 52, 53] (by decide +kernel) (by decide +kernel)
set_option maxRecDepth 20000 in
theorem gX9_fallsOf_X9_holdsBut : GoodIn wsX9_fallsOf (wsV RX9 181 RX9 yX9_holdsBut wsX9_holdsBut) := goodIn_app (goodIn_of _ (by decide +kernel)) ggX9_fallsOf_X9_holdsBut
theorem dX9_fallsOf_0 : decode cX9_fallsOf 0 = .ok (.aload_n 0, 1) := by decide +kernel
theorem dX9_fallsOf_1 : decode cX9_fallsOf 1 = .ok (.invokevirtual 185, 3) := by decide +kernel
theorem dX9_fallsOf_4 : decode cX9_fallsOf 4 = .ok (.aload_n 0, 1) := by decide +kernel
theorem dX9_fallsOf_5 : decode cX9_fallsOf 5 = .ok (.aload_n 0, 1) := by decide +kernel
theorem dX9_fallsOf_6 : decode cX9_fallsOf 6 = .ok (.getfield 25, 3) := by decide +kernel
theorem dX9_fallsOf_9 : decode cX9_fallsOf 9 = .ok (.bipush 10, 2) := by decide +kernel
theorem dX9_fallsOf_11 : decode cX9_fallsOf 11 = .ok (.iaload, 1) := by decide +kernel
theorem dX9_fallsOf_12 : decode cX9_fallsOf 12 = .ok (.iconst 1, 1) := by decide +kernel
theorem dX9_fallsOf_13 : decode cX9_fallsOf 13 = .ok (.iload_n 1, 1) := by decide +kernel
theorem dX9_fallsOf_14 : decode cX9_fallsOf 14 = .ok (.ishl, 1) := by decide +kernel
theorem dX9_fallsOf_15 : decode cX9_fallsOf 15 = .ok (.ior, 1) := by decide +kernel
theorem dX9_fallsOf_16 : decode cX9_fallsOf 16 = .ok (.invokevirtual 181, 3) := by decide +kernel
theorem dX9_fallsOf_19 : decode cX9_fallsOf 19 = .ok (.iconst (-1), 1) := by decide +kernel
theorem dX9_fallsOf_20 : decode cX9_fallsOf 20 = .ok (.ixor, 1) := by decide +kernel
theorem dX9_fallsOf_21 : decode cX9_fallsOf 21 = .ok (.iand, 1) := by decide +kernel
theorem dX9_fallsOf_22 : decode cX9_fallsOf 22 = .ok (.ireturn, 1) := by decide +kernel
set_option maxRecDepth 20000 in
theorem ggX9_heaviest_X9_fallsOf : GoodIn wsX9_heaviest wsX9_fallsOf := goodIn_r _ [6, 7, 8, 9, 10, 5, 11, 12, 13, 14, 15, 1, 16, 17, 18, 19, 23, 24, 25, 26, 27, 28, 29, 30, 31, 32, 33, 34, 35, 36, 37, 38, 39, 40, 41, 42, 43, 44, 45, 46, 47, 48, 49, 50, 51, 52, 53, 54, 55, 56, 57, 58, 59, 60] (by decide +kernel) (by decide +kernel)
set_option maxRecDepth 20000 in
theorem gX9_heaviest_X9_fallsOf : GoodIn wsX9_heaviest (wsV RX9 188 RX9 yX9_fallsOf wsX9_fallsOf) := goodIn_app (goodIn_of _ (by decide +kernel)) ggX9_heaviest_X9_fallsOf
set_option maxRecDepth 20000 in
theorem ggX9_heaviest_X9_bits : GoodIn wsX9_heaviest wsX9_bits := goodIn_r _ [22] (by decide +kernel) (by decide +kernel)
set_option maxRecDepth 20000 in
theorem gX9_heaviest_X9_bits : GoodIn wsX9_heaviest (va_wsS RX9 191 yX9_bits wsX9_bits) := goodIn_app (goodIn_of _ (by decide +kernel)) ggX9_heaviest_X9_bits
theorem dX9_heaviest_0 : decode cX9_heaviest 0 = .ok (.iconst (-1), 1) := by decide +kernel
theorem dX9_heaviest_1 : decode cX9_heaviest 1 = .ok (.istore_n 1, 1) := by decide +kernel
theorem dX9_heaviest_2 : decode cX9_heaviest 2 = .ok (.iconst 0, 1) := by decide +kernel
theorem dX9_heaviest_3 : decode cX9_heaviest 3 = .ok (.istore_n 2, 1) := by decide +kernel
theorem dX9_heaviest_4 : decode cX9_heaviest 4 = .ok (.iconst 0, 1) := by decide +kernel
theorem dX9_heaviest_5 : decode cX9_heaviest 5 = .ok (.istore_n 3, 1) := by decide +kernel
theorem dX9_heaviest_6 : decode cX9_heaviest 6 = .ok (.iload_n 3, 1) := by decide +kernel
theorem dX9_heaviest_7 : decode cX9_heaviest 7 = .ok (.aload_n 0, 1) := by decide +kernel
theorem dX9_heaviest_8 : decode cX9_heaviest 8 = .ok (.getfield 80, 3) := by decide +kernel
theorem dX9_heaviest_11 : decode cX9_heaviest 11 = .ok (.if_icmp .ge 44, 3) := by decide +kernel
theorem dX9_heaviest_14 : decode cX9_heaviest 14 = .ok (.aload_n 0, 1) := by decide +kernel
theorem dX9_heaviest_15 : decode cX9_heaviest 15 = .ok (.iload_n 3, 1) := by decide +kernel
theorem dX9_heaviest_16 : decode cX9_heaviest 16 = .ok (.invokevirtual 188, 3) := by decide +kernel
theorem dX9_heaviest_19 : decode cX9_heaviest 19 = .ok (.invokestatic 191, 3) := by decide +kernel
theorem dX9_heaviest_22 : decode cX9_heaviest 22 = .ok (.istore 4, 2) := by decide +kernel
theorem dX9_heaviest_24 : decode cX9_heaviest 24 = .ok (.iload 4, 2) := by decide +kernel
theorem dX9_heaviest_26 : decode cX9_heaviest 26 = .ok (.iload_n 2, 1) := by decide +kernel
theorem dX9_heaviest_27 : decode cX9_heaviest 27 = .ok (.if_icmp .le 7, 3) := by decide +kernel
theorem dX9_heaviest_30 : decode cX9_heaviest 30 = .ok (.iload_n 3, 1) := by decide +kernel
theorem dX9_heaviest_31 : decode cX9_heaviest 31 = .ok (.goto 4, 3) := by decide +kernel
theorem dX9_heaviest_34 : decode cX9_heaviest 34 = .ok (.iload_n 1, 1) := by decide +kernel
theorem dX9_heaviest_35 : decode cX9_heaviest 35 = .ok (.istore_n 1, 1) := by decide +kernel
theorem dX9_heaviest_36 : decode cX9_heaviest 36 = .ok (.iload 4, 2) := by decide +kernel
theorem dX9_heaviest_38 : decode cX9_heaviest 38 = .ok (.iload_n 2, 1) := by decide +kernel
theorem dX9_heaviest_39 : decode cX9_heaviest 39 = .ok (.if_icmp .le 8, 3) := by decide +kernel
theorem dX9_heaviest_42 : decode cX9_heaviest 42 = .ok (.iload 4, 2) := by decide +kernel
theorem dX9_heaviest_44 : decode cX9_heaviest 44 = .ok (.goto 4, 3) := by decide +kernel
theorem dX9_heaviest_47 : decode cX9_heaviest 47 = .ok (.iload_n 2, 1) := by decide +kernel
theorem dX9_heaviest_48 : decode cX9_heaviest 48 = .ok (.istore_n 2, 1) := by decide +kernel
theorem dX9_heaviest_49 : decode cX9_heaviest 49 = .ok (.iinc 3 1, 3) := by decide +kernel
theorem dX9_heaviest_52 : decode cX9_heaviest 52 = .ok (.goto (-46), 3) := by decide +kernel
theorem dX9_heaviest_55 : decode cX9_heaviest 55 = .ok (.iload_n 1, 1) := by decide +kernel
theorem dX9_heaviest_56 : decode cX9_heaviest 56 = .ok (.ireturn, 1) := by decide +kernel
set_option maxRecDepth 20000 in
theorem ggX9_depthOf_X9_has : GoodIn wsX9_depthOf wsX9_has := goodIn_r _ [6] (by decide +kernel) (by decide +kernel)
set_option maxRecDepth 20000 in
theorem gX9_depthOf_X9_has : GoodIn wsX9_depthOf (va_wsS RX9 136 yX9_has wsX9_has) := goodIn_app (goodIn_of _ (by decide +kernel)) ggX9_depthOf_X9_has
theorem dX9_depthOf_0 : decode cX9_depthOf 0 = .ok (.iconst 0, 1) := by decide +kernel
theorem dX9_depthOf_1 : decode cX9_depthOf 1 = .ok (.istore_n 2, 1) := by decide +kernel
theorem dX9_depthOf_2 : decode cX9_depthOf 2 = .ok (.iload_n 2, 1) := by decide +kernel
theorem dX9_depthOf_3 : decode cX9_depthOf 3 = .ok (.iload_n 1, 1) := by decide +kernel
theorem dX9_depthOf_4 : decode cX9_depthOf 4 = .ok (.if_icmp .gt 80, 3) := by decide +kernel
theorem dX9_depthOf_7 : decode cX9_depthOf 7 = .ok (.aload_n 0, 1) := by decide +kernel
theorem dX9_depthOf_8 : decode cX9_depthOf 8 = .ok (.getfield 50, 3) := by decide +kernel
theorem dX9_depthOf_11 : decode cX9_depthOf 11 = .ok (.iload_n 2, 1) := by decide +kernel
theorem dX9_depthOf_12 : decode cX9_depthOf 12 = .ok (.iconst 0, 1) := by decide +kernel
theorem dX9_depthOf_13 : decode cX9_depthOf 13 = .ok (.iastore, 1) := by decide +kernel
theorem dX9_depthOf_14 : decode cX9_depthOf 14 = .ok (.iconst 0, 1) := by decide +kernel
theorem dX9_depthOf_15 : decode cX9_depthOf 15 = .ok (.istore_n 3, 1) := by decide +kernel
theorem dX9_depthOf_16 : decode cX9_depthOf 16 = .ok (.iload_n 3, 1) := by decide +kernel
theorem dX9_depthOf_17 : decode cX9_depthOf 17 = .ok (.iload_n 2, 1) := by decide +kernel
theorem dX9_depthOf_18 : decode cX9_depthOf 18 = .ok (.if_icmp .ge 60, 3) := by decide +kernel
theorem dX9_depthOf_21 : decode cX9_depthOf 21 = .ok (.aload_n 0, 1) := by decide +kernel
theorem dX9_depthOf_22 : decode cX9_depthOf 22 = .ok (.getfield 50, 3) := by decide +kernel
theorem dX9_depthOf_25 : decode cX9_depthOf 25 = .ok (.iload_n 2, 1) := by decide +kernel
theorem dX9_depthOf_26 : decode cX9_depthOf 26 = .ok (.aload_n 0, 1) := by decide +kernel
theorem dX9_depthOf_27 : decode cX9_depthOf 27 = .ok (.getfield 22, 3) := by decide +kernel
theorem dX9_depthOf_30 : decode cX9_depthOf 30 = .ok (.iload_n 2, 1) := by decide +kernel
theorem dX9_depthOf_31 : decode cX9_depthOf 31 = .ok (.iaload, 1) := by decide +kernel
theorem dX9_depthOf_32 : decode cX9_depthOf 32 = .ok (.iload_n 3, 1) := by decide +kernel
theorem dX9_depthOf_33 : decode cX9_depthOf 33 = .ok (.invokestatic 136, 3) := by decide +kernel
theorem dX9_depthOf_36 : decode cX9_depthOf 36 = .ok (.ifCond .eq 29, 3) := by decide +kernel
theorem dX9_depthOf_39 : decode cX9_depthOf 39 = .ok (.aload_n 0, 1) := by decide +kernel
theorem dX9_depthOf_40 : decode cX9_depthOf 40 = .ok (.getfield 50, 3) := by decide +kernel
theorem dX9_depthOf_43 : decode cX9_depthOf 43 = .ok (.iload_n 3, 1) := by decide +kernel
theorem dX9_depthOf_44 : decode cX9_depthOf 44 = .ok (.iaload, 1) := by decide +kernel
theorem dX9_depthOf_45 : decode cX9_depthOf 45 = .ok (.aload_n 0, 1) := by decide +kernel
theorem dX9_depthOf_46 : decode cX9_depthOf 46 = .ok (.getfield 50, 3) := by decide +kernel
theorem dX9_depthOf_49 : decode cX9_depthOf 49 = .ok (.iload_n 2, 1) := by decide +kernel
theorem dX9_depthOf_50 : decode cX9_depthOf 50 = .ok (.iaload, 1) := by decide +kernel
theorem dX9_depthOf_51 : decode cX9_depthOf 51 = .ok (.if_icmp .lt 14, 3) := by decide +kernel
theorem dX9_depthOf_54 : decode cX9_depthOf 54 = .ok (.aload_n 0, 1) := by decide +kernel
theorem dX9_depthOf_55 : decode cX9_depthOf 55 = .ok (.getfield 50, 3) := by decide +kernel
theorem dX9_depthOf_58 : decode cX9_depthOf 58 = .ok (.iload_n 3, 1) := by decide +kernel
theorem dX9_depthOf_59 : decode cX9_depthOf 59 = .ok (.iaload, 1) := by decide +kernel
theorem dX9_depthOf_60 : decode cX9_depthOf 60 = .ok (.iconst 1, 1) := by decide +kernel
theorem dX9_depthOf_61 : decode cX9_depthOf 61 = .ok (.iadd, 1) := by decide +kernel
theorem dX9_depthOf_62 : decode cX9_depthOf 62 = .ok (.goto 9, 3) := by decide +kernel
theorem dX9_depthOf_65 : decode cX9_depthOf 65 = .ok (.aload_n 0, 1) := by decide +kernel
theorem dX9_depthOf_66 : decode cX9_depthOf 66 = .ok (.getfield 50, 3) := by decide +kernel
theorem dX9_depthOf_69 : decode cX9_depthOf 69 = .ok (.iload_n 2, 1) := by decide +kernel
theorem dX9_depthOf_70 : decode cX9_depthOf 70 = .ok (.iaload, 1) := by decide +kernel
theorem dX9_depthOf_71 : decode cX9_depthOf 71 = .ok (.iastore, 1) := by decide +kernel
theorem dX9_depthOf_72 : decode cX9_depthOf 72 = .ok (.iinc 3 1, 3) := by decide +kernel
theorem dX9_depthOf_75 : decode cX9_depthOf 75 = .ok (.goto (-59), 3) := by decide +kernel
theorem dX9_depthOf_78 : decode cX9_depthOf 78 = .ok (.iinc 2 1, 3) := by decide +kernel
theorem dX9_depthOf_81 : decode cX9_depthOf 81 = .ok (.goto (-79), 3) := by decide +kernel
theorem dX9_depthOf_84 : decode cX9_depthOf 84 = .ok (.aload_n 0, 1) := by decide +kernel
theorem dX9_depthOf_85 : decode cX9_depthOf 85 = .ok (.getfield 50, 3) := by decide +kernel
theorem dX9_depthOf_88 : decode cX9_depthOf 88 = .ok (.iload_n 1, 1) := by decide +kernel
theorem dX9_depthOf_89 : decode cX9_depthOf 89 = .ok (.iaload, 1) := by decide +kernel
theorem dX9_depthOf_90 : decode cX9_depthOf 90 = .ok (.ireturn, 1) := by decide +kernel
set_option maxRecDepth 20000 in
theorem ggX9_rootsOf_X9_has : GoodIn wsX9_rootsOf wsX9_has := goodIn_r _ [5] (by decide +kernel) (by decide +kernel)
set_option maxRecDepth 20000 in
theorem gX9_rootsOf_X9_has : GoodIn wsX9_rootsOf (va_wsS RX9 136 yX9_has wsX9_has) := goodIn_app (goodIn_of _ (by decide +kernel)) ggX9_rootsOf_X9_has
theorem dX9_rootsOf_0 : decode cX9_rootsOf 0 = .ok (.iconst 1, 1) := by decide +kernel
theorem dX9_rootsOf_1 : decode cX9_rootsOf 1 = .ok (.iload_n 1, 1) := by decide +kernel
theorem dX9_rootsOf_2 : decode cX9_rootsOf 2 = .ok (.ishl, 1) := by decide +kernel
theorem dX9_rootsOf_3 : decode cX9_rootsOf 3 = .ok (.istore_n 2, 1) := by decide +kernel
theorem dX9_rootsOf_4 : decode cX9_rootsOf 4 = .ok (.iconst 0, 1) := by decide +kernel
theorem dX9_rootsOf_5 : decode cX9_rootsOf 5 = .ok (.istore_n 3, 1) := by decide +kernel
theorem dX9_rootsOf_6 : decode cX9_rootsOf 6 = .ok (.iload_n 1, 1) := by decide +kernel
theorem dX9_rootsOf_7 : decode cX9_rootsOf 7 = .ok (.istore 4, 2) := by decide +kernel
theorem dX9_rootsOf_9 : decode cX9_rootsOf 9 = .ok (.iload 4, 2) := by decide +kernel
theorem dX9_rootsOf_11 : decode cX9_rootsOf 11 = .ok (.ifCond .lt 49, 3) := by decide +kernel
theorem dX9_rootsOf_14 : decode cX9_rootsOf 14 = .ok (.iload_n 2, 1) := by decide +kernel
theorem dX9_rootsOf_15 : decode cX9_rootsOf 15 = .ok (.iload 4, 2) := by decide +kernel
theorem dX9_rootsOf_17 : decode cX9_rootsOf 17 = .ok (.invokestatic 136, 3) := by decide +kernel
theorem dX9_rootsOf_20 : decode cX9_rootsOf 20 = .ok (.ifCond .eq 34, 3) := by decide +kernel
theorem dX9_rootsOf_23 : decode cX9_rootsOf 23 = .ok (.iload_n 2, 1) := by decide +kernel
theorem dX9_rootsOf_24 : decode cX9_rootsOf 24 = .ok (.aload_n 0, 1) := by decide +kernel
theorem dX9_rootsOf_25 : decode cX9_rootsOf 25 = .ok (.getfield 22, 3) := by decide +kernel
theorem dX9_rootsOf_28 : decode cX9_rootsOf 28 = .ok (.iload 4, 2) := by decide +kernel
theorem dX9_rootsOf_30 : decode cX9_rootsOf 30 = .ok (.iaload, 1) := by decide +kernel
theorem dX9_rootsOf_31 : decode cX9_rootsOf 31 = .ok (.ior, 1) := by decide +kernel
theorem dX9_rootsOf_32 : decode cX9_rootsOf 32 = .ok (.istore_n 2, 1) := by decide +kernel
theorem dX9_rootsOf_33 : decode cX9_rootsOf 33 = .ok (.iload_n 3, 1) := by decide +kernel
theorem dX9_rootsOf_34 : decode cX9_rootsOf 34 = .ok (.aload_n 0, 1) := by decide +kernel
theorem dX9_rootsOf_35 : decode cX9_rootsOf 35 = .ok (.getfield 22, 3) := by decide +kernel
theorem dX9_rootsOf_38 : decode cX9_rootsOf 38 = .ok (.iload 4, 2) := by decide +kernel
theorem dX9_rootsOf_40 : decode cX9_rootsOf 40 = .ok (.iaload, 1) := by decide +kernel
theorem dX9_rootsOf_41 : decode cX9_rootsOf 41 = .ok (.ifCond .ne 10, 3) := by decide +kernel
theorem dX9_rootsOf_44 : decode cX9_rootsOf 44 = .ok (.iconst 1, 1) := by decide +kernel
theorem dX9_rootsOf_45 : decode cX9_rootsOf 45 = .ok (.iload 4, 2) := by decide +kernel
theorem dX9_rootsOf_47 : decode cX9_rootsOf 47 = .ok (.ishl, 1) := by decide +kernel
theorem dX9_rootsOf_48 : decode cX9_rootsOf 48 = .ok (.goto 4, 3) := by decide +kernel
theorem dX9_rootsOf_51 : decode cX9_rootsOf 51 = .ok (.iconst 0, 1) := by decide +kernel
theorem dX9_rootsOf_52 : decode cX9_rootsOf 52 = .ok (.ior, 1) := by decide +kernel
theorem dX9_rootsOf_53 : decode cX9_rootsOf 53 = .ok (.istore_n 3, 1) := by decide +kernel
theorem dX9_rootsOf_54 : decode cX9_rootsOf 54 = .ok (.iinc 4 (-1), 3) := by decide +kernel
theorem dX9_rootsOf_57 : decode cX9_rootsOf 57 = .ok (.goto (-48), 3) := by decide +kernel
theorem dX9_rootsOf_60 : decode cX9_rootsOf 60 = .ok (.iload_n 3, 1) := by decide +kernel
theorem dX9_rootsOf_61 : decode cX9_rootsOf 61 = .ok (.ireturn, 1) := by decide +kernel
theorem dX9_saidBy_0 : decode cX9_saidBy 0 = .ok (.iconst 0, 1) := by decide +kernel
theorem dX9_saidBy_1 : decode cX9_saidBy 1 = .ok (.istore_n 2, 1) := by decide +kernel
theorem dX9_saidBy_2 : decode cX9_saidBy 2 = .ok (.iconst 0, 1) := by decide +kernel
theorem dX9_saidBy_3 : decode cX9_saidBy 3 = .ok (.istore_n 3, 1) := by decide +kernel
theorem dX9_saidBy_4 : decode cX9_saidBy 4 = .ok (.iload_n 3, 1) := by decide +kernel
theorem dX9_saidBy_5 : decode cX9_saidBy 5 = .ok (.aload_n 0, 1) := by decide +kernel
theorem dX9_saidBy_6 : decode cX9_saidBy 6 = .ok (.getfield 80, 3) := by decide +kernel
theorem dX9_saidBy_9 : decode cX9_saidBy 9 = .ok (.if_icmp .ge 29, 3) := by decide +kernel
theorem dX9_saidBy_12 : decode cX9_saidBy 12 = .ok (.iload_n 2, 1) := by decide +kernel
theorem dX9_saidBy_13 : decode cX9_saidBy 13 = .ok (.aload_n 0, 1) := by decide +kernel
theorem dX9_saidBy_14 : decode cX9_saidBy 14 = .ok (.getfield 13, 3) := by decide +kernel
theorem dX9_saidBy_17 : decode cX9_saidBy 17 = .ok (.iload_n 3, 1) := by decide +kernel
theorem dX9_saidBy_18 : decode cX9_saidBy 18 = .ok (.iaload, 1) := by decide +kernel
theorem dX9_saidBy_19 : decode cX9_saidBy 19 = .ok (.iload_n 1, 1) := by decide +kernel
theorem dX9_saidBy_20 : decode cX9_saidBy 20 = .ok (.if_icmp .ne 9, 3) := by decide +kernel
theorem dX9_saidBy_23 : decode cX9_saidBy 23 = .ok (.iconst 1, 1) := by decide +kernel
theorem dX9_saidBy_24 : decode cX9_saidBy 24 = .ok (.iload_n 3, 1) := by decide +kernel
theorem dX9_saidBy_25 : decode cX9_saidBy 25 = .ok (.ishl, 1) := by decide +kernel
theorem dX9_saidBy_26 : decode cX9_saidBy 26 = .ok (.goto 4, 3) := by decide +kernel
theorem dX9_saidBy_29 : decode cX9_saidBy 29 = .ok (.iconst 0, 1) := by decide +kernel
theorem dX9_saidBy_30 : decode cX9_saidBy 30 = .ok (.ior, 1) := by decide +kernel
theorem dX9_saidBy_31 : decode cX9_saidBy 31 = .ok (.istore_n 2, 1) := by decide +kernel
theorem dX9_saidBy_32 : decode cX9_saidBy 32 = .ok (.iinc 3 1, 3) := by decide +kernel
theorem dX9_saidBy_35 : decode cX9_saidBy 35 = .ok (.goto (-31), 3) := by decide +kernel
theorem dX9_saidBy_38 : decode cX9_saidBy 38 = .ok (.iload_n 2, 1) := by decide +kernel
theorem dX9_saidBy_39 : decode cX9_saidBy 39 = .ok (.ireturn, 1) := by decide +kernel
set_option maxRecDepth 20000 in
theorem ggX9_leansOf_X9_has : GoodIn wsX9_leansOf wsX9_has := goodIn_r _ [7] (by decide +kernel) (by decide +kernel)
set_option maxRecDepth 20000 in
theorem gX9_leansOf_X9_has : GoodIn wsX9_leansOf (va_wsS RX9 136 yX9_has wsX9_has) := goodIn_app (goodIn_of _ (by decide +kernel)) ggX9_leansOf_X9_has
theorem dX9_leansOf_0 : decode cX9_leansOf 0 = .ok (.iconst 0, 1) := by decide +kernel
theorem dX9_leansOf_1 : decode cX9_leansOf 1 = .ok (.istore_n 2, 1) := by decide +kernel
theorem dX9_leansOf_2 : decode cX9_leansOf 2 = .ok (.iconst 0, 1) := by decide +kernel
theorem dX9_leansOf_3 : decode cX9_leansOf 3 = .ok (.istore_n 3, 1) := by decide +kernel
theorem dX9_leansOf_4 : decode cX9_leansOf 4 = .ok (.iload_n 3, 1) := by decide +kernel
theorem dX9_leansOf_5 : decode cX9_leansOf 5 = .ok (.aload_n 0, 1) := by decide +kernel
theorem dX9_leansOf_6 : decode cX9_leansOf 6 = .ok (.getfield 80, 3) := by decide +kernel
theorem dX9_leansOf_9 : decode cX9_leansOf 9 = .ok (.if_icmp .ge 75, 3) := by decide +kernel
theorem dX9_leansOf_12 : decode cX9_leansOf 12 = .ok (.iconst 0, 1) := by decide +kernel
theorem dX9_leansOf_13 : decode cX9_leansOf 13 = .ok (.istore 4, 2) := by decide +kernel
theorem dX9_leansOf_15 : decode cX9_leansOf 15 = .ok (.iload 4, 2) := by decide +kernel
theorem dX9_leansOf_17 : decode cX9_leansOf 17 = .ok (.iload_n 3, 1) := by decide +kernel
theorem dX9_leansOf_18 : decode cX9_leansOf 18 = .ok (.if_icmp .ge 60, 3) := by decide +kernel
theorem dX9_leansOf_21 : decode cX9_leansOf 21 = .ok (.iload_n 2, 1) := by decide +kernel
theorem dX9_leansOf_22 : decode cX9_leansOf 22 = .ok (.aload_n 0, 1) := by decide +kernel
theorem dX9_leansOf_23 : decode cX9_leansOf 23 = .ok (.getfield 13, 3) := by decide +kernel
theorem dX9_leansOf_26 : decode cX9_leansOf 26 = .ok (.iload_n 3, 1) := by decide +kernel
theorem dX9_leansOf_27 : decode cX9_leansOf 27 = .ok (.iaload, 1) := by decide +kernel
theorem dX9_leansOf_28 : decode cX9_leansOf 28 = .ok (.iload_n 1, 1) := by decide +kernel
theorem dX9_leansOf_29 : decode cX9_leansOf 29 = .ok (.if_icmp .ne 40, 3) := by decide +kernel
theorem dX9_leansOf_32 : decode cX9_leansOf 32 = .ok (.aload_n 0, 1) := by decide +kernel
theorem dX9_leansOf_33 : decode cX9_leansOf 33 = .ok (.getfield 22, 3) := by decide +kernel
theorem dX9_leansOf_36 : decode cX9_leansOf 36 = .ok (.iload_n 3, 1) := by decide +kernel
theorem dX9_leansOf_37 : decode cX9_leansOf 37 = .ok (.iaload, 1) := by decide +kernel
theorem dX9_leansOf_38 : decode cX9_leansOf 38 = .ok (.iload 4, 2) := by decide +kernel
theorem dX9_leansOf_40 : decode cX9_leansOf 40 = .ok (.invokestatic 136, 3) := by decide +kernel
theorem dX9_leansOf_43 : decode cX9_leansOf 43 = .ok (.ifCond .eq 26, 3) := by decide +kernel
theorem dX9_leansOf_46 : decode cX9_leansOf 46 = .ok (.aload_n 0, 1) := by decide +kernel
theorem dX9_leansOf_47 : decode cX9_leansOf 47 = .ok (.getfield 13, 3) := by decide +kernel
theorem dX9_leansOf_50 : decode cX9_leansOf 50 = .ok (.iload 4, 2) := by decide +kernel
theorem dX9_leansOf_52 : decode cX9_leansOf 52 = .ok (.iaload, 1) := by decide +kernel
theorem dX9_leansOf_53 : decode cX9_leansOf 53 = .ok (.iload_n 1, 1) := by decide +kernel
theorem dX9_leansOf_54 : decode cX9_leansOf 54 = .ok (.if_icmp .eq 15, 3) := by decide +kernel
theorem dX9_leansOf_57 : decode cX9_leansOf 57 = .ok (.iconst 1, 1) := by decide +kernel
theorem dX9_leansOf_58 : decode cX9_leansOf 58 = .ok (.aload_n 0, 1) := by decide +kernel
theorem dX9_leansOf_59 : decode cX9_leansOf 59 = .ok (.getfield 13, 3) := by decide +kernel
theorem dX9_leansOf_62 : decode cX9_leansOf 62 = .ok (.iload 4, 2) := by decide +kernel
theorem dX9_leansOf_64 : decode cX9_leansOf 64 = .ok (.iaload, 1) := by decide +kernel
theorem dX9_leansOf_65 : decode cX9_leansOf 65 = .ok (.ishl, 1) := by decide +kernel
theorem dX9_leansOf_66 : decode cX9_leansOf 66 = .ok (.goto 4, 3) := by decide +kernel
theorem dX9_leansOf_69 : decode cX9_leansOf 69 = .ok (.iconst 0, 1) := by decide +kernel
theorem dX9_leansOf_70 : decode cX9_leansOf 70 = .ok (.ior, 1) := by decide +kernel
theorem dX9_leansOf_71 : decode cX9_leansOf 71 = .ok (.istore_n 2, 1) := by decide +kernel
theorem dX9_leansOf_72 : decode cX9_leansOf 72 = .ok (.iinc 4 1, 3) := by decide +kernel
theorem dX9_leansOf_75 : decode cX9_leansOf 75 = .ok (.goto (-60), 3) := by decide +kernel
theorem dX9_leansOf_78 : decode cX9_leansOf 78 = .ok (.iinc 3 1, 3) := by decide +kernel
theorem dX9_leansOf_81 : decode cX9_leansOf 81 = .ok (.goto (-77), 3) := by decide +kernel
theorem dX9_leansOf_84 : decode cX9_leansOf 84 = .ok (.iload_n 2, 1) := by decide +kernel
theorem dX9_leansOf_85 : decode cX9_leansOf 85 = .ok (.ireturn, 1) := by decide +kernel
theorem dX9_allArms_0 : decode cX9_allArms 0 = .ok (.iconst 0, 1) := by decide +kernel
theorem dX9_allArms_1 : decode cX9_allArms 1 = .ok (.istore_n 1, 1) := by decide +kernel
theorem dX9_allArms_2 : decode cX9_allArms 2 = .ok (.iconst 0, 1) := by decide +kernel
theorem dX9_allArms_3 : decode cX9_allArms 3 = .ok (.istore_n 2, 1) := by decide +kernel
theorem dX9_allArms_4 : decode cX9_allArms 4 = .ok (.iload_n 2, 1) := by decide +kernel
theorem dX9_allArms_5 : decode cX9_allArms 5 = .ok (.aload_n 0, 1) := by decide +kernel
theorem dX9_allArms_6 : decode cX9_allArms 6 = .ok (.getfield 73, 3) := by decide +kernel
theorem dX9_allArms_9 : decode cX9_allArms 9 = .ok (.if_icmp .ge 18, 3) := by decide +kernel
theorem dX9_allArms_12 : decode cX9_allArms 12 = .ok (.iload_n 1, 1) := by decide +kernel
theorem dX9_allArms_13 : decode cX9_allArms 13 = .ok (.aload_n 0, 1) := by decide +kernel
theorem dX9_allArms_14 : decode cX9_allArms 14 = .ok (.getfield 7, 3) := by decide +kernel
theorem dX9_allArms_17 : decode cX9_allArms 17 = .ok (.iload_n 2, 1) := by decide +kernel
theorem dX9_allArms_18 : decode cX9_allArms 18 = .ok (.iaload, 1) := by decide +kernel
theorem dX9_allArms_19 : decode cX9_allArms 19 = .ok (.iadd, 1) := by decide +kernel
theorem dX9_allArms_20 : decode cX9_allArms 20 = .ok (.istore_n 1, 1) := by decide +kernel
theorem dX9_allArms_21 : decode cX9_allArms 21 = .ok (.iinc 2 1, 3) := by decide +kernel
theorem dX9_allArms_24 : decode cX9_allArms 24 = .ok (.goto (-20), 3) := by decide +kernel
theorem dX9_allArms_27 : decode cX9_allArms 27 = .ok (.iload_n 1, 1) := by decide +kernel
theorem dX9_allArms_28 : decode cX9_allArms 28 = .ok (.ireturn, 1) := by decide +kernel
set_option maxRecDepth 20000 in
theorem ggX9_shareOf_X9_allArms : GoodIn wsX9_shareOf wsX9_allArms := goodIn_r _ [8, 2, 3, 9, 10, 11, 12, 13, 14, 15, 16, 17, 18, 19, 20, 21, 22, 23, 24, 25, 26, 27, 28, 29, 30, 31, 32, 33, 34, 35, 36, 37, 38, 39, 40, 41, 42, 43, 44, 45, 46] (by decide +kernel) (by decide +kernel)
set_option maxRecDepth 20000 in
theorem gX9_shareOf_X9_allArms : GoodIn wsX9_shareOf (wsV RX9 194 RX9 yX9_allArms wsX9_allArms) := goodIn_app (goodIn_of _ (by decide +kernel)) ggX9_shareOf_X9_allArms
theorem dX9_shareOf_0 : decode cX9_shareOf 0 = .ok (.aload_n 0, 1) := by decide +kernel
theorem dX9_shareOf_1 : decode cX9_shareOf 1 = .ok (.invokevirtual 194, 3) := by decide +kernel
theorem dX9_shareOf_4 : decode cX9_shareOf 4 = .ok (.istore_n 2, 1) := by decide +kernel
theorem dX9_shareOf_5 : decode cX9_shareOf 5 = .ok (.aload_n 0, 1) := by decide +kernel
theorem dX9_shareOf_6 : decode cX9_shareOf 6 = .ok (.getfield 25, 3) := by decide +kernel
theorem dX9_shareOf_9 : decode cX9_shareOf 9 = .ok (.bipush 12, 2) := by decide +kernel
theorem dX9_shareOf_11 : decode cX9_shareOf 11 = .ok (.iaload, 1) := by decide +kernel
theorem dX9_shareOf_12 : decode cX9_shareOf 12 = .ok (.istore_n 3, 1) := by decide +kernel
theorem dX9_shareOf_13 : decode cX9_shareOf 13 = .ok (.iconst 0, 1) := by decide +kernel
theorem dX9_shareOf_14 : decode cX9_shareOf 14 = .ok (.istore 4, 2) := by decide +kernel
theorem dX9_shareOf_16 : decode cX9_shareOf 16 = .ok (.iload 4, 2) := by decide +kernel
theorem dX9_shareOf_18 : decode cX9_shareOf 18 = .ok (.aload_n 0, 1) := by decide +kernel
theorem dX9_shareOf_19 : decode cX9_shareOf 19 = .ok (.getfield 73, 3) := by decide +kernel
theorem dX9_shareOf_22 : decode cX9_shareOf 22 = .ok (.if_icmp .ge 29, 3) := by decide +kernel
theorem dX9_shareOf_25 : decode cX9_shareOf 25 = .ok (.iload_n 3, 1) := by decide +kernel
theorem dX9_shareOf_26 : decode cX9_shareOf 26 = .ok (.aload_n 0, 1) := by decide +kernel
theorem dX9_shareOf_27 : decode cX9_shareOf 27 = .ok (.getfield 25, 3) := by decide +kernel
theorem dX9_shareOf_30 : decode cX9_shareOf 30 = .ok (.bipush 12, 2) := by decide +kernel
theorem dX9_shareOf_32 : decode cX9_shareOf 32 = .ok (.iaload, 1) := by decide +kernel
theorem dX9_shareOf_33 : decode cX9_shareOf 33 = .ok (.aload_n 0, 1) := by decide +kernel
theorem dX9_shareOf_34 : decode cX9_shareOf 34 = .ok (.getfield 7, 3) := by decide +kernel
theorem dX9_shareOf_37 : decode cX9_shareOf 37 = .ok (.iload 4, 2) := by decide +kernel
theorem dX9_shareOf_39 : decode cX9_shareOf 39 = .ok (.iaload, 1) := by decide +kernel
theorem dX9_shareOf_40 : decode cX9_shareOf 40 = .ok (.imul, 1) := by decide +kernel
theorem dX9_shareOf_41 : decode cX9_shareOf 41 = .ok (.iload_n 2, 1) := by decide +kernel
theorem dX9_shareOf_42 : decode cX9_shareOf 42 = .ok (.idiv, 1) := by decide +kernel
theorem dX9_shareOf_43 : decode cX9_shareOf 43 = .ok (.isub, 1) := by decide +kernel
theorem dX9_shareOf_44 : decode cX9_shareOf 44 = .ok (.istore_n 3, 1) := by decide +kernel
theorem dX9_shareOf_45 : decode cX9_shareOf 45 = .ok (.iinc 4 1, 3) := by decide +kernel
theorem dX9_shareOf_48 : decode cX9_shareOf 48 = .ok (.goto (-32), 3) := by decide +kernel
theorem dX9_shareOf_51 : decode cX9_shareOf 51 = .ok (.aload_n 0, 1) := by decide +kernel
theorem dX9_shareOf_52 : decode cX9_shareOf 52 = .ok (.getfield 25, 3) := by decide +kernel
theorem dX9_shareOf_55 : decode cX9_shareOf 55 = .ok (.bipush 12, 2) := by decide +kernel
theorem dX9_shareOf_57 : decode cX9_shareOf 57 = .ok (.iaload, 1) := by decide +kernel
theorem dX9_shareOf_58 : decode cX9_shareOf 58 = .ok (.aload_n 0, 1) := by decide +kernel
theorem dX9_shareOf_59 : decode cX9_shareOf 59 = .ok (.getfield 7, 3) := by decide +kernel
theorem dX9_shareOf_62 : decode cX9_shareOf 62 = .ok (.iload_n 1, 1) := by decide +kernel
theorem dX9_shareOf_63 : decode cX9_shareOf 63 = .ok (.iaload, 1) := by decide +kernel
theorem dX9_shareOf_64 : decode cX9_shareOf 64 = .ok (.imul, 1) := by decide +kernel
theorem dX9_shareOf_65 : decode cX9_shareOf 65 = .ok (.iload_n 2, 1) := by decide +kernel
theorem dX9_shareOf_66 : decode cX9_shareOf 66 = .ok (.idiv, 1) := by decide +kernel
theorem dX9_shareOf_67 : decode cX9_shareOf 67 = .ok (.iload_n 1, 1) := by decide +kernel
theorem dX9_shareOf_68 : decode cX9_shareOf 68 = .ok (.iload_n 3, 1) := by decide +kernel
theorem dX9_shareOf_69 : decode cX9_shareOf 69 = .ok (.if_icmp .ge 7, 3) := by decide +kernel
theorem dX9_shareOf_72 : decode cX9_shareOf 72 = .ok (.iconst 1, 1) := by decide +kernel
theorem dX9_shareOf_73 : decode cX9_shareOf 73 = .ok (.goto 4, 3) := by decide +kernel
theorem dX9_shareOf_76 : decode cX9_shareOf 76 = .ok (.iconst 0, 1) := by decide +kernel
theorem dX9_shareOf_77 : decode cX9_shareOf 77 = .ok (.iadd, 1) := by decide +kernel
theorem dX9_shareOf_78 : decode cX9_shareOf 78 = .ok (.ireturn, 1) := by decide +kernel
set_option maxRecDepth 20000 in
theorem ggX9_told_X9_holds : GoodIn wsX9_told wsX9_holds := goodIn_r _ [14, 5, 15, 16, 17, 13, 18, 2, 19, 20, 21, 22, 39, 40, 41, 42, 43, 44, 45, 46, 47, 48, 49, 50, 51, 52, 53, 54, 55, 56, 57, 58, 59, 60, 61, 62, 63, 64, 65, 66, 67, 68, 69, 70, 71, 72, 73, 74, 75, 76] (by decide +kernel) (by decide +kernel)
set_option maxRecDepth 20000 in
theorem gX9_told_X9_holds : GoodIn wsX9_told (wsV RX9 185 RX9 yX9_holds wsX9_holds) := goodIn_app (goodIn_of _ (by decide +kernel)) ggX9_told_X9_holds
set_option maxRecDepth 20000 in
theorem ggX9_told_X9_worthOf : GoodIn wsX9_told wsX9_worthOf := goodIn_r _ [26, 2, 27, 20, 21, 13, 22, 39, 40, 41, 42, 43, 44, 45, 46, 47, 48, 49, 50, 51, 52, 53, 54, 55, 56, 57, 58, 59, 60, 61, 62, 63, 64, 65, 66, 67, 68, 69, 70, 71, 72, 73, 74, 75, 76] (by decide +kernel) (by decide +kernel)
set_option maxRecDepth 20000 in
theorem gX9_told_X9_worthOf : GoodIn wsX9_told (wsV RX9 197 RX9 yX9_worthOf wsX9_worthOf) := goodIn_app (goodIn_of _ (by decide +kernel)) ggX9_told_X9_worthOf
set_option maxRecDepth 20000 in
theorem ggX9_told_X9_heaviest : GoodIn wsX9_told wsX9_heaviest := goodIn_r _ [31, 2, 32, 33, 34, 13, 35, 5, 10, 11, 12, 14, 15, 16, 17, 18, 19, 20, 21, 22, 36, 37, 38, 39, 40, 41, 42, 43, 44, 45, 46, 47, 48, 49, 50, 51, 52, 53, 54, 55, 56, 57, 58, 59, 60, 61, 62, 63, 64, 65, 66, 67, 68, 69, 70, 71, 72, 73, 74, 75, 76] (by decide +kernel) (by decide +kernel)
set_option maxRecDepth 20000 in
theorem gX9_told_X9_heaviest : GoodIn wsX9_told (wsV RX9 200 RX9 yX9_heaviest wsX9_heaviest) := goodIn_app (goodIn_of _ (by decide +kernel)) ggX9_told_X9_heaviest
theorem dX9_told_0 : decode cX9_told 0 = .ok (.iload_n 1, 1) := by decide +kernel
theorem dX9_told_1 : decode cX9_told 1 = .ok (.tableswitch 197 0 16 #[83, 88, 93, 98, 103, 111, 119, 127, 132, 140, 148, 156, 169, 174, 182, 187, 192], 83) := by decide +kernel
theorem dX9_told_84 : decode cX9_told 84 = .ok (.aload_n 0, 1) := by decide +kernel
theorem dX9_told_85 : decode cX9_told 85 = .ok (.getfield 73, 3) := by decide +kernel
theorem dX9_told_88 : decode cX9_told 88 = .ok (.ireturn, 1) := by decide +kernel
theorem dX9_told_89 : decode cX9_told 89 = .ok (.aload_n 0, 1) := by decide +kernel
theorem dX9_told_90 : decode cX9_told 90 = .ok (.getfield 80, 3) := by decide +kernel
theorem dX9_told_93 : decode cX9_told 93 = .ok (.ireturn, 1) := by decide +kernel
theorem dX9_told_94 : decode cX9_told 94 = .ok (.aload_n 0, 1) := by decide +kernel
theorem dX9_told_95 : decode cX9_told 95 = .ok (.getfield 162, 3) := by decide +kernel
theorem dX9_told_98 : decode cX9_told 98 = .ok (.ireturn, 1) := by decide +kernel
theorem dX9_told_99 : decode cX9_told 99 = .ok (.aload_n 0, 1) := by decide +kernel
theorem dX9_told_100 : decode cX9_told 100 = .ok (.getfield 86, 3) := by decide +kernel
theorem dX9_told_103 : decode cX9_told 103 = .ok (.ireturn, 1) := by decide +kernel
theorem dX9_told_104 : decode cX9_told 104 = .ok (.aload_n 0, 1) := by decide +kernel
theorem dX9_told_105 : decode cX9_told 105 = .ok (.getfield 25, 3) := by decide +kernel
theorem dX9_told_108 : decode cX9_told 108 = .ok (.bipush 14, 2) := by decide +kernel
theorem dX9_told_110 : decode cX9_told 110 = .ok (.iaload, 1) := by decide +kernel
theorem dX9_told_111 : decode cX9_told 111 = .ok (.ireturn, 1) := by decide +kernel
theorem dX9_told_112 : decode cX9_told 112 = .ok (.aload_n 0, 1) := by decide +kernel
theorem dX9_told_113 : decode cX9_told 113 = .ok (.getfield 25, 3) := by decide +kernel
theorem dX9_told_116 : decode cX9_told 116 = .ok (.bipush 12, 2) := by decide +kernel
theorem dX9_told_118 : decode cX9_told 118 = .ok (.iaload, 1) := by decide +kernel
theorem dX9_told_119 : decode cX9_told 119 = .ok (.ireturn, 1) := by decide +kernel
theorem dX9_told_120 : decode cX9_told 120 = .ok (.aload_n 0, 1) := by decide +kernel
theorem dX9_told_121 : decode cX9_told 121 = .ok (.getfield 25, 3) := by decide +kernel
theorem dX9_told_124 : decode cX9_told 124 = .ok (.bipush 13, 2) := by decide +kernel
theorem dX9_told_126 : decode cX9_told 126 = .ok (.iaload, 1) := by decide +kernel
theorem dX9_told_127 : decode cX9_told 127 = .ok (.ireturn, 1) := by decide +kernel
theorem dX9_told_128 : decode cX9_told 128 = .ok (.aload_n 0, 1) := by decide +kernel
theorem dX9_told_129 : decode cX9_told 129 = .ok (.invokevirtual 185, 3) := by decide +kernel
theorem dX9_told_132 : decode cX9_told 132 = .ok (.ireturn, 1) := by decide +kernel
theorem dX9_told_133 : decode cX9_told 133 = .ok (.aload_n 0, 1) := by decide +kernel
theorem dX9_told_134 : decode cX9_told 134 = .ok (.getfield 25, 3) := by decide +kernel
theorem dX9_told_137 : decode cX9_told 137 = .ok (.bipush 10, 2) := by decide +kernel
theorem dX9_told_139 : decode cX9_told 139 = .ok (.iaload, 1) := by decide +kernel
theorem dX9_told_140 : decode cX9_told 140 = .ok (.ireturn, 1) := by decide +kernel
theorem dX9_told_141 : decode cX9_told 141 = .ok (.aload_n 0, 1) := by decide +kernel
theorem dX9_told_142 : decode cX9_told 142 = .ok (.getfield 25, 3) := by decide +kernel
theorem dX9_told_145 : decode cX9_told 145 = .ok (.bipush 11, 2) := by decide +kernel
theorem dX9_told_147 : decode cX9_told 147 = .ok (.iaload, 1) := by decide +kernel
theorem dX9_told_148 : decode cX9_told 148 = .ok (.ireturn, 1) := by decide +kernel
theorem dX9_told_149 : decode cX9_told 149 = .ok (.aload_n 0, 1) := by decide +kernel
theorem dX9_told_150 : decode cX9_told 150 = .ok (.getfield 25, 3) := by decide +kernel
theorem dX9_told_153 : decode cX9_told 153 = .ok (.bipush 15, 2) := by decide +kernel
theorem dX9_told_155 : decode cX9_told 155 = .ok (.iaload, 1) := by decide +kernel
theorem dX9_told_156 : decode cX9_told 156 = .ok (.ireturn, 1) := by decide +kernel
theorem dX9_told_157 : decode cX9_told 157 = .ok (.aload_n 0, 1) := by decide +kernel
theorem dX9_told_158 : decode cX9_told 158 = .ok (.aload_n 0, 1) := by decide +kernel
theorem dX9_told_159 : decode cX9_told 159 = .ok (.invokevirtual 185, 3) := by decide +kernel
theorem dX9_told_162 : decode cX9_told 162 = .ok (.invokevirtual 197, 3) := by decide +kernel
theorem dX9_told_165 : decode cX9_told 165 = .ok (.sipush 1000, 3) := by decide +kernel
theorem dX9_told_168 : decode cX9_told 168 = .ok (.iadd, 1) := by decide +kernel
theorem dX9_told_169 : decode cX9_told 169 = .ok (.ireturn, 1) := by decide +kernel
theorem dX9_told_170 : decode cX9_told 170 = .ok (.aload_n 0, 1) := by decide +kernel
theorem dX9_told_171 : decode cX9_told 171 = .ok (.invokevirtual 200, 3) := by decide +kernel
theorem dX9_told_174 : decode cX9_told 174 = .ok (.ireturn, 1) := by decide +kernel
theorem dX9_told_175 : decode cX9_told 175 = .ok (.aload_n 0, 1) := by decide +kernel
theorem dX9_told_176 : decode cX9_told 176 = .ok (.getfield 25, 3) := by decide +kernel
theorem dX9_told_179 : decode cX9_told 179 = .ok (.bipush 16, 2) := by decide +kernel
theorem dX9_told_181 : decode cX9_told 181 = .ok (.iaload, 1) := by decide +kernel
theorem dX9_told_182 : decode cX9_told 182 = .ok (.ireturn, 1) := by decide +kernel
theorem dX9_told_183 : decode cX9_told 183 = .ok (.aload_n 0, 1) := by decide +kernel
theorem dX9_told_184 : decode cX9_told 184 = .ok (.getfield 175, 3) := by decide +kernel
theorem dX9_told_187 : decode cX9_told 187 = .ok (.ireturn, 1) := by decide +kernel
theorem dX9_told_188 : decode cX9_told 188 = .ok (.aload_n 0, 1) := by decide +kernel
theorem dX9_told_189 : decode cX9_told 189 = .ok (.getfield 178, 3) := by decide +kernel
theorem dX9_told_192 : decode cX9_told 192 = .ok (.ireturn, 1) := by decide +kernel
theorem dX9_told_193 : decode cX9_told 193 = .ok (.aload_n 0, 1) := by decide +kernel
theorem dX9_told_194 : decode cX9_told 194 = .ok (.getfield 159, 3) := by decide +kernel
theorem dX9_told_197 : decode cX9_told 197 = .ok (.ireturn, 1) := by decide +kernel
theorem dX9_told_198 : decode cX9_told 198 = .ok (.ldc 85, 2) := by decide +kernel
theorem dX9_told_200 : decode cX9_told 200 = .ok (.ireturn, 1) := by decide +kernel
set_option maxRecDepth 20000 in
theorem ggX9_saying_X9_isSaying : GoodIn wsX9_saying wsX9_isSaying := goodIn_r _ [12, 13, 14, 15, 11, 16, 41, 42, 43, 44, 45, 46, 47, 48, 49, 50, 51, 52, 53, 54, 55, 56, 57, 58, 59, 60, 61, 62, 63, 64, 65, 66, 67, 68, 69, 70, 71, 72, 73, 74, 75, 76, 77, 78] (by decide +kernel) (by decide +kernel)
set_option maxRecDepth 20000 in
theorem gX9_saying_X9_isSaying : GoodIn wsX9_saying (wsV RX9 203 RX9 yX9_isSaying wsX9_isSaying) := goodIn_app (goodIn_of _ (by decide +kernel)) ggX9_saying_X9_isSaying
set_option maxRecDepth 20000 in
theorem ggX9_saying_X9_depthOf : GoodIn wsX9_saying wsX9_depthOf := goodIn_r _ [20, 21, 6, 22, 23, 11, 24, 41, 42, 43, 44, 45, 46, 47, 48, 49, 50, 51, 52, 53, 54, 55, 56, 57, 58, 59, 60, 61, 62, 63, 64, 65, 66, 67, 68, 69, 70, 71, 72, 73, 74, 75, 76, 77, 78] (by decide +kernel) (by decide +kernel)
set_option maxRecDepth 20000 in
theorem gX9_saying_X9_depthOf : GoodIn wsX9_saying (wsV RX9 207 RX9 yX9_depthOf wsX9_depthOf) := goodIn_app (goodIn_of _ (by decide +kernel)) ggX9_saying_X9_depthOf
set_option maxRecDepth 20000 in
theorem ggX9_saying_X9_rootsOf : GoodIn wsX9_saying wsX9_rootsOf := goodIn_r _ [28, 6, 22, 23, 11, 24, 41, 42, 43, 44, 45, 46, 47, 48, 49, 50, 51, 52, 53, 54, 55, 56, 57, 58, 59, 60, 61, 62, 63, 64, 65, 66, 67, 68, 69, 70, 71, 72, 73, 74, 75, 76, 77, 78] (by decide +kernel) (by decide +kernel)
set_option maxRecDepth 20000 in
theorem gX9_saying_X9_rootsOf : GoodIn wsX9_saying (wsV RX9 210 RX9 yX9_rootsOf wsX9_rootsOf) := goodIn_app (goodIn_of _ (by decide +kernel)) ggX9_saying_X9_rootsOf
set_option maxRecDepth 20000 in
theorem ggX9_saying_X9_fallsOf : GoodIn wsX9_saying wsX9_fallsOf := goodIn_r _ [32, 5, 33, 34, 35, 11, 36, 37, 38, 39, 40, 13, 6, 22, 23, 24, 41, 42, 43, 44, 45, 46, 47, 48, 49, 50, 51, 52, 53, 54, 55, 56, 57, 58, 59, 60, 61, 62, 63, 64, 65, 66, 67, 68, 69, 70, 71, 72, 73, 74, 75, 76, 77, 78] (by decide +kernel) (by decide +kernel)
set_option maxRecDepth 20000 in
theorem gX9_saying_X9_fallsOf : GoodIn wsX9_saying (wsV RX9 188 RX9 yX9_fallsOf wsX9_fallsOf) := goodIn_app (goodIn_of _ (by decide +kernel)) ggX9_saying_X9_fallsOf
theorem dX9_saying_0 : decode cX9_saying 0 = .ok (.aload_n 0, 1) := by decide +kernel
theorem dX9_saying_1 : decode cX9_saying 1 = .ok (.iload_n 1, 1) := by decide +kernel
theorem dX9_saying_2 : decode cX9_saying 2 = .ok (.invokevirtual 203, 3) := by decide +kernel
theorem dX9_saying_5 : decode cX9_saying 5 = .ok (.ifCond .ne 6, 3) := by decide +kernel
theorem dX9_saying_8 : decode cX9_saying 8 = .ok (.ldc 206, 2) := by decide +kernel
theorem dX9_saying_10 : decode cX9_saying 10 = .ok (.ireturn, 1) := by decide +kernel
theorem dX9_saying_11 : decode cX9_saying 11 = .ok (.iload_n 2, 1) := by decide +kernel
theorem dX9_saying_12 : decode cX9_saying 12 = .ok (.tableswitch 108 0 7 #[48, 55, 62, 76, 83, 89, 95, 101], 48) := by decide +kernel
theorem dX9_saying_60 : decode cX9_saying 60 = .ok (.aload_n 0, 1) := by decide +kernel
theorem dX9_saying_61 : decode cX9_saying 61 = .ok (.getfield 13, 3) := by decide +kernel
theorem dX9_saying_64 : decode cX9_saying 64 = .ok (.iload_n 1, 1) := by decide +kernel
theorem dX9_saying_65 : decode cX9_saying 65 = .ok (.iaload, 1) := by decide +kernel
theorem dX9_saying_66 : decode cX9_saying 66 = .ok (.ireturn, 1) := by decide +kernel
theorem dX9_saying_67 : decode cX9_saying 67 = .ok (.aload_n 0, 1) := by decide +kernel
theorem dX9_saying_68 : decode cX9_saying 68 = .ok (.getfield 16, 3) := by decide +kernel
theorem dX9_saying_71 : decode cX9_saying 71 = .ok (.iload_n 1, 1) := by decide +kernel
theorem dX9_saying_72 : decode cX9_saying 72 = .ok (.iaload, 1) := by decide +kernel
theorem dX9_saying_73 : decode cX9_saying 73 = .ok (.ireturn, 1) := by decide +kernel
theorem dX9_saying_74 : decode cX9_saying 74 = .ok (.aload_n 0, 1) := by decide +kernel
theorem dX9_saying_75 : decode cX9_saying 75 = .ok (.getfield 19, 3) := by decide +kernel
theorem dX9_saying_78 : decode cX9_saying 78 = .ok (.iload_n 1, 1) := by decide +kernel
theorem dX9_saying_79 : decode cX9_saying 79 = .ok (.iaload, 1) := by decide +kernel
theorem dX9_saying_80 : decode cX9_saying 80 = .ok (.bipush 50, 2) := by decide +kernel
theorem dX9_saying_82 : decode cX9_saying 82 = .ok (.isub, 1) := by decide +kernel
theorem dX9_saying_83 : decode cX9_saying 83 = .ok (.sipush 1000, 3) := by decide +kernel
theorem dX9_saying_86 : decode cX9_saying 86 = .ok (.iadd, 1) := by decide +kernel
theorem dX9_saying_87 : decode cX9_saying 87 = .ok (.ireturn, 1) := by decide +kernel
theorem dX9_saying_88 : decode cX9_saying 88 = .ok (.aload_n 0, 1) := by decide +kernel
theorem dX9_saying_89 : decode cX9_saying 89 = .ok (.getfield 25, 3) := by decide +kernel
theorem dX9_saying_92 : decode cX9_saying 92 = .ok (.iload_n 1, 1) := by decide +kernel
theorem dX9_saying_93 : decode cX9_saying 93 = .ok (.iaload, 1) := by decide +kernel
theorem dX9_saying_94 : decode cX9_saying 94 = .ok (.ireturn, 1) := by decide +kernel
theorem dX9_saying_95 : decode cX9_saying 95 = .ok (.aload_n 0, 1) := by decide +kernel
theorem dX9_saying_96 : decode cX9_saying 96 = .ok (.iload_n 1, 1) := by decide +kernel
theorem dX9_saying_97 : decode cX9_saying 97 = .ok (.invokevirtual 207, 3) := by decide +kernel
theorem dX9_saying_100 : decode cX9_saying 100 = .ok (.ireturn, 1) := by decide +kernel
theorem dX9_saying_101 : decode cX9_saying 101 = .ok (.aload_n 0, 1) := by decide +kernel
theorem dX9_saying_102 : decode cX9_saying 102 = .ok (.iload_n 1, 1) := by decide +kernel
theorem dX9_saying_103 : decode cX9_saying 103 = .ok (.invokevirtual 210, 3) := by decide +kernel
theorem dX9_saying_106 : decode cX9_saying 106 = .ok (.ireturn, 1) := by decide +kernel
theorem dX9_saying_107 : decode cX9_saying 107 = .ok (.aload_n 0, 1) := by decide +kernel
theorem dX9_saying_108 : decode cX9_saying 108 = .ok (.iload_n 1, 1) := by decide +kernel
theorem dX9_saying_109 : decode cX9_saying 109 = .ok (.invokevirtual 188, 3) := by decide +kernel
theorem dX9_saying_112 : decode cX9_saying 112 = .ok (.ireturn, 1) := by decide +kernel
theorem dX9_saying_113 : decode cX9_saying 113 = .ok (.aload_n 0, 1) := by decide +kernel
theorem dX9_saying_114 : decode cX9_saying 114 = .ok (.getfield 22, 3) := by decide +kernel
theorem dX9_saying_117 : decode cX9_saying 117 = .ok (.iload_n 1, 1) := by decide +kernel
theorem dX9_saying_118 : decode cX9_saying 118 = .ok (.iaload, 1) := by decide +kernel
theorem dX9_saying_119 : decode cX9_saying 119 = .ok (.ireturn, 1) := by decide +kernel
theorem dX9_saying_120 : decode cX9_saying 120 = .ok (.ldc 85, 2) := by decide +kernel
theorem dX9_saying_122 : decode cX9_saying 122 = .ok (.ireturn, 1) := by decide +kernel
set_option maxRecDepth 20000 in
theorem ggX9_person_X9_isPerson : GoodIn wsX9_person wsX9_isPerson := goodIn_r _ [8, 9, 10, 11, 7, 12, 36, 37, 38, 39, 40, 41, 42, 43, 44, 45, 46, 47, 48, 49, 50, 51, 52, 53, 54, 55, 56, 57, 58, 59, 60, 61, 62, 63, 64, 65, 66, 67, 68, 69, 70, 71, 72, 73] (by decide +kernel) (by decide +kernel)
set_option maxRecDepth 20000 in
theorem gX9_person_X9_isPerson : GoodIn wsX9_person (wsV RX9 213 RX9 yX9_isPerson wsX9_isPerson) := goodIn_app (goodIn_of _ (by decide +kernel)) ggX9_person_X9_isPerson
set_option maxRecDepth 20000 in
theorem ggX9_person_X9_saidBy : GoodIn wsX9_person wsX9_saidBy := goodIn_r _ [16, 17, 18, 36, 37, 38, 39, 40, 41, 42, 43, 44, 45, 46, 47, 48, 49, 50, 51, 52, 53, 54, 55, 56, 57, 58, 59, 60, 61, 62, 63, 64, 65, 66, 67, 68, 69, 70, 71, 72, 73] (by decide +kernel) (by decide +kernel)
set_option maxRecDepth 20000 in
theorem gX9_person_X9_saidBy : GoodIn wsX9_person (wsV RX9 216 RX9 yX9_saidBy wsX9_saidBy) := goodIn_app (goodIn_of _ (by decide +kernel)) ggX9_person_X9_saidBy
set_option maxRecDepth 20000 in
theorem ggX9_person_X9_leansOf : GoodIn wsX9_person wsX9_leansOf := goodIn_r _ [22, 17, 18, 23, 24, 25, 7, 26, 36, 37, 38, 39, 40, 41, 42, 43, 44, 45, 46, 47, 48, 49, 50, 51, 52, 53, 54, 55, 56, 57, 58, 59, 60, 61, 62, 63, 64, 65, 66, 67, 68, 69, 70, 71, 72, 73] (by decide +kernel) (by decide +kernel)
set_option maxRecDepth 20000 in
theorem gX9_person_X9_leansOf : GoodIn wsX9_person (wsV RX9 219 RX9 yX9_leansOf wsX9_leansOf) := goodIn_app (goodIn_of _ (by decide +kernel)) ggX9_person_X9_leansOf
set_option maxRecDepth 20000 in
theorem ggX9_person_X9_shareOf : GoodIn wsX9_person wsX9_shareOf := goodIn_r _ [30, 31, 9, 2, 32, 33, 34, 7, 35, 36, 37, 38, 39, 40, 41, 42, 43, 44, 45, 46, 47, 48, 49, 50, 51, 52, 53, 54, 55, 56, 57, 58, 59, 60, 61, 62, 63, 64, 65, 66, 67, 68, 69, 70, 71, 72, 73] (by decide +kernel) (by decide +kernel)
set_option maxRecDepth 20000 in
theorem gX9_person_X9_shareOf : GoodIn wsX9_person (wsV RX9 222 RX9 yX9_shareOf wsX9_shareOf) := goodIn_app (goodIn_of _ (by decide +kernel)) ggX9_person_X9_shareOf
theorem dX9_person_0 : decode cX9_person 0 = .ok (.aload_n 0, 1) := by decide +kernel
theorem dX9_person_1 : decode cX9_person 1 = .ok (.iload_n 1, 1) := by decide +kernel
theorem dX9_person_2 : decode cX9_person 2 = .ok (.invokevirtual 213, 3) := by decide +kernel
theorem dX9_person_5 : decode cX9_person 5 = .ok (.ifCond .ne 6, 3) := by decide +kernel
theorem dX9_person_8 : decode cX9_person 8 = .ok (.ldc 206, 2) := by decide +kernel
theorem dX9_person_10 : decode cX9_person 10 = .ok (.ireturn, 1) := by decide +kernel
theorem dX9_person_11 : decode cX9_person 11 = .ok (.iload_n 2, 1) := by decide +kernel
theorem dX9_person_12 : decode cX9_person 12 = .ok (.tableswitch 57 0 3 #[32, 39, 45, 51], 32) := by decide +kernel
theorem dX9_person_44 : decode cX9_person 44 = .ok (.aload_n 0, 1) := by decide +kernel
theorem dX9_person_45 : decode cX9_person 45 = .ok (.getfield 7, 3) := by decide +kernel
theorem dX9_person_48 : decode cX9_person 48 = .ok (.iload_n 1, 1) := by decide +kernel
theorem dX9_person_49 : decode cX9_person 49 = .ok (.iaload, 1) := by decide +kernel
theorem dX9_person_50 : decode cX9_person 50 = .ok (.ireturn, 1) := by decide +kernel
theorem dX9_person_51 : decode cX9_person 51 = .ok (.aload_n 0, 1) := by decide +kernel
theorem dX9_person_52 : decode cX9_person 52 = .ok (.iload_n 1, 1) := by decide +kernel
theorem dX9_person_53 : decode cX9_person 53 = .ok (.invokevirtual 216, 3) := by decide +kernel
theorem dX9_person_56 : decode cX9_person 56 = .ok (.ireturn, 1) := by decide +kernel
theorem dX9_person_57 : decode cX9_person 57 = .ok (.aload_n 0, 1) := by decide +kernel
theorem dX9_person_58 : decode cX9_person 58 = .ok (.iload_n 1, 1) := by decide +kernel
theorem dX9_person_59 : decode cX9_person 59 = .ok (.invokevirtual 219, 3) := by decide +kernel
theorem dX9_person_62 : decode cX9_person 62 = .ok (.ireturn, 1) := by decide +kernel
theorem dX9_person_63 : decode cX9_person 63 = .ok (.aload_n 0, 1) := by decide +kernel
theorem dX9_person_64 : decode cX9_person 64 = .ok (.iload_n 1, 1) := by decide +kernel
theorem dX9_person_65 : decode cX9_person 65 = .ok (.invokevirtual 222, 3) := by decide +kernel
theorem dX9_person_68 : decode cX9_person 68 = .ok (.ireturn, 1) := by decide +kernel
theorem dX9_person_69 : decode cX9_person 69 = .ok (.ldc 85, 2) := by decide +kernel
theorem dX9_person_71 : decode cX9_person 71 = .ok (.ireturn, 1) := by decide +kernel
set_option maxRecDepth 20000 in
theorem ggX9_queued_X9_in : GoodIn wsX9_queued wsX9_in := goodIn_r _ [6] (by decide +kernel) (by decide +kernel)
set_option maxRecDepth 20000 in
theorem gX9_queued_X9_in : GoodIn wsX9_queued (va_wsS RX9 76 yX9_in wsX9_in) := goodIn_app (goodIn_of _ (by decide +kernel)) ggX9_queued_X9_in
theorem dX9_queued_0 : decode cX9_queued 0 = .ok (.iload_n 2, 1) := by decide +kernel
theorem dX9_queued_1 : decode cX9_queued 1 = .ok (.i2l, 1) := by decide +kernel
theorem dX9_queued_2 : decode cX9_queued 2 = .ok (.lconst 0, 1) := by decide +kernel
theorem dX9_queued_3 : decode cX9_queued 3 = .ok (.lconst 1, 1) := by decide +kernel
theorem dX9_queued_4 : decode cX9_queued 4 = .ok (.invokestatic 76, 3) := by decide +kernel
theorem dX9_queued_7 : decode cX9_queued 7 = .ok (.ifCond .ne 6, 3) := by decide +kernel
theorem dX9_queued_10 : decode cX9_queued 10 = .ok (.ldc 85, 2) := by decide +kernel
theorem dX9_queued_12 : decode cX9_queued 12 = .ok (.ireturn, 1) := by decide +kernel
theorem dX9_queued_13 : decode cX9_queued 13 = .ok (.iload_n 1, 1) := by decide +kernel
theorem dX9_queued_14 : decode cX9_queued 14 = .ok (.i2l, 1) := by decide +kernel
theorem dX9_queued_15 : decode cX9_queued 15 = .ok (.lconst 0, 1) := by decide +kernel
theorem dX9_queued_16 : decode cX9_queued 16 = .ok (.aload_n 0, 1) := by decide +kernel
theorem dX9_queued_17 : decode cX9_queued 17 = .ok (.getfield 25, 3) := by decide +kernel
theorem dX9_queued_20 : decode cX9_queued 20 = .ok (.bipush 16, 2) := by decide +kernel
theorem dX9_queued_22 : decode cX9_queued 22 = .ok (.iaload, 1) := by decide +kernel
theorem dX9_queued_23 : decode cX9_queued 23 = .ok (.iconst 1, 1) := by decide +kernel
theorem dX9_queued_24 : decode cX9_queued 24 = .ok (.isub, 1) := by decide +kernel
theorem dX9_queued_25 : decode cX9_queued 25 = .ok (.i2l, 1) := by decide +kernel
theorem dX9_queued_26 : decode cX9_queued 26 = .ok (.invokestatic 76, 3) := by decide +kernel
theorem dX9_queued_29 : decode cX9_queued 29 = .ok (.ifCond .ne 5, 3) := by decide +kernel
theorem dX9_queued_32 : decode cX9_queued 32 = .ok (.iconst (-1), 1) := by decide +kernel
theorem dX9_queued_33 : decode cX9_queued 33 = .ok (.ireturn, 1) := by decide +kernel
theorem dX9_queued_34 : decode cX9_queued 34 = .ok (.aload_n 0, 1) := by decide +kernel
theorem dX9_queued_35 : decode cX9_queued 35 = .ok (.getfield 25, 3) := by decide +kernel
theorem dX9_queued_38 : decode cX9_queued 38 = .ok (.bipush 17, 2) := by decide +kernel
theorem dX9_queued_40 : decode cX9_queued 40 = .ok (.iload_n 1, 1) := by decide +kernel
theorem dX9_queued_41 : decode cX9_queued 41 = .ok (.iadd, 1) := by decide +kernel
theorem dX9_queued_42 : decode cX9_queued 42 = .ok (.iaload, 1) := by decide +kernel
theorem dX9_queued_43 : decode cX9_queued 43 = .ok (.istore_n 3, 1) := by decide +kernel
theorem dX9_queued_44 : decode cX9_queued 44 = .ok (.iload_n 2, 1) := by decide +kernel
theorem dX9_queued_45 : decode cX9_queued 45 = .ok (.ifCond .ne 10, 3) := by decide +kernel
theorem dX9_queued_48 : decode cX9_queued 48 = .ok (.iload_n 3, 1) := by decide +kernel
theorem dX9_queued_49 : decode cX9_queued 49 = .ok (.bipush 10, 2) := by decide +kernel
theorem dX9_queued_51 : decode cX9_queued 51 = .ok (.idiv, 1) := by decide +kernel
theorem dX9_queued_52 : decode cX9_queued 52 = .ok (.goto 7, 3) := by decide +kernel
theorem dX9_queued_55 : decode cX9_queued 55 = .ok (.iload_n 3, 1) := by decide +kernel
theorem dX9_queued_56 : decode cX9_queued 56 = .ok (.bipush 10, 2) := by decide +kernel
theorem dX9_queued_58 : decode cX9_queued 58 = .ok (.irem, 1) := by decide +kernel
theorem dX9_queued_59 : decode cX9_queued 59 = .ok (.ireturn, 1) := by decide +kernel
theorem dX9_drawsOf_0 : decode cX9_drawsOf 0 = .ok (.aload_n 0, 1) := by decide +kernel
theorem dX9_drawsOf_1 : decode cX9_drawsOf 1 = .ok (.getfield 13, 3) := by decide +kernel
theorem dX9_drawsOf_4 : decode cX9_drawsOf 4 = .ok (.iload_n 2, 1) := by decide +kernel
theorem dX9_drawsOf_5 : decode cX9_drawsOf 5 = .ok (.iaload, 1) := by decide +kernel
theorem dX9_drawsOf_6 : decode cX9_drawsOf 6 = .ok (.iload_n 1, 1) := by decide +kernel
theorem dX9_drawsOf_7 : decode cX9_drawsOf 7 = .ok (.if_icmp .ne 7, 3) := by decide +kernel
theorem dX9_drawsOf_10 : decode cX9_drawsOf 10 = .ok (.iconst 1, 1) := by decide +kernel
theorem dX9_drawsOf_11 : decode cX9_drawsOf 11 = .ok (.goto 4, 3) := by decide +kernel
theorem dX9_drawsOf_14 : decode cX9_drawsOf 14 = .ok (.iconst 2, 1) := by decide +kernel
theorem dX9_drawsOf_15 : decode cX9_drawsOf 15 = .ok (.istore 5, 2) := by decide +kernel
theorem dX9_drawsOf_17 : decode cX9_drawsOf 17 = .ok (.iload 5, 2) := by decide +kernel
theorem dX9_drawsOf_19 : decode cX9_drawsOf 19 = .ok (.aload_n 0, 1) := by decide +kernel
theorem dX9_drawsOf_20 : decode cX9_drawsOf 20 = .ok (.getfield 16, 3) := by decide +kernel
theorem dX9_drawsOf_23 : decode cX9_drawsOf 23 = .ok (.iload_n 2, 1) := by decide +kernel
theorem dX9_drawsOf_24 : decode cX9_drawsOf 24 = .ok (.iaload, 1) := by decide +kernel
theorem dX9_drawsOf_25 : decode cX9_drawsOf 25 = .ok (.iload_n 3, 1) := by decide +kernel
theorem dX9_drawsOf_26 : decode cX9_drawsOf 26 = .ok (.isub, 1) := by decide +kernel
theorem dX9_drawsOf_27 : decode cX9_drawsOf 27 = .ok (.imul, 1) := by decide +kernel
theorem dX9_drawsOf_28 : decode cX9_drawsOf 28 = .ok (.istore 6, 2) := by decide +kernel
theorem dX9_drawsOf_30 : decode cX9_drawsOf 30 = .ok (.iload 6, 2) := by decide +kernel
theorem dX9_drawsOf_32 : decode cX9_drawsOf 32 = .ok (.aload_n 0, 1) := by decide +kernel
theorem dX9_drawsOf_33 : decode cX9_drawsOf 33 = .ok (.getfield 7, 3) := by decide +kernel
theorem dX9_drawsOf_36 : decode cX9_drawsOf 36 = .ok (.iload_n 1, 1) := by decide +kernel
theorem dX9_drawsOf_37 : decode cX9_drawsOf 37 = .ok (.iaload, 1) := by decide +kernel
theorem dX9_drawsOf_38 : decode cX9_drawsOf 38 = .ok (.if_icmp .ge 8, 3) := by decide +kernel
theorem dX9_drawsOf_41 : decode cX9_drawsOf 41 = .ok (.iload 6, 2) := by decide +kernel
theorem dX9_drawsOf_43 : decode cX9_drawsOf 43 = .ok (.goto 9, 3) := by decide +kernel
theorem dX9_drawsOf_46 : decode cX9_drawsOf 46 = .ok (.aload_n 0, 1) := by decide +kernel
theorem dX9_drawsOf_47 : decode cX9_drawsOf 47 = .ok (.getfield 7, 3) := by decide +kernel
theorem dX9_drawsOf_50 : decode cX9_drawsOf 50 = .ok (.iload_n 1, 1) := by decide +kernel
theorem dX9_drawsOf_51 : decode cX9_drawsOf 51 = .ok (.iaload, 1) := by decide +kernel
theorem dX9_drawsOf_52 : decode cX9_drawsOf 52 = .ok (.istore 7, 2) := by decide +kernel
theorem dX9_drawsOf_54 : decode cX9_drawsOf 54 = .ok (.iload 7, 2) := by decide +kernel
theorem dX9_drawsOf_56 : decode cX9_drawsOf 56 = .ok (.iload 4, 2) := by decide +kernel
theorem dX9_drawsOf_58 : decode cX9_drawsOf 58 = .ok (.if_icmp .ge 8, 3) := by decide +kernel
theorem dX9_drawsOf_61 : decode cX9_drawsOf 61 = .ok (.iload 7, 2) := by decide +kernel
theorem dX9_drawsOf_63 : decode cX9_drawsOf 63 = .ok (.goto 5, 3) := by decide +kernel
theorem dX9_drawsOf_66 : decode cX9_drawsOf 66 = .ok (.iload 4, 2) := by decide +kernel
theorem dX9_drawsOf_68 : decode cX9_drawsOf 68 = .ok (.istore 7, 2) := by decide +kernel
theorem dX9_drawsOf_70 : decode cX9_drawsOf 70 = .ok (.iload 7, 2) := by decide +kernel
theorem dX9_drawsOf_72 : decode cX9_drawsOf 72 = .ok (.iload 7, 2) := by decide +kernel
theorem dX9_drawsOf_74 : decode cX9_drawsOf 74 = .ok (.iload 5, 2) := by decide +kernel
theorem dX9_drawsOf_76 : decode cX9_drawsOf 76 = .ok (.irem, 1) := by decide +kernel
theorem dX9_drawsOf_77 : decode cX9_drawsOf 77 = .ok (.isub, 1) := by decide +kernel
theorem dX9_drawsOf_78 : decode cX9_drawsOf 78 = .ok (.ireturn, 1) := by decide +kernel
set_option maxRecDepth 20000 in
theorem ggX9_canPour_X9_has : GoodIn wsX9_canPour wsX9_has := goodIn_r _ [5] (by decide +kernel) (by decide +kernel)
set_option maxRecDepth 20000 in
theorem gX9_canPour_X9_has : GoodIn wsX9_canPour (va_wsS RX9 136 yX9_has wsX9_has) := goodIn_app (goodIn_of _ (by decide +kernel)) ggX9_canPour_X9_has
set_option maxRecDepth 20000 in
theorem ggX9_canPour_X9_drawsOf : GoodIn wsX9_canPour wsX9_drawsOf := goodIn_r _ [9, 10, 11, 12, 13, 14, 15, 16, 17, 18, 19, 20, 21, 22, 23, 24, 25, 26, 27, 28, 29, 30, 31, 32, 33, 34, 35, 36, 37, 38, 39, 40, 41, 42, 43, 44, 45, 46, 47, 48, 49, 50] (by decide +kernel) (by decide +kernel)
set_option maxRecDepth 20000 in
theorem gX9_canPour_X9_drawsOf : GoodIn wsX9_canPour (wsV RX9 225 RX9 yX9_drawsOf wsX9_drawsOf) := goodIn_app (goodIn_of _ (by decide +kernel)) ggX9_canPour_X9_drawsOf
theorem dX9_canPour_0 : decode cX9_canPour 0 = .ok (.aload_n 0, 1) := by decide +kernel
theorem dX9_canPour_1 : decode cX9_canPour 1 = .ok (.getfield 25, 3) := by decide +kernel
theorem dX9_canPour_4 : decode cX9_canPour 4 = .ok (.bipush 10, 2) := by decide +kernel
theorem dX9_canPour_6 : decode cX9_canPour 6 = .ok (.iaload, 1) := by decide +kernel
theorem dX9_canPour_7 : decode cX9_canPour 7 = .ok (.aload_n 0, 1) := by decide +kernel
theorem dX9_canPour_8 : decode cX9_canPour 8 = .ok (.getfield 25, 3) := by decide +kernel
theorem dX9_canPour_11 : decode cX9_canPour 11 = .ok (.bipush 11, 2) := by decide +kernel
theorem dX9_canPour_13 : decode cX9_canPour 13 = .ok (.iaload, 1) := by decide +kernel
theorem dX9_canPour_14 : decode cX9_canPour 14 = .ok (.ior, 1) := by decide +kernel
theorem dX9_canPour_15 : decode cX9_canPour 15 = .ok (.iload_n 2, 1) := by decide +kernel
theorem dX9_canPour_16 : decode cX9_canPour 16 = .ok (.invokestatic 136, 3) := by decide +kernel
theorem dX9_canPour_19 : decode cX9_canPour 19 = .ok (.ifCond .eq 7, 3) := by decide +kernel
theorem dX9_canPour_22 : decode cX9_canPour 22 = .ok (.iconst 0, 1) := by decide +kernel
theorem dX9_canPour_23 : decode cX9_canPour 23 = .ok (.goto 22, 3) := by decide +kernel
theorem dX9_canPour_26 : decode cX9_canPour 26 = .ok (.aload_n 0, 1) := by decide +kernel
theorem dX9_canPour_27 : decode cX9_canPour 27 = .ok (.iload_n 1, 1) := by decide +kernel
theorem dX9_canPour_28 : decode cX9_canPour 28 = .ok (.iload_n 2, 1) := by decide +kernel
theorem dX9_canPour_29 : decode cX9_canPour 29 = .ok (.aload_n 0, 1) := by decide +kernel
theorem dX9_canPour_30 : decode cX9_canPour 30 = .ok (.getfield 25, 3) := by decide +kernel
theorem dX9_canPour_33 : decode cX9_canPour 33 = .ok (.iload_n 2, 1) := by decide +kernel
theorem dX9_canPour_34 : decode cX9_canPour 34 = .ok (.iaload, 1) := by decide +kernel
theorem dX9_canPour_35 : decode cX9_canPour 35 = .ok (.aload_n 0, 1) := by decide +kernel
theorem dX9_canPour_36 : decode cX9_canPour 36 = .ok (.getfield 25, 3) := by decide +kernel
theorem dX9_canPour_39 : decode cX9_canPour 39 = .ok (.bipush 12, 2) := by decide +kernel
theorem dX9_canPour_41 : decode cX9_canPour 41 = .ok (.iaload, 1) := by decide +kernel
theorem dX9_canPour_42 : decode cX9_canPour 42 = .ok (.invokevirtual 225, 3) := by decide +kernel
theorem dX9_canPour_45 : decode cX9_canPour 45 = .ok (.ireturn, 1) := by decide +kernel
set_option maxRecDepth 20000 in
theorem ggX9_pourNow_X9_canPour : GoodIn wsX9_pourNow wsX9_canPour := goodIn_r _ [8, 1, 9, 10, 7, 11, 12, 13, 14, 15, 2, 3, 16, 17, 18, 19, 20, 21, 22, 23, 24, 25, 26, 27, 28, 29, 30, 31, 32, 33, 34, 35, 36, 37, 38, 39, 40, 41, 42, 43, 44, 45, 46, 47, 48, 49, 50, 51, 52, 53, 54] (by decide +kernel) (by decide +kernel)
set_option maxRecDepth 20000 in
theorem gX9_pourNow_X9_canPour : GoodIn wsX9_pourNow (wsV RX9 229 RX9 yX9_canPour wsX9_canPour) := goodIn_app (goodIn_of _ (by decide +kernel)) ggX9_pourNow_X9_canPour
theorem dX9_pourNow_0 : decode cX9_pourNow 0 = .ok (.aload_n 0, 1) := by decide +kernel
theorem dX9_pourNow_1 : decode cX9_pourNow 1 = .ok (.iload_n 1, 1) := by decide +kernel
theorem dX9_pourNow_2 : decode cX9_pourNow 2 = .ok (.iload_n 2, 1) := by decide +kernel
theorem dX9_pourNow_3 : decode cX9_pourNow 3 = .ok (.invokevirtual 229, 3) := by decide +kernel
theorem dX9_pourNow_6 : decode cX9_pourNow 6 = .ok (.istore_n 3, 1) := by decide +kernel
theorem dX9_pourNow_7 : decode cX9_pourNow 7 = .ok (.aload_n 0, 1) := by decide +kernel
theorem dX9_pourNow_8 : decode cX9_pourNow 8 = .ok (.getfield 25, 3) := by decide +kernel
theorem dX9_pourNow_11 : decode cX9_pourNow 11 = .ok (.bipush 12, 2) := by decide +kernel
theorem dX9_pourNow_13 : decode cX9_pourNow 13 = .ok (.dup2, 1) := by decide +kernel
theorem dX9_pourNow_14 : decode cX9_pourNow 14 = .ok (.iaload, 1) := by decide +kernel
theorem dX9_pourNow_15 : decode cX9_pourNow 15 = .ok (.iload_n 3, 1) := by decide +kernel
theorem dX9_pourNow_16 : decode cX9_pourNow 16 = .ok (.isub, 1) := by decide +kernel
theorem dX9_pourNow_17 : decode cX9_pourNow 17 = .ok (.iastore, 1) := by decide +kernel
theorem dX9_pourNow_18 : decode cX9_pourNow 18 = .ok (.aload_n 0, 1) := by decide +kernel
theorem dX9_pourNow_19 : decode cX9_pourNow 19 = .ok (.getfield 25, 3) := by decide +kernel
