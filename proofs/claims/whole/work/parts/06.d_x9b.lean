theorem dX9_pourNow_22 : decode cX9_pourNow 22 = .ok (.bipush 15, 2) := by decide +kernel
theorem dX9_pourNow_24 : decode cX9_pourNow 24 = .ok (.dup2, 1) := by decide +kernel
theorem dX9_pourNow_25 : decode cX9_pourNow 25 = .ok (.iaload, 1) := by decide +kernel
theorem dX9_pourNow_26 : decode cX9_pourNow 26 = .ok (.iload_n 3, 1) := by decide +kernel
theorem dX9_pourNow_27 : decode cX9_pourNow 27 = .ok (.iadd, 1) := by decide +kernel
theorem dX9_pourNow_28 : decode cX9_pourNow 28 = .ok (.iastore, 1) := by decide +kernel
theorem dX9_pourNow_29 : decode cX9_pourNow 29 = .ok (.aload_n 0, 1) := by decide +kernel
theorem dX9_pourNow_30 : decode cX9_pourNow 30 = .ok (.getfield 25, 3) := by decide +kernel
theorem dX9_pourNow_33 : decode cX9_pourNow 33 = .ok (.iload_n 2, 1) := by decide +kernel
theorem dX9_pourNow_34 : decode cX9_pourNow 34 = .ok (.dup2, 1) := by decide +kernel
theorem dX9_pourNow_35 : decode cX9_pourNow 35 = .ok (.iaload, 1) := by decide +kernel
theorem dX9_pourNow_36 : decode cX9_pourNow 36 = .ok (.iload_n 3, 1) := by decide +kernel
theorem dX9_pourNow_37 : decode cX9_pourNow 37 = .ok (.aload_n 0, 1) := by decide +kernel
theorem dX9_pourNow_38 : decode cX9_pourNow 38 = .ok (.getfield 13, 3) := by decide +kernel
theorem dX9_pourNow_41 : decode cX9_pourNow 41 = .ok (.iload_n 2, 1) := by decide +kernel
theorem dX9_pourNow_42 : decode cX9_pourNow 42 = .ok (.iaload, 1) := by decide +kernel
theorem dX9_pourNow_43 : decode cX9_pourNow 43 = .ok (.iload_n 1, 1) := by decide +kernel
theorem dX9_pourNow_44 : decode cX9_pourNow 44 = .ok (.if_icmp .ne 7, 3) := by decide +kernel
theorem dX9_pourNow_47 : decode cX9_pourNow 47 = .ok (.iconst 1, 1) := by decide +kernel
theorem dX9_pourNow_48 : decode cX9_pourNow 48 = .ok (.goto 4, 3) := by decide +kernel
theorem dX9_pourNow_51 : decode cX9_pourNow 51 = .ok (.iconst 2, 1) := by decide +kernel
theorem dX9_pourNow_52 : decode cX9_pourNow 52 = .ok (.idiv, 1) := by decide +kernel
theorem dX9_pourNow_53 : decode cX9_pourNow 53 = .ok (.iadd, 1) := by decide +kernel
theorem dX9_pourNow_54 : decode cX9_pourNow 54 = .ok (.iastore, 1) := by decide +kernel
theorem dX9_pourNow_55 : decode cX9_pourNow 55 = .ok (.iload_n 3, 1) := by decide +kernel
theorem dX9_pourNow_56 : decode cX9_pourNow 56 = .ok (.ifCond .le 38, 3) := by decide +kernel
theorem dX9_pourNow_59 : decode cX9_pourNow 59 = .ok (.aload_n 0, 1) := by decide +kernel
theorem dX9_pourNow_60 : decode cX9_pourNow 60 = .ok (.getfield 25, 3) := by decide +kernel
theorem dX9_pourNow_63 : decode cX9_pourNow 63 = .ok (.iload_n 2, 1) := by decide +kernel
theorem dX9_pourNow_64 : decode cX9_pourNow 64 = .ok (.iaload, 1) := by decide +kernel
theorem dX9_pourNow_65 : decode cX9_pourNow 65 = .ok (.aload_n 0, 1) := by decide +kernel
theorem dX9_pourNow_66 : decode cX9_pourNow 66 = .ok (.getfield 16, 3) := by decide +kernel
theorem dX9_pourNow_69 : decode cX9_pourNow 69 = .ok (.iload_n 2, 1) := by decide +kernel
theorem dX9_pourNow_70 : decode cX9_pourNow 70 = .ok (.iaload, 1) := by decide +kernel
theorem dX9_pourNow_71 : decode cX9_pourNow 71 = .ok (.if_icmp .lt 23, 3) := by decide +kernel
theorem dX9_pourNow_74 : decode cX9_pourNow 74 = .ok (.aload_n 0, 1) := by decide +kernel
theorem dX9_pourNow_75 : decode cX9_pourNow 75 = .ok (.getfield 25, 3) := by decide +kernel
theorem dX9_pourNow_78 : decode cX9_pourNow 78 = .ok (.iload_n 2, 1) := by decide +kernel
theorem dX9_pourNow_79 : decode cX9_pourNow 79 = .ok (.iconst 0, 1) := by decide +kernel
theorem dX9_pourNow_80 : decode cX9_pourNow 80 = .ok (.iastore, 1) := by decide +kernel
theorem dX9_pourNow_81 : decode cX9_pourNow 81 = .ok (.aload_n 0, 1) := by decide +kernel
theorem dX9_pourNow_82 : decode cX9_pourNow 82 = .ok (.getfield 25, 3) := by decide +kernel
theorem dX9_pourNow_85 : decode cX9_pourNow 85 = .ok (.bipush 10, 2) := by decide +kernel
theorem dX9_pourNow_87 : decode cX9_pourNow 87 = .ok (.dup2, 1) := by decide +kernel
theorem dX9_pourNow_88 : decode cX9_pourNow 88 = .ok (.iaload, 1) := by decide +kernel
theorem dX9_pourNow_89 : decode cX9_pourNow 89 = .ok (.iconst 1, 1) := by decide +kernel
theorem dX9_pourNow_90 : decode cX9_pourNow 90 = .ok (.iload_n 2, 1) := by decide +kernel
theorem dX9_pourNow_91 : decode cX9_pourNow 91 = .ok (.ishl, 1) := by decide +kernel
theorem dX9_pourNow_92 : decode cX9_pourNow 92 = .ok (.ior, 1) := by decide +kernel
theorem dX9_pourNow_93 : decode cX9_pourNow 93 = .ok (.iastore, 1) := by decide +kernel
theorem dX9_pourNow_94 : decode cX9_pourNow 94 = .ok (.iload_n 3, 1) := by decide +kernel
theorem dX9_pourNow_95 : decode cX9_pourNow 95 = .ok (.ireturn, 1) := by decide +kernel
theorem dX9_remember_0 : decode cX9_remember 0 = .ok (.aload_n 0, 1) := by decide +kernel
theorem dX9_remember_1 : decode cX9_remember 1 = .ok (.getfield 178, 3) := by decide +kernel
theorem dX9_remember_4 : decode cX9_remember 4 = .ok (.bipush 16, 2) := by decide +kernel
theorem dX9_remember_6 : decode cX9_remember 6 = .ok (.if_icmp .ne 44, 3) := by decide +kernel
theorem dX9_remember_9 : decode cX9_remember 9 = .ok (.bipush 23, 2) := by decide +kernel
theorem dX9_remember_11 : decode cX9_remember 11 = .ok (.istore_n 1, 1) := by decide +kernel
theorem dX9_remember_12 : decode cX9_remember 12 = .ok (.iload_n 1, 1) := by decide +kernel
theorem dX9_remember_13 : decode cX9_remember 13 = .ok (.sipush 368, 3) := by decide +kernel
theorem dX9_remember_16 : decode cX9_remember 16 = .ok (.if_icmp .ge 24, 3) := by decide +kernel
theorem dX9_remember_19 : decode cX9_remember 19 = .ok (.aload_n 0, 1) := by decide +kernel
theorem dX9_remember_20 : decode cX9_remember 20 = .ok (.getfield 53, 3) := by decide +kernel
theorem dX9_remember_23 : decode cX9_remember 23 = .ok (.iload_n 1, 1) := by decide +kernel
theorem dX9_remember_24 : decode cX9_remember 24 = .ok (.bipush 23, 2) := by decide +kernel
theorem dX9_remember_26 : decode cX9_remember 26 = .ok (.isub, 1) := by decide +kernel
theorem dX9_remember_27 : decode cX9_remember 27 = .ok (.aload_n 0, 1) := by decide +kernel
theorem dX9_remember_28 : decode cX9_remember 28 = .ok (.getfield 53, 3) := by decide +kernel
theorem dX9_remember_31 : decode cX9_remember 31 = .ok (.iload_n 1, 1) := by decide +kernel
theorem dX9_remember_32 : decode cX9_remember 32 = .ok (.iaload, 1) := by decide +kernel
theorem dX9_remember_33 : decode cX9_remember 33 = .ok (.iastore, 1) := by decide +kernel
theorem dX9_remember_34 : decode cX9_remember 34 = .ok (.iinc 1 1, 3) := by decide +kernel
theorem dX9_remember_37 : decode cX9_remember 37 = .ok (.goto (-25), 3) := by decide +kernel
theorem dX9_remember_40 : decode cX9_remember 40 = .ok (.aload_n 0, 1) := by decide +kernel
theorem dX9_remember_41 : decode cX9_remember 41 = .ok (.dup, 1) := by decide +kernel
theorem dX9_remember_42 : decode cX9_remember 42 = .ok (.getfield 178, 3) := by decide +kernel
theorem dX9_remember_45 : decode cX9_remember 45 = .ok (.iconst 1, 1) := by decide +kernel
theorem dX9_remember_46 : decode cX9_remember 46 = .ok (.isub, 1) := by decide +kernel
theorem dX9_remember_47 : decode cX9_remember 47 = .ok (.putfield 178, 3) := by decide +kernel
theorem dX9_remember_50 : decode cX9_remember 50 = .ok (.iconst 0, 1) := by decide +kernel
theorem dX9_remember_51 : decode cX9_remember 51 = .ok (.istore_n 1, 1) := by decide +kernel
theorem dX9_remember_52 : decode cX9_remember 52 = .ok (.iload_n 1, 1) := by decide +kernel
theorem dX9_remember_53 : decode cX9_remember 53 = .ok (.bipush 23, 2) := by decide +kernel
theorem dX9_remember_55 : decode cX9_remember 55 = .ok (.if_icmp .ge 29, 3) := by decide +kernel
theorem dX9_remember_58 : decode cX9_remember 58 = .ok (.aload_n 0, 1) := by decide +kernel
theorem dX9_remember_59 : decode cX9_remember 59 = .ok (.getfield 53, 3) := by decide +kernel
theorem dX9_remember_62 : decode cX9_remember 62 = .ok (.bipush 23, 2) := by decide +kernel
theorem dX9_remember_64 : decode cX9_remember 64 = .ok (.aload_n 0, 1) := by decide +kernel
theorem dX9_remember_65 : decode cX9_remember 65 = .ok (.getfield 178, 3) := by decide +kernel
theorem dX9_remember_68 : decode cX9_remember 68 = .ok (.imul, 1) := by decide +kernel
theorem dX9_remember_69 : decode cX9_remember 69 = .ok (.iload_n 1, 1) := by decide +kernel
theorem dX9_remember_70 : decode cX9_remember 70 = .ok (.iadd, 1) := by decide +kernel
theorem dX9_remember_71 : decode cX9_remember 71 = .ok (.aload_n 0, 1) := by decide +kernel
theorem dX9_remember_72 : decode cX9_remember 72 = .ok (.getfield 25, 3) := by decide +kernel
theorem dX9_remember_75 : decode cX9_remember 75 = .ok (.iload_n 1, 1) := by decide +kernel
theorem dX9_remember_76 : decode cX9_remember 76 = .ok (.iaload, 1) := by decide +kernel
theorem dX9_remember_77 : decode cX9_remember 77 = .ok (.iastore, 1) := by decide +kernel
theorem dX9_remember_78 : decode cX9_remember 78 = .ok (.iinc 1 1, 3) := by decide +kernel
theorem dX9_remember_81 : decode cX9_remember 81 = .ok (.goto (-29), 3) := by decide +kernel
theorem dX9_remember_84 : decode cX9_remember 84 = .ok (.aload_n 0, 1) := by decide +kernel
theorem dX9_remember_85 : decode cX9_remember 85 = .ok (.dup, 1) := by decide +kernel
theorem dX9_remember_86 : decode cX9_remember 86 = .ok (.getfield 178, 3) := by decide +kernel
theorem dX9_remember_89 : decode cX9_remember 89 = .ok (.iconst 1, 1) := by decide +kernel
theorem dX9_remember_90 : decode cX9_remember 90 = .ok (.iadd, 1) := by decide +kernel
theorem dX9_remember_91 : decode cX9_remember 91 = .ok (.putfield 178, 3) := by decide +kernel
theorem dX9_remember_94 : decode cX9_remember 94 = .ok (.return_, 1) := by decide +kernel
set_option maxRecDepth 20000 in
theorem ggX9_pour_X9_isPerson : GoodIn wsX9_pour wsX9_isPerson := goodIn_r _ [7, 8, 9, 10, 6, 11, 42, 43, 44, 45, 46, 47, 48, 49, 50, 51, 52, 53, 54, 55, 56, 57, 58, 59, 60, 61, 62, 63, 64, 65, 66, 67, 68, 69, 70, 71, 72, 73, 74, 75, 76, 77, 78, 79] (by decide +kernel) (by decide +kernel)
set_option maxRecDepth 20000 in
theorem gX9_pour_X9_isPerson : GoodIn wsX9_pour (wsV RX9 213 RX9 yX9_isPerson wsX9_isPerson) := goodIn_app (goodIn_of _ (by decide +kernel)) ggX9_pour_X9_isPerson
set_option maxRecDepth 20000 in
theorem ggX9_pour_X9_isSaying : GoodIn wsX9_pour wsX9_isSaying := goodIn_r _ [15, 16, 9, 10, 6, 11, 42, 43, 44, 45, 46, 47, 48, 49, 50, 51, 52, 53, 54, 55, 56, 57, 58, 59, 60, 61, 62, 63, 64, 65, 66, 67, 68, 69, 70, 71, 72, 73, 74, 75, 76, 77, 78, 79] (by decide +kernel) (by decide +kernel)
set_option maxRecDepth 20000 in
theorem gX9_pour_X9_isSaying : GoodIn wsX9_pour (wsV RX9 203 RX9 yX9_isSaying wsX9_isSaying) := goodIn_app (goodIn_of _ (by decide +kernel)) ggX9_pour_X9_isSaying
set_option maxRecDepth 20000 in
theorem ggX9_pour_X9_canPour : GoodIn wsX9_pour wsX9_canPour := goodIn_r _ [20, 21, 22, 23, 6, 24, 25, 26, 27, 28, 29, 30, 31, 42, 43, 44, 45, 46, 47, 48, 49, 50, 51, 52, 53, 54, 55, 56, 57, 58, 59, 60, 61, 62, 63, 64, 65, 66, 67, 68, 69, 70, 71, 72, 73, 74, 75, 76, 77, 78, 79] (by decide +kernel) (by decide +kernel)
set_option maxRecDepth 20000 in
theorem gX9_pour_X9_canPour : GoodIn wsX9_pour (wsV RX9 229 RX9 yX9_canPour wsX9_canPour) := goodIn_app (goodIn_of _ (by decide +kernel)) ggX9_pour_X9_canPour
set_option maxRecDepth 20000 in
theorem ggX9_pour_X9_remember : GoodIn wsX9_pour wsX9_remember := goodIn_r _ [35, 36, 37, 21, 42, 43, 44, 45, 46, 47, 48, 49, 50, 51, 52, 53, 54, 55, 56, 57, 58, 59, 60, 61, 62, 63, 64, 65, 66, 67, 68, 69, 70, 71, 72, 73, 74, 75, 76, 77, 78, 79] (by decide +kernel) (by decide +kernel)
set_option maxRecDepth 20000 in
theorem gX9_pour_X9_remember : GoodIn wsX9_pour (wsV RX9 233 RX9 yX9_remember wsX9_remember) := goodIn_app (goodIn_of _ (by decide +kernel)) ggX9_pour_X9_remember
set_option maxRecDepth 20000 in
theorem ggX9_pour_X9_pourNow : GoodIn wsX9_pour wsX9_pourNow := goodIn_r _ [41, 21, 29, 30, 17, 18, 19, 6, 20, 22, 23, 24, 25, 26, 27, 28, 31, 42, 43, 44, 45, 46, 47, 48, 49, 50, 51, 52, 53, 54, 55, 56, 57, 58, 59, 60, 61, 62, 63, 64, 65, 66, 67, 68, 69, 70, 71, 72, 73, 74, 75, 76, 77, 78, 79] (by decide +kernel) (by decide +kernel)
set_option maxRecDepth 20000 in
theorem gX9_pour_X9_pourNow : GoodIn wsX9_pour (wsV RX9 236 RX9 yX9_pourNow wsX9_pourNow) := goodIn_app (goodIn_of _ (by decide +kernel)) ggX9_pour_X9_pourNow
theorem dX9_pour_0 : decode cX9_pour 0 = .ok (.aload_n 0, 1) := by decide +kernel
theorem dX9_pour_1 : decode cX9_pour 1 = .ok (.iload_n 1, 1) := by decide +kernel
theorem dX9_pour_2 : decode cX9_pour 2 = .ok (.invokevirtual 213, 3) := by decide +kernel
theorem dX9_pour_5 : decode cX9_pour 5 = .ok (.ifCond .eq 11, 3) := by decide +kernel
theorem dX9_pour_8 : decode cX9_pour 8 = .ok (.aload_n 0, 1) := by decide +kernel
theorem dX9_pour_9 : decode cX9_pour 9 = .ok (.iload_n 2, 1) := by decide +kernel
theorem dX9_pour_10 : decode cX9_pour 10 = .ok (.invokevirtual 203, 3) := by decide +kernel
theorem dX9_pour_13 : decode cX9_pour 13 = .ok (.ifCond .ne 6, 3) := by decide +kernel
theorem dX9_pour_16 : decode cX9_pour 16 = .ok (.ldc 206, 2) := by decide +kernel
theorem dX9_pour_18 : decode cX9_pour 18 = .ok (.ireturn, 1) := by decide +kernel
theorem dX9_pour_19 : decode cX9_pour 19 = .ok (.aload_n 0, 1) := by decide +kernel
theorem dX9_pour_20 : decode cX9_pour 20 = .ok (.iload_n 1, 1) := by decide +kernel
theorem dX9_pour_21 : decode cX9_pour 21 = .ok (.iload_n 2, 1) := by decide +kernel
theorem dX9_pour_22 : decode cX9_pour 22 = .ok (.invokevirtual 229, 3) := by decide +kernel
theorem dX9_pour_25 : decode cX9_pour 25 = .ok (.ifCond .ne 6, 3) := by decide +kernel
theorem dX9_pour_28 : decode cX9_pour 28 = .ok (.ldc 232, 2) := by decide +kernel
theorem dX9_pour_30 : decode cX9_pour 30 = .ok (.ireturn, 1) := by decide +kernel
theorem dX9_pour_31 : decode cX9_pour 31 = .ok (.aload_n 0, 1) := by decide +kernel
theorem dX9_pour_32 : decode cX9_pour 32 = .ok (.invokevirtual 233, 3) := by decide +kernel
theorem dX9_pour_35 : decode cX9_pour 35 = .ok (.aload_n 0, 1) := by decide +kernel
theorem dX9_pour_36 : decode cX9_pour 36 = .ok (.iload_n 1, 1) := by decide +kernel
theorem dX9_pour_37 : decode cX9_pour 37 = .ok (.iload_n 2, 1) := by decide +kernel
theorem dX9_pour_38 : decode cX9_pour 38 = .ok (.invokevirtual 236, 3) := by decide +kernel
theorem dX9_pour_41 : decode cX9_pour 41 = .ok (.ireturn, 1) := by decide +kernel
theorem dX9_sayNow_0 : decode cX9_sayNow 0 = .ok (.aload_n 0, 1) := by decide +kernel
theorem dX9_sayNow_1 : decode cX9_sayNow 1 = .ok (.getfield 25, 3) := by decide +kernel
theorem dX9_sayNow_4 : decode cX9_sayNow 4 = .ok (.iload_n 1, 1) := by decide +kernel
theorem dX9_sayNow_5 : decode cX9_sayNow 5 = .ok (.iaload, 1) := by decide +kernel
theorem dX9_sayNow_6 : decode cX9_sayNow 6 = .ok (.istore_n 2, 1) := by decide +kernel
theorem dX9_sayNow_7 : decode cX9_sayNow 7 = .ok (.aload_n 0, 1) := by decide +kernel
theorem dX9_sayNow_8 : decode cX9_sayNow 8 = .ok (.getfield 25, 3) := by decide +kernel
theorem dX9_sayNow_11 : decode cX9_sayNow 11 = .ok (.iload_n 1, 1) := by decide +kernel
theorem dX9_sayNow_12 : decode cX9_sayNow 12 = .ok (.iconst 0, 1) := by decide +kernel
theorem dX9_sayNow_13 : decode cX9_sayNow 13 = .ok (.iastore, 1) := by decide +kernel
theorem dX9_sayNow_14 : decode cX9_sayNow 14 = .ok (.aload_n 0, 1) := by decide +kernel
theorem dX9_sayNow_15 : decode cX9_sayNow 15 = .ok (.getfield 25, 3) := by decide +kernel
theorem dX9_sayNow_18 : decode cX9_sayNow 18 = .ok (.bipush 10, 2) := by decide +kernel
theorem dX9_sayNow_20 : decode cX9_sayNow 20 = .ok (.dup2, 1) := by decide +kernel
theorem dX9_sayNow_21 : decode cX9_sayNow 21 = .ok (.iaload, 1) := by decide +kernel
theorem dX9_sayNow_22 : decode cX9_sayNow 22 = .ok (.iconst 1, 1) := by decide +kernel
theorem dX9_sayNow_23 : decode cX9_sayNow 23 = .ok (.iload_n 1, 1) := by decide +kernel
theorem dX9_sayNow_24 : decode cX9_sayNow 24 = .ok (.ishl, 1) := by decide +kernel
theorem dX9_sayNow_25 : decode cX9_sayNow 25 = .ok (.iconst (-1), 1) := by decide +kernel
theorem dX9_sayNow_26 : decode cX9_sayNow 26 = .ok (.ixor, 1) := by decide +kernel
theorem dX9_sayNow_27 : decode cX9_sayNow 27 = .ok (.iand, 1) := by decide +kernel
theorem dX9_sayNow_28 : decode cX9_sayNow 28 = .ok (.iastore, 1) := by decide +kernel
theorem dX9_sayNow_29 : decode cX9_sayNow 29 = .ok (.iload_n 2, 1) := by decide +kernel
theorem dX9_sayNow_30 : decode cX9_sayNow 30 = .ok (.ireturn, 1) := by decide +kernel
set_option maxRecDepth 20000 in
theorem ggX9_say_X9_isSaying : GoodIn wsX9_say wsX9_isSaying := goodIn_r _ [6, 7, 8, 9, 5, 10, 22, 23, 24, 25, 26, 27, 28, 29, 30, 31, 32, 33, 34, 35, 36, 37, 38, 39, 40, 41, 42, 43, 44, 45, 46, 47, 48, 49, 50, 51, 52, 53, 54, 55, 56, 57, 58, 59] (by decide +kernel) (by decide +kernel)
set_option maxRecDepth 20000 in
theorem gX9_say_X9_isSaying : GoodIn wsX9_say (wsV RX9 203 RX9 yX9_isSaying wsX9_isSaying) := goodIn_app (goodIn_of _ (by decide +kernel)) ggX9_say_X9_isSaying
set_option maxRecDepth 20000 in
theorem ggX9_say_X9_remember : GoodIn wsX9_say wsX9_remember := goodIn_r _ [14, 15, 16, 17, 22, 23, 24, 25, 26, 27, 28, 29, 30, 31, 32, 33, 34, 35, 36, 37, 38, 39, 40, 41, 42, 43, 44, 45, 46, 47, 48, 49, 50, 51, 52, 53, 54, 55, 56, 57, 58, 59] (by decide +kernel) (by decide +kernel)
set_option maxRecDepth 20000 in
theorem gX9_say_X9_remember : GoodIn wsX9_say (wsV RX9 233 RX9 yX9_remember wsX9_remember) := goodIn_app (goodIn_of _ (by decide +kernel)) ggX9_say_X9_remember
set_option maxRecDepth 20000 in
theorem ggX9_say_X9_sayNow : GoodIn wsX9_say wsX9_sayNow := goodIn_r _ [21, 17, 22, 23, 24, 25, 26, 27, 28, 29, 30, 31, 32, 33, 34, 35, 36, 37, 38, 39, 40, 41, 42, 43, 44, 45, 46, 47, 48, 49, 50, 51, 52, 53, 54, 55, 56, 57, 58, 59] (by decide +kernel) (by decide +kernel)
set_option maxRecDepth 20000 in
theorem gX9_say_X9_sayNow : GoodIn wsX9_say (wsV RX9 239 RX9 yX9_sayNow wsX9_sayNow) := goodIn_app (goodIn_of _ (by decide +kernel)) ggX9_say_X9_sayNow
theorem dX9_say_0 : decode cX9_say 0 = .ok (.aload_n 0, 1) := by decide +kernel
theorem dX9_say_1 : decode cX9_say 1 = .ok (.iload_n 1, 1) := by decide +kernel
theorem dX9_say_2 : decode cX9_say 2 = .ok (.invokevirtual 203, 3) := by decide +kernel
theorem dX9_say_5 : decode cX9_say 5 = .ok (.ifCond .ne 6, 3) := by decide +kernel
theorem dX9_say_8 : decode cX9_say 8 = .ok (.ldc 206, 2) := by decide +kernel
theorem dX9_say_10 : decode cX9_say 10 = .ok (.ireturn, 1) := by decide +kernel
theorem dX9_say_11 : decode cX9_say 11 = .ok (.aload_n 0, 1) := by decide +kernel
theorem dX9_say_12 : decode cX9_say 12 = .ok (.invokevirtual 233, 3) := by decide +kernel
theorem dX9_say_15 : decode cX9_say 15 = .ok (.aload_n 0, 1) := by decide +kernel
theorem dX9_say_16 : decode cX9_say 16 = .ok (.iload_n 1, 1) := by decide +kernel
theorem dX9_say_17 : decode cX9_say 17 = .ok (.invokevirtual 239, 3) := by decide +kernel
theorem dX9_say_20 : decode cX9_say 20 = .ok (.ireturn, 1) := by decide +kernel
set_option maxRecDepth 20000 in
theorem ggX9_vow_X9_isSaying : GoodIn wsX9_vow wsX9_isSaying := goodIn_r _ [7, 8, 9, 10, 6, 11, 18, 19, 20, 21, 22, 23, 24, 25, 26, 27, 28, 29, 30, 31, 32, 33, 34, 35, 36, 37, 38, 39, 40, 41, 42, 43, 44, 45, 46, 47, 48, 49, 50, 51, 52, 53, 54, 55] (by decide +kernel) (by decide +kernel)
set_option maxRecDepth 20000 in
theorem gX9_vow_X9_isSaying : GoodIn wsX9_vow (wsV RX9 203 RX9 yX9_isSaying wsX9_isSaying) := goodIn_app (goodIn_of _ (by decide +kernel)) ggX9_vow_X9_isSaying
set_option maxRecDepth 20000 in
theorem ggX9_vow_X9_remember : GoodIn wsX9_vow wsX9_remember := goodIn_r _ [15, 16, 17, 2, 18, 19, 20, 21, 22, 23, 24, 25, 26, 27, 28, 29, 30, 31, 32, 33, 34, 35, 36, 37, 38, 39, 40, 41, 42, 43, 44, 45, 46, 47, 48, 49, 50, 51, 52, 53, 54, 55] (by decide +kernel) (by decide +kernel)
set_option maxRecDepth 20000 in
theorem gX9_vow_X9_remember : GoodIn wsX9_vow (wsV RX9 233 RX9 yX9_remember wsX9_remember) := goodIn_app (goodIn_of _ (by decide +kernel)) ggX9_vow_X9_remember
theorem dX9_vow_0 : decode cX9_vow 0 = .ok (.aload_n 0, 1) := by decide +kernel
theorem dX9_vow_1 : decode cX9_vow 1 = .ok (.iload_n 1, 1) := by decide +kernel
theorem dX9_vow_2 : decode cX9_vow 2 = .ok (.invokevirtual 203, 3) := by decide +kernel
theorem dX9_vow_5 : decode cX9_vow 5 = .ok (.ifCond .ne 6, 3) := by decide +kernel
theorem dX9_vow_8 : decode cX9_vow 8 = .ok (.ldc 206, 2) := by decide +kernel
theorem dX9_vow_10 : decode cX9_vow 10 = .ok (.ireturn, 1) := by decide +kernel
theorem dX9_vow_11 : decode cX9_vow 11 = .ok (.aload_n 0, 1) := by decide +kernel
theorem dX9_vow_12 : decode cX9_vow 12 = .ok (.invokevirtual 233, 3) := by decide +kernel
theorem dX9_vow_15 : decode cX9_vow 15 = .ok (.aload_n 0, 1) := by decide +kernel
theorem dX9_vow_16 : decode cX9_vow 16 = .ok (.getfield 25, 3) := by decide +kernel
theorem dX9_vow_19 : decode cX9_vow 19 = .ok (.bipush 11, 2) := by decide +kernel
theorem dX9_vow_21 : decode cX9_vow 21 = .ok (.iaload, 1) := by decide +kernel
theorem dX9_vow_22 : decode cX9_vow 22 = .ok (.iload_n 1, 1) := by decide +kernel
theorem dX9_vow_23 : decode cX9_vow 23 = .ok (.ishr, 1) := by decide +kernel
theorem dX9_vow_24 : decode cX9_vow 24 = .ok (.iconst 1, 1) := by decide +kernel
theorem dX9_vow_25 : decode cX9_vow 25 = .ok (.iand, 1) := by decide +kernel
theorem dX9_vow_26 : decode cX9_vow 26 = .ok (.istore_n 3, 1) := by decide +kernel
theorem dX9_vow_27 : decode cX9_vow 27 = .ok (.aload_n 0, 1) := by decide +kernel
theorem dX9_vow_28 : decode cX9_vow 28 = .ok (.getfield 25, 3) := by decide +kernel
theorem dX9_vow_31 : decode cX9_vow 31 = .ok (.bipush 11, 2) := by decide +kernel
theorem dX9_vow_33 : decode cX9_vow 33 = .ok (.iload_n 2, 1) := by decide +kernel
theorem dX9_vow_34 : decode cX9_vow 34 = .ok (.ifCond .eq 17, 3) := by decide +kernel
theorem dX9_vow_37 : decode cX9_vow 37 = .ok (.aload_n 0, 1) := by decide +kernel
theorem dX9_vow_38 : decode cX9_vow 38 = .ok (.getfield 25, 3) := by decide +kernel
theorem dX9_vow_41 : decode cX9_vow 41 = .ok (.bipush 11, 2) := by decide +kernel
theorem dX9_vow_43 : decode cX9_vow 43 = .ok (.iaload, 1) := by decide +kernel
theorem dX9_vow_44 : decode cX9_vow 44 = .ok (.iconst 1, 1) := by decide +kernel
theorem dX9_vow_45 : decode cX9_vow 45 = .ok (.iload_n 1, 1) := by decide +kernel
theorem dX9_vow_46 : decode cX9_vow 46 = .ok (.ishl, 1) := by decide +kernel
theorem dX9_vow_47 : decode cX9_vow 47 = .ok (.ior, 1) := by decide +kernel
theorem dX9_vow_48 : decode cX9_vow 48 = .ok (.goto 16, 3) := by decide +kernel
theorem dX9_vow_51 : decode cX9_vow 51 = .ok (.aload_n 0, 1) := by decide +kernel
theorem dX9_vow_52 : decode cX9_vow 52 = .ok (.getfield 25, 3) := by decide +kernel
theorem dX9_vow_55 : decode cX9_vow 55 = .ok (.bipush 11, 2) := by decide +kernel
theorem dX9_vow_57 : decode cX9_vow 57 = .ok (.iaload, 1) := by decide +kernel
theorem dX9_vow_58 : decode cX9_vow 58 = .ok (.iconst 1, 1) := by decide +kernel
theorem dX9_vow_59 : decode cX9_vow 59 = .ok (.iload_n 1, 1) := by decide +kernel
theorem dX9_vow_60 : decode cX9_vow 60 = .ok (.ishl, 1) := by decide +kernel
theorem dX9_vow_61 : decode cX9_vow 61 = .ok (.iconst (-1), 1) := by decide +kernel
theorem dX9_vow_62 : decode cX9_vow 62 = .ok (.ixor, 1) := by decide +kernel
theorem dX9_vow_63 : decode cX9_vow 63 = .ok (.iand, 1) := by decide +kernel
theorem dX9_vow_64 : decode cX9_vow 64 = .ok (.iastore, 1) := by decide +kernel
theorem dX9_vow_65 : decode cX9_vow 65 = .ok (.iload_n 3, 1) := by decide +kernel
theorem dX9_vow_66 : decode cX9_vow 66 = .ok (.ireturn, 1) := by decide +kernel
theorem dX9_filled_0 : decode cX9_filled 0 = .ok (.iload_n 0, 1) := by decide +kernel
theorem dX9_filled_1 : decode cX9_filled 1 = .ok (.iload_n 1, 1) := by decide +kernel
theorem dX9_filled_2 : decode cX9_filled 2 = .ok (.iadd, 1) := by decide +kernel
theorem dX9_filled_3 : decode cX9_filled 3 = .ok (.bipush 99, 2) := by decide +kernel
theorem dX9_filled_5 : decode cX9_filled 5 = .ok (.if_icmp .ge 9, 3) := by decide +kernel
theorem dX9_filled_8 : decode cX9_filled 8 = .ok (.iload_n 0, 1) := by decide +kernel
theorem dX9_filled_9 : decode cX9_filled 9 = .ok (.iload_n 1, 1) := by decide +kernel
theorem dX9_filled_10 : decode cX9_filled 10 = .ok (.iadd, 1) := by decide +kernel
theorem dX9_filled_11 : decode cX9_filled 11 = .ok (.goto 5, 3) := by decide +kernel
theorem dX9_filled_14 : decode cX9_filled 14 = .ok (.bipush 99, 2) := by decide +kernel
theorem dX9_filled_16 : decode cX9_filled 16 = .ok (.ireturn, 1) := by decide +kernel
set_option maxRecDepth 20000 in
theorem ggX9_pass_X9_filled : GoodIn wsX9_pass wsX9_filled := goodIn_r _ [6] (by decide +kernel) (by decide +kernel)
set_option maxRecDepth 20000 in
theorem gX9_pass_X9_filled : GoodIn wsX9_pass (va_wsS RX9 242 yX9_filled wsX9_filled) := goodIn_app (goodIn_of _ (by decide +kernel)) ggX9_pass_X9_filled
theorem dX9_pass_0 : decode cX9_pass 0 = .ok (.aload_n 0, 1) := by decide +kernel
theorem dX9_pass_1 : decode cX9_pass 1 = .ok (.getfield 25, 3) := by decide +kernel
theorem dX9_pass_4 : decode cX9_pass 4 = .ok (.bipush 12, 2) := by decide +kernel
theorem dX9_pass_6 : decode cX9_pass 6 = .ok (.aload_n 0, 1) := by decide +kernel
theorem dX9_pass_7 : decode cX9_pass 7 = .ok (.getfield 25, 3) := by decide +kernel
theorem dX9_pass_10 : decode cX9_pass 10 = .ok (.bipush 12, 2) := by decide +kernel
theorem dX9_pass_12 : decode cX9_pass 12 = .ok (.iaload, 1) := by decide +kernel
theorem dX9_pass_13 : decode cX9_pass 13 = .ok (.aload_n 0, 1) := by decide +kernel
theorem dX9_pass_14 : decode cX9_pass 14 = .ok (.getfield 159, 3) := by decide +kernel
theorem dX9_pass_17 : decode cX9_pass 17 = .ok (.aload_n 0, 1) := by decide +kernel
theorem dX9_pass_18 : decode cX9_pass 18 = .ok (.getfield 25, 3) := by decide +kernel
theorem dX9_pass_21 : decode cX9_pass 21 = .ok (.bipush 13, 2) := by decide +kernel
theorem dX9_pass_23 : decode cX9_pass 23 = .ok (.iaload, 1) := by decide +kernel
theorem dX9_pass_24 : decode cX9_pass 24 = .ok (.iadd, 1) := by decide +kernel
theorem dX9_pass_25 : decode cX9_pass 25 = .ok (.invokestatic 242, 3) := by decide +kernel
theorem dX9_pass_28 : decode cX9_pass 28 = .ok (.iastore, 1) := by decide +kernel
theorem dX9_pass_29 : decode cX9_pass 29 = .ok (.aload_n 0, 1) := by decide +kernel
theorem dX9_pass_30 : decode cX9_pass 30 = .ok (.getfield 25, 3) := by decide +kernel
theorem dX9_pass_33 : decode cX9_pass 33 = .ok (.bipush 13, 2) := by decide +kernel
theorem dX9_pass_35 : decode cX9_pass 35 = .ok (.dup2, 1) := by decide +kernel
theorem dX9_pass_36 : decode cX9_pass 36 = .ok (.iaload, 1) := by decide +kernel
theorem dX9_pass_37 : decode cX9_pass 37 = .ok (.iconst 2, 1) := by decide +kernel
theorem dX9_pass_38 : decode cX9_pass 38 = .ok (.idiv, 1) := by decide +kernel
theorem dX9_pass_39 : decode cX9_pass 39 = .ok (.iastore, 1) := by decide +kernel
theorem dX9_pass_40 : decode cX9_pass 40 = .ok (.aload_n 0, 1) := by decide +kernel
theorem dX9_pass_41 : decode cX9_pass 41 = .ok (.getfield 25, 3) := by decide +kernel
theorem dX9_pass_44 : decode cX9_pass 44 = .ok (.bipush 15, 2) := by decide +kernel
theorem dX9_pass_46 : decode cX9_pass 46 = .ok (.iconst 0, 1) := by decide +kernel
theorem dX9_pass_47 : decode cX9_pass 47 = .ok (.iastore, 1) := by decide +kernel
theorem dX9_pass_48 : decode cX9_pass 48 = .ok (.aload_n 0, 1) := by decide +kernel
theorem dX9_pass_49 : decode cX9_pass 49 = .ok (.getfield 25, 3) := by decide +kernel
theorem dX9_pass_52 : decode cX9_pass 52 = .ok (.bipush 14, 2) := by decide +kernel
theorem dX9_pass_54 : decode cX9_pass 54 = .ok (.dup2, 1) := by decide +kernel
theorem dX9_pass_55 : decode cX9_pass 55 = .ok (.iaload, 1) := by decide +kernel
theorem dX9_pass_56 : decode cX9_pass 56 = .ok (.iconst 1, 1) := by decide +kernel
theorem dX9_pass_57 : decode cX9_pass 57 = .ok (.iadd, 1) := by decide +kernel
theorem dX9_pass_58 : decode cX9_pass 58 = .ok (.iastore, 1) := by decide +kernel
theorem dX9_pass_59 : decode cX9_pass 59 = .ok (.return_, 1) := by decide +kernel
set_option maxRecDepth 20000 in
theorem ggX9_nightsRefused_X9_in : GoodIn wsX9_nightsRefused wsX9_in := goodIn_r _ [10] (by decide +kernel) (by decide +kernel)
set_option maxRecDepth 20000 in
theorem gX9_nightsRefused_X9_in : GoodIn wsX9_nightsRefused (va_wsS RX9 76 yX9_in wsX9_in) := goodIn_app (goodIn_of _ (by decide +kernel)) ggX9_nightsRefused_X9_in
theorem dX9_nightsRefused_0 : decode cX9_nightsRefused 0 = .ok (.iload_n 1, 1) := by decide +kernel
theorem dX9_nightsRefused_1 : decode cX9_nightsRefused 1 = .ok (.i2l, 1) := by decide +kernel
theorem dX9_nightsRefused_2 : decode cX9_nightsRefused 2 = .ok (.lconst 1, 1) := by decide +kernel
theorem dX9_nightsRefused_3 : decode cX9_nightsRefused 3 = .ok (.ldc2_w 245, 3) := by decide +kernel
theorem dX9_nightsRefused_6 : decode cX9_nightsRefused 6 = .ok (.invokestatic 76, 3) := by decide +kernel
theorem dX9_nightsRefused_9 : decode cX9_nightsRefused 9 = .ok (.ifCond .ne 6, 3) := by decide +kernel
theorem dX9_nightsRefused_12 : decode cX9_nightsRefused 12 = .ok (.ldc 85, 2) := by decide +kernel
theorem dX9_nightsRefused_14 : decode cX9_nightsRefused 14 = .ok (.ireturn, 1) := by decide +kernel
theorem dX9_nightsRefused_15 : decode cX9_nightsRefused 15 = .ok (.aload_n 0, 1) := by decide +kernel
theorem dX9_nightsRefused_16 : decode cX9_nightsRefused 16 = .ok (.getfield 69, 3) := by decide +kernel
theorem dX9_nightsRefused_19 : decode cX9_nightsRefused 19 = .ok (.ifCond .ne 8, 3) := by decide +kernel
theorem dX9_nightsRefused_22 : decode cX9_nightsRefused 22 = .ok (.ldc 232, 2) := by decide +kernel
theorem dX9_nightsRefused_24 : decode cX9_nightsRefused 24 = .ok (.goto 22, 3) := by decide +kernel
theorem dX9_nightsRefused_27 : decode cX9_nightsRefused 27 = .ok (.aload_n 0, 1) := by decide +kernel
theorem dX9_nightsRefused_28 : decode cX9_nightsRefused 28 = .ok (.getfield 25, 3) := by decide +kernel
theorem dX9_nightsRefused_31 : decode cX9_nightsRefused 31 = .ok (.bipush 14, 2) := by decide +kernel
theorem dX9_nightsRefused_33 : decode cX9_nightsRefused 33 = .ok (.iaload, 1) := by decide +kernel
theorem dX9_nightsRefused_34 : decode cX9_nightsRefused 34 = .ok (.sipush 9000, 3) := by decide +kernel
theorem dX9_nightsRefused_37 : decode cX9_nightsRefused 37 = .ok (.if_icmp .le 8, 3) := by decide +kernel
theorem dX9_nightsRefused_40 : decode cX9_nightsRefused 40 = .ok (.ldc 89, 2) := by decide +kernel
theorem dX9_nightsRefused_42 : decode cX9_nightsRefused 42 = .ok (.goto 4, 3) := by decide +kernel
theorem dX9_nightsRefused_45 : decode cX9_nightsRefused 45 = .ok (.iconst 0, 1) := by decide +kernel
theorem dX9_nightsRefused_46 : decode cX9_nightsRefused 46 = .ok (.ireturn, 1) := by decide +kernel
set_option maxRecDepth 20000 in
theorem ggX9_night_X9_nightsRefused : GoodIn wsX9_night wsX9_nightsRefused := goodIn_r _ [6, 7, 8, 9, 10, 1, 11, 12, 13, 5, 14, 29, 30, 31, 32, 33, 34, 35, 36, 37, 38, 39, 40, 41, 42, 43, 44, 45, 46, 47, 48, 49, 50, 51, 52, 53, 54, 55, 56, 57, 58, 59, 60, 61, 62, 63, 64, 65, 66] (by decide +kernel) (by decide +kernel)
set_option maxRecDepth 20000 in
theorem gX9_night_X9_nightsRefused : GoodIn wsX9_night (wsV RX9 247 RX9 yX9_nightsRefused wsX9_nightsRefused) := goodIn_app (goodIn_of _ (by decide +kernel)) ggX9_night_X9_nightsRefused
set_option maxRecDepth 20000 in
theorem ggX9_night_X9_remember : GoodIn wsX9_night wsX9_remember := goodIn_r _ [18, 19, 20, 1, 29, 30, 31, 32, 33, 34, 35, 36, 37, 38, 39, 40, 41, 42, 43, 44, 45, 46, 47, 48, 49, 50, 51, 52, 53, 54, 55, 56, 57, 58, 59, 60, 61, 62, 63, 64, 65, 66] (by decide +kernel) (by decide +kernel)
set_option maxRecDepth 20000 in
theorem gX9_night_X9_remember : GoodIn wsX9_night (wsV RX9 233 RX9 yX9_remember wsX9_remember) := goodIn_app (goodIn_of _ (by decide +kernel)) ggX9_night_X9_remember
set_option maxRecDepth 20000 in
theorem ggX9_night_X9_pass : GoodIn wsX9_night wsX9_pass := goodIn_r _ [24, 1, 25, 26, 27, 5, 28, 29, 30, 31, 32, 33, 34, 35, 36, 37, 38, 39, 40, 41, 42, 43, 44, 45, 46, 47, 48, 49, 50, 51, 52, 53, 54, 55, 56, 57, 58, 59, 60, 61, 62, 63, 64, 65, 66] (by decide +kernel) (by decide +kernel)
set_option maxRecDepth 20000 in
theorem gX9_night_X9_pass : GoodIn wsX9_night (wsV RX9 250 RX9 yX9_pass wsX9_pass) := goodIn_app (goodIn_of _ (by decide +kernel)) ggX9_night_X9_pass
theorem dX9_night_0 : decode cX9_night 0 = .ok (.aload_n 0, 1) := by decide +kernel
theorem dX9_night_1 : decode cX9_night 1 = .ok (.iload_n 1, 1) := by decide +kernel
theorem dX9_night_2 : decode cX9_night 2 = .ok (.invokevirtual 247, 3) := by decide +kernel
theorem dX9_night_5 : decode cX9_night 5 = .ok (.istore_n 2, 1) := by decide +kernel
theorem dX9_night_6 : decode cX9_night 6 = .ok (.iload_n 2, 1) := by decide +kernel
theorem dX9_night_7 : decode cX9_night 7 = .ok (.ifCond .eq 5, 3) := by decide +kernel
theorem dX9_night_10 : decode cX9_night 10 = .ok (.iload_n 2, 1) := by decide +kernel
theorem dX9_night_11 : decode cX9_night 11 = .ok (.ireturn, 1) := by decide +kernel
theorem dX9_night_12 : decode cX9_night 12 = .ok (.aload_n 0, 1) := by decide +kernel
theorem dX9_night_13 : decode cX9_night 13 = .ok (.invokevirtual 233, 3) := by decide +kernel
theorem dX9_night_16 : decode cX9_night 16 = .ok (.iconst 0, 1) := by decide +kernel
theorem dX9_night_17 : decode cX9_night 17 = .ok (.istore_n 3, 1) := by decide +kernel
theorem dX9_night_18 : decode cX9_night 18 = .ok (.iload_n 3, 1) := by decide +kernel
theorem dX9_night_19 : decode cX9_night 19 = .ok (.iload_n 1, 1) := by decide +kernel
theorem dX9_night_20 : decode cX9_night 20 = .ok (.if_icmp .ge 13, 3) := by decide +kernel
theorem dX9_night_23 : decode cX9_night 23 = .ok (.aload_n 0, 1) := by decide +kernel
theorem dX9_night_24 : decode cX9_night 24 = .ok (.invokevirtual 250, 3) := by decide +kernel
theorem dX9_night_27 : decode cX9_night 27 = .ok (.iinc 3 1, 3) := by decide +kernel
theorem dX9_night_30 : decode cX9_night 30 = .ok (.goto (-12), 3) := by decide +kernel
theorem dX9_night_33 : decode cX9_night 33 = .ok (.aload_n 0, 1) := by decide +kernel
theorem dX9_night_34 : decode cX9_night 34 = .ok (.getfield 25, 3) := by decide +kernel
theorem dX9_night_37 : decode cX9_night 37 = .ok (.bipush 12, 2) := by decide +kernel
theorem dX9_night_39 : decode cX9_night 39 = .ok (.iaload, 1) := by decide +kernel
theorem dX9_night_40 : decode cX9_night 40 = .ok (.ireturn, 1) := by decide +kernel
set_option maxRecDepth 20000 in
theorem ggX9_rain_X9_in : GoodIn wsX9_rain wsX9_in := goodIn_r _ [9] (by decide +kernel) (by decide +kernel)
set_option maxRecDepth 20000 in
theorem gX9_rain_X9_in : GoodIn wsX9_rain (va_wsS RX9 76 yX9_in wsX9_in) := goodIn_app (goodIn_of _ (by decide +kernel)) ggX9_rain_X9_in
set_option maxRecDepth 20000 in
theorem ggX9_rain_X9_remember : GoodIn wsX9_rain wsX9_remember := goodIn_r _ [13, 14, 15, 5, 16, 17, 18, 19, 20, 21, 22, 23, 24, 25, 26, 27, 28, 29, 30, 31, 32, 33, 34, 35, 36, 37, 38, 39, 40, 41, 42, 43, 44, 45, 46, 47, 48, 49, 50, 51, 52, 53] (by decide +kernel) (by decide +kernel)
set_option maxRecDepth 20000 in
theorem gX9_rain_X9_remember : GoodIn wsX9_rain (wsV RX9 233 RX9 yX9_remember wsX9_remember) := goodIn_app (goodIn_of _ (by decide +kernel)) ggX9_rain_X9_remember
theorem dX9_rain_0 : decode cX9_rain 0 = .ok (.iload_n 1, 1) := by decide +kernel
theorem dX9_rain_1 : decode cX9_rain 1 = .ok (.i2l, 1) := by decide +kernel
theorem dX9_rain_2 : decode cX9_rain 2 = .ok (.lconst 0, 1) := by decide +kernel
theorem dX9_rain_3 : decode cX9_rain 3 = .ok (.ldc2_w 253, 3) := by decide +kernel
theorem dX9_rain_6 : decode cX9_rain 6 = .ok (.invokestatic 76, 3) := by decide +kernel
theorem dX9_rain_9 : decode cX9_rain 9 = .ok (.ifCond .ne 6, 3) := by decide +kernel
theorem dX9_rain_12 : decode cX9_rain 12 = .ok (.ldc 85, 2) := by decide +kernel
theorem dX9_rain_14 : decode cX9_rain 14 = .ok (.ireturn, 1) := by decide +kernel
theorem dX9_rain_15 : decode cX9_rain 15 = .ok (.aload_n 0, 1) := by decide +kernel
theorem dX9_rain_16 : decode cX9_rain 16 = .ok (.getfield 69, 3) := by decide +kernel
theorem dX9_rain_19 : decode cX9_rain 19 = .ok (.ifCond .ne 6, 3) := by decide +kernel
theorem dX9_rain_22 : decode cX9_rain 22 = .ok (.ldc 232, 2) := by decide +kernel
theorem dX9_rain_24 : decode cX9_rain 24 = .ok (.ireturn, 1) := by decide +kernel
theorem dX9_rain_25 : decode cX9_rain 25 = .ok (.aload_n 0, 1) := by decide +kernel
theorem dX9_rain_26 : decode cX9_rain 26 = .ok (.invokevirtual 233, 3) := by decide +kernel
theorem dX9_rain_29 : decode cX9_rain 29 = .ok (.aload_n 0, 1) := by decide +kernel
theorem dX9_rain_30 : decode cX9_rain 30 = .ok (.getfield 25, 3) := by decide +kernel
theorem dX9_rain_33 : decode cX9_rain 33 = .ok (.bipush 13, 2) := by decide +kernel
theorem dX9_rain_35 : decode cX9_rain 35 = .ok (.iaload, 1) := by decide +kernel
theorem dX9_rain_36 : decode cX9_rain 36 = .ok (.istore_n 2, 1) := by decide +kernel
theorem dX9_rain_37 : decode cX9_rain 37 = .ok (.aload_n 0, 1) := by decide +kernel
theorem dX9_rain_38 : decode cX9_rain 38 = .ok (.getfield 25, 3) := by decide +kernel
theorem dX9_rain_41 : decode cX9_rain 41 = .ok (.bipush 13, 2) := by decide +kernel
theorem dX9_rain_43 : decode cX9_rain 43 = .ok (.iload_n 1, 1) := by decide +kernel
theorem dX9_rain_44 : decode cX9_rain 44 = .ok (.iastore, 1) := by decide +kernel
theorem dX9_rain_45 : decode cX9_rain 45 = .ok (.iload_n 2, 1) := by decide +kernel
theorem dX9_rain_46 : decode cX9_rain 46 = .ok (.ireturn, 1) := by decide +kernel
theorem dX9_lineUp_0 : decode cX9_lineUp 0 = .ok (.aload_n 0, 1) := by decide +kernel
theorem dX9_lineUp_1 : decode cX9_lineUp 1 = .ok (.getfield 25, 3) := by decide +kernel
theorem dX9_lineUp_4 : decode cX9_lineUp 4 = .ok (.bipush 17, 2) := by decide +kernel
theorem dX9_lineUp_6 : decode cX9_lineUp 6 = .ok (.aload_n 0, 1) := by decide +kernel
theorem dX9_lineUp_7 : decode cX9_lineUp 7 = .ok (.getfield 25, 3) := by decide +kernel
theorem dX9_lineUp_10 : decode cX9_lineUp 10 = .ok (.bipush 16, 2) := by decide +kernel
theorem dX9_lineUp_12 : decode cX9_lineUp 12 = .ok (.iaload, 1) := by decide +kernel
theorem dX9_lineUp_13 : decode cX9_lineUp 13 = .ok (.iadd, 1) := by decide +kernel
theorem dX9_lineUp_14 : decode cX9_lineUp 14 = .ok (.iload_n 1, 1) := by decide +kernel
theorem dX9_lineUp_15 : decode cX9_lineUp 15 = .ok (.iastore, 1) := by decide +kernel
theorem dX9_lineUp_16 : decode cX9_lineUp 16 = .ok (.aload_n 0, 1) := by decide +kernel
theorem dX9_lineUp_17 : decode cX9_lineUp 17 = .ok (.getfield 25, 3) := by decide +kernel
theorem dX9_lineUp_20 : decode cX9_lineUp 20 = .ok (.bipush 16, 2) := by decide +kernel
theorem dX9_lineUp_22 : decode cX9_lineUp 22 = .ok (.dup2, 1) := by decide +kernel
theorem dX9_lineUp_23 : decode cX9_lineUp 23 = .ok (.iaload, 1) := by decide +kernel
theorem dX9_lineUp_24 : decode cX9_lineUp 24 = .ok (.iconst 1, 1) := by decide +kernel
theorem dX9_lineUp_25 : decode cX9_lineUp 25 = .ok (.iadd, 1) := by decide +kernel
theorem dX9_lineUp_26 : decode cX9_lineUp 26 = .ok (.iastore, 1) := by decide +kernel
theorem dX9_lineUp_27 : decode cX9_lineUp 27 = .ok (.return_, 1) := by decide +kernel
set_option maxRecDepth 20000 in
theorem ggX9_queue_X9_isPerson : GoodIn wsX9_queue wsX9_isPerson := goodIn_r _ [8, 9, 10, 11, 7, 12, 28, 29, 30, 31, 32, 33, 34, 35, 36, 37, 38, 39, 40, 41, 42, 43, 44, 45, 46, 47, 48, 49, 50, 51, 52, 53, 54, 55, 56, 57, 58, 59, 60, 61, 62, 63, 64, 65] (by decide +kernel) (by decide +kernel)
set_option maxRecDepth 20000 in
theorem gX9_queue_X9_isPerson : GoodIn wsX9_queue (wsV RX9 213 RX9 yX9_isPerson wsX9_isPerson) := goodIn_app (goodIn_of _ (by decide +kernel)) ggX9_queue_X9_isPerson
set_option maxRecDepth 20000 in
theorem ggX9_queue_X9_isSaying : GoodIn wsX9_queue wsX9_isSaying := goodIn_r _ [16, 17, 10, 11, 7, 12, 28, 29, 30, 31, 32, 33, 34, 35, 36, 37, 38, 39, 40, 41, 42, 43, 44, 45, 46, 47, 48, 49, 50, 51, 52, 53, 54, 55, 56, 57, 58, 59, 60, 61, 62, 63, 64, 65] (by decide +kernel) (by decide +kernel)
set_option maxRecDepth 20000 in
theorem gX9_queue_X9_isSaying : GoodIn wsX9_queue (wsV RX9 203 RX9 yX9_isSaying wsX9_isSaying) := goodIn_app (goodIn_of _ (by decide +kernel)) ggX9_queue_X9_isSaying
set_option maxRecDepth 20000 in
theorem ggX9_queue_X9_remember : GoodIn wsX9_queue wsX9_remember := goodIn_r _ [21, 22, 23, 2, 28, 29, 30, 31, 32, 33, 34, 35, 36, 37, 38, 39, 40, 41, 42, 43, 44, 45, 46, 47, 48, 49, 50, 51, 52, 53, 54, 55, 56, 57, 58, 59, 60, 61, 62, 63, 64, 65] (by decide +kernel) (by decide +kernel)
set_option maxRecDepth 20000 in
theorem gX9_queue_X9_remember : GoodIn wsX9_queue (wsV RX9 233 RX9 yX9_remember wsX9_remember) := goodIn_app (goodIn_of _ (by decide +kernel)) ggX9_queue_X9_remember
set_option maxRecDepth 20000 in
theorem ggX9_queue_X9_lineUp : GoodIn wsX9_queue wsX9_lineUp := goodIn_r _ [27, 2, 28, 29, 30, 31, 32, 33, 34, 35, 36, 37, 38, 39, 40, 41, 42, 43, 44, 45, 46, 47, 48, 49, 50, 51, 52, 53, 54, 55, 56, 57, 58, 59, 60, 61, 62, 63, 64, 65] (by decide +kernel) (by decide +kernel)
set_option maxRecDepth 20000 in
theorem gX9_queue_X9_lineUp : GoodIn wsX9_queue (wsV RX9 255 RX9 yX9_lineUp wsX9_lineUp) := goodIn_app (goodIn_of _ (by decide +kernel)) ggX9_queue_X9_lineUp
theorem dX9_queue_0 : decode cX9_queue 0 = .ok (.aload_n 0, 1) := by decide +kernel
theorem dX9_queue_1 : decode cX9_queue 1 = .ok (.iload_n 1, 1) := by decide +kernel
theorem dX9_queue_2 : decode cX9_queue 2 = .ok (.invokevirtual 213, 3) := by decide +kernel
theorem dX9_queue_5 : decode cX9_queue 5 = .ok (.ifCond .eq 11, 3) := by decide +kernel
theorem dX9_queue_8 : decode cX9_queue 8 = .ok (.aload_n 0, 1) := by decide +kernel
theorem dX9_queue_9 : decode cX9_queue 9 = .ok (.iload_n 2, 1) := by decide +kernel
theorem dX9_queue_10 : decode cX9_queue 10 = .ok (.invokevirtual 203, 3) := by decide +kernel
theorem dX9_queue_13 : decode cX9_queue 13 = .ok (.ifCond .ne 6, 3) := by decide +kernel
theorem dX9_queue_16 : decode cX9_queue 16 = .ok (.ldc 206, 2) := by decide +kernel
theorem dX9_queue_18 : decode cX9_queue 18 = .ok (.ireturn, 1) := by decide +kernel
theorem dX9_queue_19 : decode cX9_queue 19 = .ok (.aload_n 0, 1) := by decide +kernel
theorem dX9_queue_20 : decode cX9_queue 20 = .ok (.getfield 25, 3) := by decide +kernel
theorem dX9_queue_23 : decode cX9_queue 23 = .ok (.bipush 16, 2) := by decide +kernel
theorem dX9_queue_25 : decode cX9_queue 25 = .ok (.iaload, 1) := by decide +kernel
theorem dX9_queue_26 : decode cX9_queue 26 = .ok (.bipush 6, 2) := by decide +kernel
theorem dX9_queue_28 : decode cX9_queue 28 = .ok (.if_icmp .ne 6, 3) := by decide +kernel
theorem dX9_queue_31 : decode cX9_queue 31 = .ok (.ldc 89, 2) := by decide +kernel
theorem dX9_queue_33 : decode cX9_queue 33 = .ok (.ireturn, 1) := by decide +kernel
theorem dX9_queue_34 : decode cX9_queue 34 = .ok (.aload_n 0, 1) := by decide +kernel
theorem dX9_queue_35 : decode cX9_queue 35 = .ok (.invokevirtual 233, 3) := by decide +kernel
theorem dX9_queue_38 : decode cX9_queue 38 = .ok (.aload_n 0, 1) := by decide +kernel
theorem dX9_queue_39 : decode cX9_queue 39 = .ok (.bipush 10, 2) := by decide +kernel
theorem dX9_queue_41 : decode cX9_queue 41 = .ok (.iload_n 1, 1) := by decide +kernel
theorem dX9_queue_42 : decode cX9_queue 42 = .ok (.imul, 1) := by decide +kernel
theorem dX9_queue_43 : decode cX9_queue 43 = .ok (.iload_n 2, 1) := by decide +kernel
theorem dX9_queue_44 : decode cX9_queue 44 = .ok (.iadd, 1) := by decide +kernel
theorem dX9_queue_45 : decode cX9_queue 45 = .ok (.invokevirtual 255, 3) := by decide +kernel
theorem dX9_queue_48 : decode cX9_queue 48 = .ok (.aload_n 0, 1) := by decide +kernel
theorem dX9_queue_49 : decode cX9_queue 49 = .ok (.getfield 25, 3) := by decide +kernel
theorem dX9_queue_52 : decode cX9_queue 52 = .ok (.bipush 16, 2) := by decide +kernel
theorem dX9_queue_54 : decode cX9_queue 54 = .ok (.iaload, 1) := by decide +kernel
theorem dX9_queue_55 : decode cX9_queue 55 = .ok (.ireturn, 1) := by decide +kernel
set_option maxRecDepth 20000 in
theorem ggX9_turn_X9_remember : GoodIn wsX9_turn wsX9_remember := goodIn_r _ [7, 8, 9, 1, 32, 33, 34, 35, 36, 37, 38, 39, 40, 41, 42, 43, 44, 45, 46, 47, 48, 49, 50, 51, 52, 53, 54, 55, 56, 57, 58, 59, 60, 61, 62, 63, 64, 65, 66, 67, 68, 69] (by decide +kernel) (by decide +kernel)
set_option maxRecDepth 20000 in
theorem gX9_turn_X9_remember : GoodIn wsX9_turn (wsV RX9 233 RX9 yX9_remember wsX9_remember) := goodIn_app (goodIn_of _ (by decide +kernel)) ggX9_turn_X9_remember
set_option maxRecDepth 20000 in
theorem ggX9_turn_X9_pourNow : GoodIn wsX9_turn wsX9_pourNow := goodIn_r _ [13, 1, 14, 15, 16, 17, 18, 6, 19, 20, 21, 22, 23, 24, 25, 26, 27, 32, 33, 34, 35, 36, 37, 38, 39, 40, 41, 42, 43, 44, 45, 46, 47, 48, 49, 50, 51, 52, 53, 54, 55, 56, 57, 58, 59, 60, 61, 62, 63, 64, 65, 66, 67, 68, 69] (by decide +kernel) (by decide +kernel)
set_option maxRecDepth 20000 in
theorem gX9_turn_X9_pourNow : GoodIn wsX9_turn (wsV RX9 236 RX9 yX9_pourNow wsX9_pourNow) := goodIn_app (goodIn_of _ (by decide +kernel)) ggX9_turn_X9_pourNow
set_option maxRecDepth 20000 in
theorem ggX9_turn_X9_has : GoodIn wsX9_turn wsX9_has := goodIn_r _ [22] (by decide +kernel) (by decide +kernel)
set_option maxRecDepth 20000 in
theorem gX9_turn_X9_has : GoodIn wsX9_turn (va_wsS RX9 136 yX9_has wsX9_has) := goodIn_app (goodIn_of _ (by decide +kernel)) ggX9_turn_X9_has
set_option maxRecDepth 20000 in
theorem ggX9_turn_X9_lineUp : GoodIn wsX9_turn wsX9_lineUp := goodIn_r _ [31, 1, 32, 33, 34, 35, 36, 37, 38, 39, 40, 41, 42, 43, 44, 45, 46, 47, 48, 49, 50, 51, 52, 53, 54, 55, 56, 57, 58, 59, 60, 61, 62, 63, 64, 65, 66, 67, 68, 69] (by decide +kernel) (by decide +kernel)
set_option maxRecDepth 20000 in
theorem gX9_turn_X9_lineUp : GoodIn wsX9_turn (wsV RX9 255 RX9 yX9_lineUp wsX9_lineUp) := goodIn_app (goodIn_of _ (by decide +kernel)) ggX9_turn_X9_lineUp
theorem dX9_turn_0 : decode cX9_turn 0 = .ok (.aload_n 0, 1) := by decide +kernel
theorem dX9_turn_1 : decode cX9_turn 1 = .ok (.getfield 25, 3) := by decide +kernel
theorem dX9_turn_4 : decode cX9_turn 4 = .ok (.bipush 16, 2) := by decide +kernel
theorem dX9_turn_6 : decode cX9_turn 6 = .ok (.iaload, 1) := by decide +kernel
theorem dX9_turn_7 : decode cX9_turn 7 = .ok (.ifCond .ne 6, 3) := by decide +kernel
theorem dX9_turn_10 : decode cX9_turn 10 = .ok (.ldc 232, 2) := by decide +kernel
theorem dX9_turn_12 : decode cX9_turn 12 = .ok (.ireturn, 1) := by decide +kernel
theorem dX9_turn_13 : decode cX9_turn 13 = .ok (.aload_n 0, 1) := by decide +kernel
theorem dX9_turn_14 : decode cX9_turn 14 = .ok (.invokevirtual 233, 3) := by decide +kernel
theorem dX9_turn_17 : decode cX9_turn 17 = .ok (.aload_n 0, 1) := by decide +kernel
theorem dX9_turn_18 : decode cX9_turn 18 = .ok (.getfield 25, 3) := by decide +kernel
theorem dX9_turn_21 : decode cX9_turn 21 = .ok (.bipush 17, 2) := by decide +kernel
theorem dX9_turn_23 : decode cX9_turn 23 = .ok (.iaload, 1) := by decide +kernel
theorem dX9_turn_24 : decode cX9_turn 24 = .ok (.istore_n 1, 1) := by decide +kernel
theorem dX9_turn_25 : decode cX9_turn 25 = .ok (.aload_n 0, 1) := by decide +kernel
theorem dX9_turn_26 : decode cX9_turn 26 = .ok (.getfield 25, 3) := by decide +kernel
theorem dX9_turn_29 : decode cX9_turn 29 = .ok (.bipush 16, 2) := by decide +kernel
theorem dX9_turn_31 : decode cX9_turn 31 = .ok (.dup2, 1) := by decide +kernel
theorem dX9_turn_32 : decode cX9_turn 32 = .ok (.iaload, 1) := by decide +kernel
theorem dX9_turn_33 : decode cX9_turn 33 = .ok (.iconst 1, 1) := by decide +kernel
theorem dX9_turn_34 : decode cX9_turn 34 = .ok (.isub, 1) := by decide +kernel
theorem dX9_turn_35 : decode cX9_turn 35 = .ok (.iastore, 1) := by decide +kernel
theorem dX9_turn_36 : decode cX9_turn 36 = .ok (.iconst 0, 1) := by decide +kernel
theorem dX9_turn_37 : decode cX9_turn 37 = .ok (.istore_n 2, 1) := by decide +kernel
theorem dX9_turn_38 : decode cX9_turn 38 = .ok (.iload_n 2, 1) := by decide +kernel
theorem dX9_turn_39 : decode cX9_turn 39 = .ok (.aload_n 0, 1) := by decide +kernel
theorem dX9_turn_40 : decode cX9_turn 40 = .ok (.getfield 25, 3) := by decide +kernel
theorem dX9_turn_43 : decode cX9_turn 43 = .ok (.bipush 16, 2) := by decide +kernel
theorem dX9_turn_45 : decode cX9_turn 45 = .ok (.iaload, 1) := by decide +kernel
theorem dX9_turn_46 : decode cX9_turn 46 = .ok (.if_icmp .ge 29, 3) := by decide +kernel
theorem dX9_turn_49 : decode cX9_turn 49 = .ok (.aload_n 0, 1) := by decide +kernel
theorem dX9_turn_50 : decode cX9_turn 50 = .ok (.getfield 25, 3) := by decide +kernel
theorem dX9_turn_53 : decode cX9_turn 53 = .ok (.bipush 17, 2) := by decide +kernel
theorem dX9_turn_55 : decode cX9_turn 55 = .ok (.iload_n 2, 1) := by decide +kernel
theorem dX9_turn_56 : decode cX9_turn 56 = .ok (.iadd, 1) := by decide +kernel
theorem dX9_turn_57 : decode cX9_turn 57 = .ok (.aload_n 0, 1) := by decide +kernel
theorem dX9_turn_58 : decode cX9_turn 58 = .ok (.getfield 25, 3) := by decide +kernel
theorem dX9_turn_61 : decode cX9_turn 61 = .ok (.bipush 17, 2) := by decide +kernel
theorem dX9_turn_63 : decode cX9_turn 63 = .ok (.iload_n 2, 1) := by decide +kernel
theorem dX9_turn_64 : decode cX9_turn 64 = .ok (.iadd, 1) := by decide +kernel
theorem dX9_turn_65 : decode cX9_turn 65 = .ok (.iconst 1, 1) := by decide +kernel
theorem dX9_turn_66 : decode cX9_turn 66 = .ok (.iadd, 1) := by decide +kernel
theorem dX9_turn_67 : decode cX9_turn 67 = .ok (.iaload, 1) := by decide +kernel
theorem dX9_turn_68 : decode cX9_turn 68 = .ok (.iastore, 1) := by decide +kernel
theorem dX9_turn_69 : decode cX9_turn 69 = .ok (.iinc 2 1, 3) := by decide +kernel
theorem dX9_turn_72 : decode cX9_turn 72 = .ok (.goto (-34), 3) := by decide +kernel
theorem dX9_turn_75 : decode cX9_turn 75 = .ok (.aload_n 0, 1) := by decide +kernel
theorem dX9_turn_76 : decode cX9_turn 76 = .ok (.getfield 25, 3) := by decide +kernel
theorem dX9_turn_79 : decode cX9_turn 79 = .ok (.bipush 17, 2) := by decide +kernel
theorem dX9_turn_81 : decode cX9_turn 81 = .ok (.aload_n 0, 1) := by decide +kernel
theorem dX9_turn_82 : decode cX9_turn 82 = .ok (.getfield 25, 3) := by decide +kernel
theorem dX9_turn_85 : decode cX9_turn 85 = .ok (.bipush 16, 2) := by decide +kernel
theorem dX9_turn_87 : decode cX9_turn 87 = .ok (.iaload, 1) := by decide +kernel
theorem dX9_turn_88 : decode cX9_turn 88 = .ok (.iadd, 1) := by decide +kernel
theorem dX9_turn_89 : decode cX9_turn 89 = .ok (.iconst 0, 1) := by decide +kernel
theorem dX9_turn_90 : decode cX9_turn 90 = .ok (.iastore, 1) := by decide +kernel
theorem dX9_turn_91 : decode cX9_turn 91 = .ok (.aload_n 0, 1) := by decide +kernel
theorem dX9_turn_92 : decode cX9_turn 92 = .ok (.iload_n 1, 1) := by decide +kernel
theorem dX9_turn_93 : decode cX9_turn 93 = .ok (.bipush 10, 2) := by decide +kernel
theorem dX9_turn_95 : decode cX9_turn 95 = .ok (.idiv, 1) := by decide +kernel
theorem dX9_turn_96 : decode cX9_turn 96 = .ok (.iload_n 1, 1) := by decide +kernel
theorem dX9_turn_97 : decode cX9_turn 97 = .ok (.bipush 10, 2) := by decide +kernel
theorem dX9_turn_99 : decode cX9_turn 99 = .ok (.irem, 1) := by decide +kernel
theorem dX9_turn_100 : decode cX9_turn 100 = .ok (.invokevirtual 236, 3) := by decide +kernel
theorem dX9_turn_103 : decode cX9_turn 103 = .ok (.istore_n 2, 1) := by decide +kernel
theorem dX9_turn_104 : decode cX9_turn 104 = .ok (.iload_n 2, 1) := by decide +kernel
theorem dX9_turn_105 : decode cX9_turn 105 = .ok (.ifCond .le 25, 3) := by decide +kernel
theorem dX9_turn_108 : decode cX9_turn 108 = .ok (.aload_n 0, 1) := by decide +kernel
theorem dX9_turn_109 : decode cX9_turn 109 = .ok (.getfield 25, 3) := by decide +kernel
theorem dX9_turn_112 : decode cX9_turn 112 = .ok (.bipush 10, 2) := by decide +kernel
theorem dX9_turn_114 : decode cX9_turn 114 = .ok (.iaload, 1) := by decide +kernel
theorem dX9_turn_115 : decode cX9_turn 115 = .ok (.iload_n 1, 1) := by decide +kernel
theorem dX9_turn_116 : decode cX9_turn 116 = .ok (.bipush 10, 2) := by decide +kernel
theorem dX9_turn_118 : decode cX9_turn 118 = .ok (.irem, 1) := by decide +kernel
theorem dX9_turn_119 : decode cX9_turn 119 = .ok (.invokestatic 136, 3) := by decide +kernel
theorem dX9_turn_122 : decode cX9_turn 122 = .ok (.ifCond .ne 8, 3) := by decide +kernel
theorem dX9_turn_125 : decode cX9_turn 125 = .ok (.aload_n 0, 1) := by decide +kernel
theorem dX9_turn_126 : decode cX9_turn 126 = .ok (.iload_n 1, 1) := by decide +kernel
theorem dX9_turn_127 : decode cX9_turn 127 = .ok (.invokevirtual 255, 3) := by decide +kernel
theorem dX9_turn_130 : decode cX9_turn 130 = .ok (.iload_n 2, 1) := by decide +kernel
theorem dX9_turn_131 : decode cX9_turn 131 = .ok (.ireturn, 1) := by decide +kernel
theorem dX9_draw_0 : decode cX9_draw 0 = .ok (.aload_n 0, 1) := by decide +kernel
theorem dX9_draw_1 : decode cX9_draw 1 = .ok (.aload_n 0, 1) := by decide +kernel
theorem dX9_draw_2 : decode cX9_draw 2 = .ok (.getfield 259, 3) := by decide +kernel
theorem dX9_draw_5 : decode cX9_draw 5 = .ok (.i2l, 1) := by decide +kernel
theorem dX9_draw_6 : decode cX9_draw 6 = .ok (.ldc2_w 262, 3) := by decide +kernel
theorem dX9_draw_9 : decode cX9_draw 9 = .ok (.lmul, 1) := by decide +kernel
theorem dX9_draw_10 : decode cX9_draw 10 = .ok (.ldc2_w 264, 3) := by decide +kernel
theorem dX9_draw_13 : decode cX9_draw 13 = .ok (.ladd, 1) := by decide +kernel
theorem dX9_draw_14 : decode cX9_draw 14 = .ok (.ldc2_w 266, 3) := by decide +kernel
theorem dX9_draw_17 : decode cX9_draw 17 = .ok (.lrem, 1) := by decide +kernel
theorem dX9_draw_18 : decode cX9_draw 18 = .ok (.l2i, 1) := by decide +kernel
theorem dX9_draw_19 : decode cX9_draw 19 = .ok (.putfield 259, 3) := by decide +kernel
theorem dX9_draw_22 : decode cX9_draw 22 = .ok (.aload_n 0, 1) := by decide +kernel
theorem dX9_draw_23 : decode cX9_draw 23 = .ok (.getfield 259, 3) := by decide +kernel
theorem dX9_draw_26 : decode cX9_draw 26 = .ok (.ldc_w 268, 3) := by decide +kernel
theorem dX9_draw_29 : decode cX9_draw 29 = .ok (.idiv, 1) := by decide +kernel
theorem dX9_draw_30 : decode cX9_draw 30 = .ok (.iload_n 1, 1) := by decide +kernel
theorem dX9_draw_31 : decode cX9_draw 31 = .ok (.irem, 1) := by decide +kernel
theorem dX9_draw_32 : decode cX9_draw 32 = .ok (.ireturn, 1) := by decide +kernel
set_option maxRecDepth 20000 in
theorem ggX9_chance_X9_draw : GoodIn wsX9_chance wsX9_draw := goodIn_r _ [8, 9, 10, 11, 12, 13, 36, 37, 38, 39, 40, 41, 42, 43, 44, 45, 46, 47, 48, 49, 50, 51, 52, 53, 54, 55, 56, 57, 58, 59, 60, 61, 62, 63, 64, 65, 66, 67, 68, 69, 70, 71, 72, 73] (by decide +kernel) (by decide +kernel)
set_option maxRecDepth 20000 in
theorem gX9_chance_X9_draw : GoodIn wsX9_chance (wsV RX9 269 RX9 yX9_draw wsX9_draw) := goodIn_app (goodIn_of _ (by decide +kernel)) ggX9_chance_X9_draw
set_option maxRecDepth 20000 in
theorem ggX9_chance_X9_pourNow : GoodIn wsX9_chance wsX9_pourNow := goodIn_r _ [17, 3, 18, 19, 20, 21, 22, 7, 23, 24, 25, 26, 27, 28, 29, 30, 31, 36, 37, 38, 39, 40, 41, 42, 43, 44, 45, 46, 47, 48, 49, 50, 51, 52, 53, 54, 55, 56, 57, 58, 59, 60, 61, 62, 63, 64, 65, 66, 67, 68, 69, 70, 71, 72, 73] (by decide +kernel) (by decide +kernel)
set_option maxRecDepth 20000 in
theorem gX9_chance_X9_pourNow : GoodIn wsX9_chance (wsV RX9 236 RX9 yX9_pourNow wsX9_pourNow) := goodIn_app (goodIn_of _ (by decide +kernel)) ggX9_chance_X9_pourNow
set_option maxRecDepth 20000 in
theorem ggX9_chance_X9_sayNow : GoodIn wsX9_chance wsX9_sayNow := goodIn_r _ [35, 3, 36, 37, 38, 39, 40, 41, 42, 43, 44, 45, 46, 47, 48, 49, 50, 51, 52, 53, 54, 55, 56, 57, 58, 59, 60, 61, 62, 63, 64, 65, 66, 67, 68, 69, 70, 71, 72, 73] (by decide +kernel) (by decide +kernel)
set_option maxRecDepth 20000 in
theorem gX9_chance_X9_sayNow : GoodIn wsX9_chance (wsV RX9 239 RX9 yX9_sayNow wsX9_sayNow) := goodIn_app (goodIn_of _ (by decide +kernel)) ggX9_chance_X9_sayNow
theorem dX9_chance_0 : decode cX9_chance 0 = .ok (.iconst 0, 1) := by decide +kernel
theorem dX9_chance_1 : decode cX9_chance 1 = .ok (.istore_n 1, 1) := by decide +kernel
theorem dX9_chance_2 : decode cX9_chance 2 = .ok (.iload_n 1, 1) := by decide +kernel
theorem dX9_chance_3 : decode cX9_chance 3 = .ok (.iconst 3, 1) := by decide +kernel
theorem dX9_chance_4 : decode cX9_chance 4 = .ok (.if_icmp .ge 49, 3) := by decide +kernel
theorem dX9_chance_7 : decode cX9_chance 7 = .ok (.aload_n 0, 1) := by decide +kernel
theorem dX9_chance_8 : decode cX9_chance 8 = .ok (.getfield 73, 3) := by decide +kernel
theorem dX9_chance_11 : decode cX9_chance 11 = .ok (.ifCond .le 42, 3) := by decide +kernel
theorem dX9_chance_14 : decode cX9_chance 14 = .ok (.aload_n 0, 1) := by decide +kernel
theorem dX9_chance_15 : decode cX9_chance 15 = .ok (.getfield 80, 3) := by decide +kernel
theorem dX9_chance_18 : decode cX9_chance 18 = .ok (.ifCond .le 35, 3) := by decide +kernel
theorem dX9_chance_21 : decode cX9_chance 21 = .ok (.aload_n 0, 1) := by decide +kernel
theorem dX9_chance_22 : decode cX9_chance 22 = .ok (.aload_n 0, 1) := by decide +kernel
theorem dX9_chance_23 : decode cX9_chance 23 = .ok (.getfield 73, 3) := by decide +kernel
theorem dX9_chance_26 : decode cX9_chance 26 = .ok (.invokevirtual 269, 3) := by decide +kernel
theorem dX9_chance_29 : decode cX9_chance 29 = .ok (.istore_n 2, 1) := by decide +kernel
theorem dX9_chance_30 : decode cX9_chance 30 = .ok (.aload_n 0, 1) := by decide +kernel
theorem dX9_chance_31 : decode cX9_chance 31 = .ok (.aload_n 0, 1) := by decide +kernel
theorem dX9_chance_32 : decode cX9_chance 32 = .ok (.getfield 80, 3) := by decide +kernel
theorem dX9_chance_35 : decode cX9_chance 35 = .ok (.invokevirtual 269, 3) := by decide +kernel
theorem dX9_chance_38 : decode cX9_chance 38 = .ok (.istore_n 3, 1) := by decide +kernel
theorem dX9_chance_39 : decode cX9_chance 39 = .ok (.aload_n 0, 1) := by decide +kernel
theorem dX9_chance_40 : decode cX9_chance 40 = .ok (.iload_n 2, 1) := by decide +kernel
theorem dX9_chance_41 : decode cX9_chance 41 = .ok (.iload_n 3, 1) := by decide +kernel
theorem dX9_chance_42 : decode cX9_chance 42 = .ok (.invokevirtual 236, 3) := by decide +kernel
theorem dX9_chance_45 : decode cX9_chance 45 = .ok (.istore 4, 2) := by decide +kernel
theorem dX9_chance_47 : decode cX9_chance 47 = .ok (.iinc 1 1, 3) := by decide +kernel
theorem dX9_chance_50 : decode cX9_chance 50 = .ok (.goto (-48), 3) := by decide +kernel
theorem dX9_chance_53 : decode cX9_chance 53 = .ok (.aload_n 0, 1) := by decide +kernel
theorem dX9_chance_54 : decode cX9_chance 54 = .ok (.iconst 4, 1) := by decide +kernel
theorem dX9_chance_55 : decode cX9_chance 55 = .ok (.invokevirtual 269, 3) := by decide +kernel
theorem dX9_chance_58 : decode cX9_chance 58 = .ok (.istore_n 1, 1) := by decide +kernel
theorem dX9_chance_59 : decode cX9_chance 59 = .ok (.iload_n 1, 1) := by decide +kernel
theorem dX9_chance_60 : decode cX9_chance 60 = .ok (.ifCond .ne 19, 3) := by decide +kernel
theorem dX9_chance_63 : decode cX9_chance 63 = .ok (.aload_n 0, 1) := by decide +kernel
theorem dX9_chance_64 : decode cX9_chance 64 = .ok (.getfield 25, 3) := by decide +kernel
theorem dX9_chance_67 : decode cX9_chance 67 = .ok (.bipush 13, 2) := by decide +kernel
theorem dX9_chance_69 : decode cX9_chance 69 = .ok (.aload_n 0, 1) := by decide +kernel
theorem dX9_chance_70 : decode cX9_chance 70 = .ok (.bipush 30, 2) := by decide +kernel
theorem dX9_chance_72 : decode cX9_chance 72 = .ok (.invokevirtual 269, 3) := by decide +kernel
theorem dX9_chance_75 : decode cX9_chance 75 = .ok (.iastore, 1) := by decide +kernel
theorem dX9_chance_76 : decode cX9_chance 76 = .ok (.goto 28, 3) := by decide +kernel
theorem dX9_chance_79 : decode cX9_chance 79 = .ok (.iload_n 1, 1) := by decide +kernel
theorem dX9_chance_80 : decode cX9_chance 80 = .ok (.iconst 1, 1) := by decide +kernel
theorem dX9_chance_81 : decode cX9_chance 81 = .ok (.if_icmp .ne 23, 3) := by decide +kernel
theorem dX9_chance_84 : decode cX9_chance 84 = .ok (.aload_n 0, 1) := by decide +kernel
theorem dX9_chance_85 : decode cX9_chance 85 = .ok (.getfield 80, 3) := by decide +kernel
theorem dX9_chance_88 : decode cX9_chance 88 = .ok (.ifCond .le 16, 3) := by decide +kernel
theorem dX9_chance_91 : decode cX9_chance 91 = .ok (.aload_n 0, 1) := by decide +kernel
theorem dX9_chance_92 : decode cX9_chance 92 = .ok (.aload_n 0, 1) := by decide +kernel
theorem dX9_chance_93 : decode cX9_chance 93 = .ok (.aload_n 0, 1) := by decide +kernel
theorem dX9_chance_94 : decode cX9_chance 94 = .ok (.getfield 80, 3) := by decide +kernel
theorem dX9_chance_97 : decode cX9_chance 97 = .ok (.invokevirtual 269, 3) := by decide +kernel
theorem dX9_chance_100 : decode cX9_chance 100 = .ok (.invokevirtual 239, 3) := by decide +kernel
theorem dX9_chance_103 : decode cX9_chance 103 = .ok (.istore_n 2, 1) := by decide +kernel
theorem dX9_chance_104 : decode cX9_chance 104 = .ok (.return_, 1) := by decide +kernel
set_option maxRecDepth 20000 in
theorem ggX9_drift_X9_nightsRefused : GoodIn wsX9_drift wsX9_nightsRefused := goodIn_r _ [6, 7, 8, 9, 10, 1, 11, 12, 13, 5, 14, 66, 67, 68, 69, 70, 71, 72, 73, 74, 75, 76, 77, 78, 79, 80, 81, 82, 83, 84, 85, 86, 87, 88, 89, 90, 91, 92, 93, 94, 95, 96, 97, 98, 99, 100, 101, 102, 103] (by decide +kernel) (by decide +kernel)
set_option maxRecDepth 20000 in
theorem gX9_drift_X9_nightsRefused : GoodIn wsX9_drift (wsV RX9 247 RX9 yX9_nightsRefused wsX9_nightsRefused) := goodIn_app (goodIn_of _ (by decide +kernel)) ggX9_drift_X9_nightsRefused
set_option maxRecDepth 20000 in
theorem ggX9_drift_X9_remember : GoodIn wsX9_drift wsX9_remember := goodIn_r _ [18, 19, 20, 1, 66, 67, 68, 69, 70, 71, 72, 73, 74, 75, 76, 77, 78, 79, 80, 81, 82, 83, 84, 85, 86, 87, 88, 89, 90, 91, 92, 93, 94, 95, 96, 97, 98, 99, 100, 101, 102, 103] (by decide +kernel) (by decide +kernel)
set_option maxRecDepth 20000 in
theorem gX9_drift_X9_remember : GoodIn wsX9_drift (wsV RX9 233 RX9 yX9_remember wsX9_remember) := goodIn_app (goodIn_of _ (by decide +kernel)) ggX9_drift_X9_remember
set_option maxRecDepth 20000 in
theorem ggX9_drift_X9_chance : GoodIn wsX9_drift wsX9_chance := goodIn_r _ [24, 25, 26, 1, 27, 28, 29, 5, 30, 31, 32, 33, 34, 35, 36, 37, 38, 39, 40, 41, 42, 43, 44, 45, 46, 47, 48, 49, 50, 51, 52, 53, 54, 55, 56, 57, 66, 67, 68, 69, 70, 71, 72, 73, 74, 75, 76, 77, 78, 79, 80, 81, 82, 83, 84, 85, 86, 87, 88, 89, 90, 91, 92, 93, 94, 95, 96, 97, 98, 99, 100, 101, 102, 103] (by decide +kernel) (by decide +kernel)
set_option maxRecDepth 20000 in
theorem gX9_drift_X9_chance : GoodIn wsX9_drift (wsV RX9 272 RX9 yX9_chance wsX9_chance) := goodIn_app (goodIn_of _ (by decide +kernel)) ggX9_drift_X9_chance
set_option maxRecDepth 20000 in
theorem ggX9_drift_X9_pass : GoodIn wsX9_drift wsX9_pass := goodIn_r _ [61, 1, 62, 63, 64, 5, 65, 66, 67, 68, 69, 70, 71, 72, 73, 74, 75, 76, 77, 78, 79, 80, 81, 82, 83, 84, 85, 86, 87, 88, 89, 90, 91, 92, 93, 94, 95, 96, 97, 98, 99, 100, 101, 102, 103] (by decide +kernel) (by decide +kernel)
set_option maxRecDepth 20000 in
theorem gX9_drift_X9_pass : GoodIn wsX9_drift (wsV RX9 250 RX9 yX9_pass wsX9_pass) := goodIn_app (goodIn_of _ (by decide +kernel)) ggX9_drift_X9_pass
theorem dX9_drift_0 : decode cX9_drift 0 = .ok (.aload_n 0, 1) := by decide +kernel
theorem dX9_drift_1 : decode cX9_drift 1 = .ok (.iload_n 1, 1) := by decide +kernel
theorem dX9_drift_2 : decode cX9_drift 2 = .ok (.invokevirtual 247, 3) := by decide +kernel
theorem dX9_drift_5 : decode cX9_drift 5 = .ok (.istore_n 2, 1) := by decide +kernel
theorem dX9_drift_6 : decode cX9_drift 6 = .ok (.iload_n 2, 1) := by decide +kernel
theorem dX9_drift_7 : decode cX9_drift 7 = .ok (.ifCond .eq 5, 3) := by decide +kernel
theorem dX9_drift_10 : decode cX9_drift 10 = .ok (.iload_n 2, 1) := by decide +kernel
theorem dX9_drift_11 : decode cX9_drift 11 = .ok (.ireturn, 1) := by decide +kernel
theorem dX9_drift_12 : decode cX9_drift 12 = .ok (.aload_n 0, 1) := by decide +kernel
theorem dX9_drift_13 : decode cX9_drift 13 = .ok (.invokevirtual 233, 3) := by decide +kernel
theorem dX9_drift_16 : decode cX9_drift 16 = .ok (.iconst 0, 1) := by decide +kernel
theorem dX9_drift_17 : decode cX9_drift 17 = .ok (.istore_n 3, 1) := by decide +kernel
theorem dX9_drift_18 : decode cX9_drift 18 = .ok (.iload_n 3, 1) := by decide +kernel
theorem dX9_drift_19 : decode cX9_drift 19 = .ok (.iload_n 1, 1) := by decide +kernel
theorem dX9_drift_20 : decode cX9_drift 20 = .ok (.if_icmp .ge 17, 3) := by decide +kernel
theorem dX9_drift_23 : decode cX9_drift 23 = .ok (.aload_n 0, 1) := by decide +kernel
theorem dX9_drift_24 : decode cX9_drift 24 = .ok (.invokevirtual 272, 3) := by decide +kernel
theorem dX9_drift_27 : decode cX9_drift 27 = .ok (.aload_n 0, 1) := by decide +kernel
theorem dX9_drift_28 : decode cX9_drift 28 = .ok (.invokevirtual 250, 3) := by decide +kernel
theorem dX9_drift_31 : decode cX9_drift 31 = .ok (.iinc 3 1, 3) := by decide +kernel
theorem dX9_drift_34 : decode cX9_drift 34 = .ok (.goto (-16), 3) := by decide +kernel
theorem dX9_drift_37 : decode cX9_drift 37 = .ok (.aload_n 0, 1) := by decide +kernel
theorem dX9_drift_38 : decode cX9_drift 38 = .ok (.getfield 25, 3) := by decide +kernel
theorem dX9_drift_41 : decode cX9_drift 41 = .ok (.bipush 12, 2) := by decide +kernel
theorem dX9_drift_43 : decode cX9_drift 43 = .ok (.iaload, 1) := by decide +kernel
theorem dX9_drift_44 : decode cX9_drift 44 = .ok (.ireturn, 1) := by decide +kernel
theorem dX9_undo_0 : decode cX9_undo 0 = .ok (.aload_n 0, 1) := by decide +kernel
theorem dX9_undo_1 : decode cX9_undo 1 = .ok (.getfield 178, 3) := by decide +kernel
theorem dX9_undo_4 : decode cX9_undo 4 = .ok (.ifCond .ne 6, 3) := by decide +kernel
theorem dX9_undo_7 : decode cX9_undo 7 = .ok (.ldc 232, 2) := by decide +kernel
theorem dX9_undo_9 : decode cX9_undo 9 = .ok (.ireturn, 1) := by decide +kernel
theorem dX9_undo_10 : decode cX9_undo 10 = .ok (.aload_n 0, 1) := by decide +kernel
theorem dX9_undo_11 : decode cX9_undo 11 = .ok (.dup, 1) := by decide +kernel
theorem dX9_undo_12 : decode cX9_undo 12 = .ok (.getfield 178, 3) := by decide +kernel
theorem dX9_undo_15 : decode cX9_undo 15 = .ok (.iconst 1, 1) := by decide +kernel
theorem dX9_undo_16 : decode cX9_undo 16 = .ok (.isub, 1) := by decide +kernel
theorem dX9_undo_17 : decode cX9_undo 17 = .ok (.putfield 178, 3) := by decide +kernel
theorem dX9_undo_20 : decode cX9_undo 20 = .ok (.iconst 0, 1) := by decide +kernel
theorem dX9_undo_21 : decode cX9_undo 21 = .ok (.istore_n 1, 1) := by decide +kernel
theorem dX9_undo_22 : decode cX9_undo 22 = .ok (.iload_n 1, 1) := by decide +kernel
theorem dX9_undo_23 : decode cX9_undo 23 = .ok (.bipush 23, 2) := by decide +kernel
theorem dX9_undo_25 : decode cX9_undo 25 = .ok (.if_icmp .ge 29, 3) := by decide +kernel
theorem dX9_undo_28 : decode cX9_undo 28 = .ok (.aload_n 0, 1) := by decide +kernel
theorem dX9_undo_29 : decode cX9_undo 29 = .ok (.getfield 25, 3) := by decide +kernel
theorem dX9_undo_32 : decode cX9_undo 32 = .ok (.iload_n 1, 1) := by decide +kernel
theorem dX9_undo_33 : decode cX9_undo 33 = .ok (.aload_n 0, 1) := by decide +kernel
theorem dX9_undo_34 : decode cX9_undo 34 = .ok (.getfield 53, 3) := by decide +kernel
theorem dX9_undo_37 : decode cX9_undo 37 = .ok (.bipush 23, 2) := by decide +kernel
theorem dX9_undo_39 : decode cX9_undo 39 = .ok (.aload_n 0, 1) := by decide +kernel
theorem dX9_undo_40 : decode cX9_undo 40 = .ok (.getfield 178, 3) := by decide +kernel
theorem dX9_undo_43 : decode cX9_undo 43 = .ok (.imul, 1) := by decide +kernel
theorem dX9_undo_44 : decode cX9_undo 44 = .ok (.iload_n 1, 1) := by decide +kernel
theorem dX9_undo_45 : decode cX9_undo 45 = .ok (.iadd, 1) := by decide +kernel
theorem dX9_undo_46 : decode cX9_undo 46 = .ok (.iaload, 1) := by decide +kernel
theorem dX9_undo_47 : decode cX9_undo 47 = .ok (.iastore, 1) := by decide +kernel
theorem dX9_undo_48 : decode cX9_undo 48 = .ok (.iinc 1 1, 3) := by decide +kernel
theorem dX9_undo_51 : decode cX9_undo 51 = .ok (.goto (-29), 3) := by decide +kernel
theorem dX9_undo_54 : decode cX9_undo 54 = .ok (.aload_n 0, 1) := by decide +kernel
theorem dX9_undo_55 : decode cX9_undo 55 = .ok (.getfield 178, 3) := by decide +kernel
theorem dX9_undo_58 : decode cX9_undo 58 = .ok (.ireturn, 1) := by decide +kernel
theorem dX9_free_0 : decode cX9_free 0 = .ok (.iconst 1, 1) := by decide +kernel
theorem dX9_free_1 : decode cX9_free 1 = .ok (.aload_n 0, 1) := by decide +kernel
theorem dX9_free_2 : decode cX9_free 2 = .ok (.getfield 80, 3) := by decide +kernel
theorem dX9_free_5 : decode cX9_free 5 = .ok (.ishl, 1) := by decide +kernel
theorem dX9_free_6 : decode cX9_free 6 = .ok (.iconst 1, 1) := by decide +kernel
theorem dX9_free_7 : decode cX9_free 7 = .ok (.isub, 1) := by decide +kernel
theorem dX9_free_8 : decode cX9_free 8 = .ok (.aload_n 0, 1) := by decide +kernel
theorem dX9_free_9 : decode cX9_free 9 = .ok (.getfield 25, 3) := by decide +kernel
theorem dX9_free_12 : decode cX9_free 12 = .ok (.bipush 10, 2) := by decide +kernel
theorem dX9_free_14 : decode cX9_free 14 = .ok (.iaload, 1) := by decide +kernel
theorem dX9_free_15 : decode cX9_free 15 = .ok (.aload_n 0, 1) := by decide +kernel
theorem dX9_free_16 : decode cX9_free 16 = .ok (.getfield 25, 3) := by decide +kernel
theorem dX9_free_19 : decode cX9_free 19 = .ok (.bipush 11, 2) := by decide +kernel
theorem dX9_free_21 : decode cX9_free 21 = .ok (.iaload, 1) := by decide +kernel
theorem dX9_free_22 : decode cX9_free 22 = .ok (.ior, 1) := by decide +kernel
theorem dX9_free_23 : decode cX9_free 23 = .ok (.iconst (-1), 1) := by decide +kernel
theorem dX9_free_24 : decode cX9_free 24 = .ok (.ixor, 1) := by decide +kernel
theorem dX9_free_25 : decode cX9_free 25 = .ok (.iand, 1) := by decide +kernel
theorem dX9_free_26 : decode cX9_free 26 = .ok (.ireturn, 1) := by decide +kernel
set_option maxRecDepth 20000 in
theorem ggX9_costOf_X9_has : GoodIn wsX9_costOf wsX9_has := goodIn_r _ [7] (by decide +kernel) (by decide +kernel)
set_option maxRecDepth 20000 in
theorem gX9_costOf_X9_has : GoodIn wsX9_costOf (va_wsS RX9 136 yX9_has wsX9_has) := goodIn_app (goodIn_of _ (by decide +kernel)) ggX9_costOf_X9_has
theorem dX9_costOf_0 : decode cX9_costOf 0 = .ok (.iconst 0, 1) := by decide +kernel
theorem dX9_costOf_1 : decode cX9_costOf 1 = .ok (.istore_n 2, 1) := by decide +kernel
theorem dX9_costOf_2 : decode cX9_costOf 2 = .ok (.iconst 0, 1) := by decide +kernel
theorem dX9_costOf_3 : decode cX9_costOf 3 = .ok (.istore_n 3, 1) := by decide +kernel
theorem dX9_costOf_4 : decode cX9_costOf 4 = .ok (.iload_n 3, 1) := by decide +kernel
theorem dX9_costOf_5 : decode cX9_costOf 5 = .ok (.aload_n 0, 1) := by decide +kernel
theorem dX9_costOf_6 : decode cX9_costOf 6 = .ok (.getfield 80, 3) := by decide +kernel
theorem dX9_costOf_9 : decode cX9_costOf 9 = .ok (.if_icmp .ge 37, 3) := by decide +kernel
theorem dX9_costOf_12 : decode cX9_costOf 12 = .ok (.iload_n 2, 1) := by decide +kernel
theorem dX9_costOf_13 : decode cX9_costOf 13 = .ok (.iload_n 1, 1) := by decide +kernel
theorem dX9_costOf_14 : decode cX9_costOf 14 = .ok (.iload_n 3, 1) := by decide +kernel
theorem dX9_costOf_15 : decode cX9_costOf 15 = .ok (.invokestatic 136, 3) := by decide +kernel
theorem dX9_costOf_18 : decode cX9_costOf 18 = .ok (.ifCond .eq 19, 3) := by decide +kernel
theorem dX9_costOf_21 : decode cX9_costOf 21 = .ok (.aload_n 0, 1) := by decide +kernel
theorem dX9_costOf_22 : decode cX9_costOf 22 = .ok (.getfield 16, 3) := by decide +kernel
theorem dX9_costOf_25 : decode cX9_costOf 25 = .ok (.iload_n 3, 1) := by decide +kernel
theorem dX9_costOf_26 : decode cX9_costOf 26 = .ok (.iaload, 1) := by decide +kernel
theorem dX9_costOf_27 : decode cX9_costOf 27 = .ok (.aload_n 0, 1) := by decide +kernel
theorem dX9_costOf_28 : decode cX9_costOf 28 = .ok (.getfield 25, 3) := by decide +kernel
theorem dX9_costOf_31 : decode cX9_costOf 31 = .ok (.iload_n 3, 1) := by decide +kernel
theorem dX9_costOf_32 : decode cX9_costOf 32 = .ok (.iaload, 1) := by decide +kernel
theorem dX9_costOf_33 : decode cX9_costOf 33 = .ok (.isub, 1) := by decide +kernel
theorem dX9_costOf_34 : decode cX9_costOf 34 = .ok (.goto 4, 3) := by decide +kernel
theorem dX9_costOf_37 : decode cX9_costOf 37 = .ok (.iconst 0, 1) := by decide +kernel
theorem dX9_costOf_38 : decode cX9_costOf 38 = .ok (.iadd, 1) := by decide +kernel
theorem dX9_costOf_39 : decode cX9_costOf 39 = .ok (.istore_n 2, 1) := by decide +kernel
theorem dX9_costOf_40 : decode cX9_costOf 40 = .ok (.iinc 3 1, 3) := by decide +kernel
theorem dX9_costOf_43 : decode cX9_costOf 43 = .ok (.goto (-39), 3) := by decide +kernel
theorem dX9_costOf_46 : decode cX9_costOf 46 = .ok (.iload_n 2, 1) := by decide +kernel
theorem dX9_costOf_47 : decode cX9_costOf 47 = .ok (.ireturn, 1) := by decide +kernel
set_option maxRecDepth 20000 in
theorem ggX9_state_X9_isSet : GoodIn wsX9_state wsX9_isSet := goodIn_r _ [10, 4, 11, 12, 9, 13, 31, 32, 33, 34, 35, 36, 37, 38, 39, 40, 41, 42, 43, 44, 45, 46, 47, 48, 49, 50, 51, 52, 53, 54, 55, 56, 57, 58, 59, 60, 61, 62, 63, 64, 65, 66, 67, 68] (by decide +kernel) (by decide +kernel)
set_option maxRecDepth 20000 in
theorem gX9_state_X9_isSet : GoodIn wsX9_state (wsV RX9 275 RX9 yX9_isSet wsX9_isSet) := goodIn_app (goodIn_of _ (by decide +kernel)) ggX9_state_X9_isSet
set_option maxRecDepth 20000 in
theorem ggX9_state_X9_in : GoodIn wsX9_state wsX9_in := goodIn_r _ [13] (by decide +kernel) (by decide +kernel)
set_option maxRecDepth 20000 in
theorem gX9_state_X9_in : GoodIn wsX9_state (va_wsS RX9 76 yX9_in wsX9_in) := goodIn_app (goodIn_of _ (by decide +kernel)) ggX9_state_X9_in
set_option maxRecDepth 20000 in
theorem ggX9_state_X9_holdsBut : GoodIn wsX9_state wsX9_holdsBut := goodIn_r _ [17, 4, 18, 19, 20, 9, 21, 31, 32, 33, 34, 35, 36, 37, 38, 39, 40, 41, 42, 43, 44, 45, 46, 47, 48, 49, 50, 51, 52, 53, 54, 55, 56, 57, 58, 59, 60, 61, 62, 63, 64, 65, 66, 67, 68] (by decide +kernel) (by decide +kernel)
set_option maxRecDepth 20000 in
theorem gX9_state_X9_holdsBut : GoodIn wsX9_state (wsV RX9 181 RX9 yX9_holdsBut wsX9_holdsBut) := goodIn_app (goodIn_of _ (by decide +kernel)) ggX9_state_X9_holdsBut
set_option maxRecDepth 20000 in
theorem ggX9_state_X9_free : GoodIn wsX9_state wsX9_free := goodIn_r _ [25, 4, 5, 31, 32, 33, 34, 35, 36, 37, 38, 39, 40, 41, 42, 43, 44, 45, 46, 47, 48, 49, 50, 51, 52, 53, 54, 55, 56, 57, 58, 59, 60, 61, 62, 63, 64, 65, 66, 67, 68] (by decide +kernel) (by decide +kernel)
set_option maxRecDepth 20000 in
theorem gX9_state_X9_free : GoodIn wsX9_state (wsV RX9 279 RX9 yX9_free wsX9_free) := goodIn_app (goodIn_of _ (by decide +kernel)) ggX9_state_X9_free
set_option maxRecDepth 20000 in
theorem ggX9_state_X9_costOf : GoodIn wsX9_state wsX9_costOf := goodIn_r _ [29, 4, 30, 5, 19, 20, 9, 21, 31, 32, 33, 34, 35, 36, 37, 38, 39, 40, 41, 42, 43, 44, 45, 46, 47, 48, 49, 50, 51, 52, 53, 54, 55, 56, 57, 58, 59, 60, 61, 62, 63, 64, 65, 66, 67, 68] (by decide +kernel) (by decide +kernel)
set_option maxRecDepth 20000 in
theorem gX9_state_X9_costOf : GoodIn wsX9_state (wsV RX9 282 RX9 yX9_costOf wsX9_costOf) := goodIn_app (goodIn_of _ (by decide +kernel)) ggX9_state_X9_costOf
theorem dX9_state_0 : decode cX9_state 0 = .ok (.aload_n 0, 1) := by decide +kernel
theorem dX9_state_1 : decode cX9_state 1 = .ok (.iload_n 1, 1) := by decide +kernel
theorem dX9_state_2 : decode cX9_state 2 = .ok (.invokevirtual 275, 3) := by decide +kernel
theorem dX9_state_5 : decode cX9_state 5 = .ok (.ifCond .eq 11, 3) := by decide +kernel
theorem dX9_state_8 : decode cX9_state 8 = .ok (.aload_n 0, 1) := by decide +kernel
theorem dX9_state_9 : decode cX9_state 9 = .ok (.iload_n 2, 1) := by decide +kernel
theorem dX9_state_10 : decode cX9_state 10 = .ok (.invokevirtual 275, 3) := by decide +kernel
theorem dX9_state_13 : decode cX9_state 13 = .ok (.ifCond .ne 6, 3) := by decide +kernel
theorem dX9_state_16 : decode cX9_state 16 = .ok (.ldc 206, 2) := by decide +kernel
theorem dX9_state_18 : decode cX9_state 18 = .ok (.ireturn, 1) := by decide +kernel
theorem dX9_state_19 : decode cX9_state 19 = .ok (.iload_n 3, 1) := by decide +kernel
theorem dX9_state_20 : decode cX9_state 20 = .ok (.i2l, 1) := by decide +kernel
theorem dX9_state_21 : decode cX9_state 21 = .ok (.lconst 0, 1) := by decide +kernel
theorem dX9_state_22 : decode cX9_state 22 = .ok (.lconst 1, 1) := by decide +kernel
theorem dX9_state_23 : decode cX9_state 23 = .ok (.invokestatic 76, 3) := by decide +kernel
theorem dX9_state_26 : decode cX9_state 26 = .ok (.ifCond .ne 6, 3) := by decide +kernel
theorem dX9_state_29 : decode cX9_state 29 = .ok (.ldc 85, 2) := by decide +kernel
theorem dX9_state_31 : decode cX9_state 31 = .ok (.ireturn, 1) := by decide +kernel
theorem dX9_state_32 : decode cX9_state 32 = .ok (.iconst (-1), 1) := by decide +kernel
theorem dX9_state_33 : decode cX9_state 33 = .ok (.istore 4, 2) := by decide +kernel
theorem dX9_state_35 : decode cX9_state 35 = .ok (.ldc_w 278, 3) := by decide +kernel
theorem dX9_state_38 : decode cX9_state 38 = .ok (.istore 5, 2) := by decide +kernel
theorem dX9_state_40 : decode cX9_state 40 = .ok (.iconst 0, 1) := by decide +kernel
theorem dX9_state_41 : decode cX9_state 41 = .ok (.istore 6, 2) := by decide +kernel
theorem dX9_state_43 : decode cX9_state 43 = .ok (.iload 6, 2) := by decide +kernel
theorem dX9_state_45 : decode cX9_state 45 = .ok (.iconst 1, 1) := by decide +kernel
theorem dX9_state_46 : decode cX9_state 46 = .ok (.aload_n 0, 1) := by decide +kernel
theorem dX9_state_47 : decode cX9_state 47 = .ok (.getfield 80, 3) := by decide +kernel
theorem dX9_state_50 : decode cX9_state 50 = .ok (.ishl, 1) := by decide +kernel
theorem dX9_state_51 : decode cX9_state 51 = .ok (.if_icmp .ge 111, 3) := by decide +kernel
theorem dX9_state_54 : decode cX9_state 54 = .ok (.aload_n 0, 1) := by decide +kernel
theorem dX9_state_55 : decode cX9_state 55 = .ok (.aload_n 0, 1) := by decide +kernel
theorem dX9_state_56 : decode cX9_state 56 = .ok (.getfield 25, 3) := by decide +kernel
theorem dX9_state_59 : decode cX9_state 59 = .ok (.bipush 10, 2) := by decide +kernel
theorem dX9_state_61 : decode cX9_state 61 = .ok (.iaload, 1) := by decide +kernel
theorem dX9_state_62 : decode cX9_state 62 = .ok (.iload 6, 2) := by decide +kernel
theorem dX9_state_64 : decode cX9_state 64 = .ok (.ior, 1) := by decide +kernel
theorem dX9_state_65 : decode cX9_state 65 = .ok (.invokevirtual 181, 3) := by decide +kernel
theorem dX9_state_68 : decode cX9_state 68 = .ok (.istore 7, 2) := by decide +kernel
theorem dX9_state_70 : decode cX9_state 70 = .ok (.iload 6, 2) := by decide +kernel
theorem dX9_state_72 : decode cX9_state 72 = .ok (.aload_n 0, 1) := by decide +kernel
theorem dX9_state_73 : decode cX9_state 73 = .ok (.invokevirtual 279, 3) := by decide +kernel
theorem dX9_state_76 : decode cX9_state 76 = .ok (.iconst (-1), 1) := by decide +kernel
theorem dX9_state_77 : decode cX9_state 77 = .ok (.ixor, 1) := by decide +kernel
theorem dX9_state_78 : decode cX9_state 78 = .ok (.iand, 1) := by decide +kernel
theorem dX9_state_79 : decode cX9_state 79 = .ok (.ifCond .ne 23, 3) := by decide +kernel
theorem dX9_state_82 : decode cX9_state 82 = .ok (.iload_n 1, 1) := by decide +kernel
theorem dX9_state_83 : decode cX9_state 83 = .ok (.iload 7, 2) := by decide +kernel
theorem dX9_state_85 : decode cX9_state 85 = .ok (.iconst (-1), 1) := by decide +kernel
theorem dX9_state_86 : decode cX9_state 86 = .ok (.ixor, 1) := by decide +kernel
theorem dX9_state_87 : decode cX9_state 87 = .ok (.iand, 1) := by decide +kernel
theorem dX9_state_88 : decode cX9_state 88 = .ok (.ifCond .ne 14, 3) := by decide +kernel
theorem dX9_state_91 : decode cX9_state 91 = .ok (.iload_n 2, 1) := by decide +kernel
theorem dX9_state_92 : decode cX9_state 92 = .ok (.iload 7, 2) := by decide +kernel
theorem dX9_state_94 : decode cX9_state 94 = .ok (.iand, 1) := by decide +kernel
theorem dX9_state_95 : decode cX9_state 95 = .ok (.ifCond .ne 7, 3) := by decide +kernel
theorem dX9_state_98 : decode cX9_state 98 = .ok (.iconst 1, 1) := by decide +kernel
theorem dX9_state_99 : decode cX9_state 99 = .ok (.goto 4, 3) := by decide +kernel
theorem dX9_state_102 : decode cX9_state 102 = .ok (.iconst 0, 1) := by decide +kernel
theorem dX9_state_103 : decode cX9_state 103 = .ok (.istore 8, 2) := by decide +kernel
theorem dX9_state_105 : decode cX9_state 105 = .ok (.iload 8, 2) := by decide +kernel
theorem dX9_state_107 : decode cX9_state 107 = .ok (.ifCond .eq 12, 3) := by decide +kernel
theorem dX9_state_110 : decode cX9_state 110 = .ok (.aload_n 0, 1) := by decide +kernel
theorem dX9_state_111 : decode cX9_state 111 = .ok (.iload 6, 2) := by decide +kernel
theorem dX9_state_113 : decode cX9_state 113 = .ok (.invokevirtual 282, 3) := by decide +kernel
theorem dX9_state_116 : decode cX9_state 116 = .ok (.goto 6, 3) := by decide +kernel
theorem dX9_state_119 : decode cX9_state 119 = .ok (.ldc_w 278, 3) := by decide +kernel
theorem dX9_state_122 : decode cX9_state 122 = .ok (.istore 9, 2) := by decide +kernel
theorem dX9_state_124 : decode cX9_state 124 = .ok (.iload 9, 2) := by decide +kernel
theorem dX9_state_126 : decode cX9_state 126 = .ok (.iload 5, 2) := by decide +kernel
theorem dX9_state_128 : decode cX9_state 128 = .ok (.if_icmp .ge 8, 3) := by decide +kernel
theorem dX9_state_131 : decode cX9_state 131 = .ok (.iload 6, 2) := by decide +kernel
theorem dX9_state_133 : decode cX9_state 133 = .ok (.goto 5, 3) := by decide +kernel
theorem dX9_state_136 : decode cX9_state 136 = .ok (.iload 4, 2) := by decide +kernel
theorem dX9_state_138 : decode cX9_state 138 = .ok (.istore 4, 2) := by decide +kernel
theorem dX9_state_140 : decode cX9_state 140 = .ok (.iload 9, 2) := by decide +kernel
theorem dX9_state_142 : decode cX9_state 142 = .ok (.iload 5, 2) := by decide +kernel
theorem dX9_state_144 : decode cX9_state 144 = .ok (.if_icmp .ge 8, 3) := by decide +kernel
theorem dX9_state_147 : decode cX9_state 147 = .ok (.iload 9, 2) := by decide +kernel
theorem dX9_state_149 : decode cX9_state 149 = .ok (.goto 5, 3) := by decide +kernel
theorem dX9_state_152 : decode cX9_state 152 = .ok (.iload 5, 2) := by decide +kernel
theorem dX9_state_154 : decode cX9_state 154 = .ok (.istore 5, 2) := by decide +kernel
theorem dX9_state_156 : decode cX9_state 156 = .ok (.iinc 6 1, 3) := by decide +kernel
theorem dX9_state_159 : decode cX9_state 159 = .ok (.goto (-116), 3) := by decide +kernel
theorem dX9_state_162 : decode cX9_state 162 = .ok (.iload 4, 2) := by decide +kernel
theorem dX9_state_164 : decode cX9_state 164 = .ok (.ifCond .lt 8, 3) := by decide +kernel
theorem dX9_state_167 : decode cX9_state 167 = .ok (.iload_n 3, 1) := by decide +kernel
theorem dX9_state_168 : decode cX9_state 168 = .ok (.iconst 1, 1) := by decide +kernel
theorem dX9_state_169 : decode cX9_state 169 = .ok (.if_icmp .ne 8, 3) := by decide +kernel
theorem dX9_state_172 : decode cX9_state 172 = .ok (.iload 4, 2) := by decide +kernel
theorem dX9_state_174 : decode cX9_state 174 = .ok (.goto 5, 3) := by decide +kernel
theorem dX9_state_177 : decode cX9_state 177 = .ok (.iload 5, 2) := by decide +kernel
theorem dX9_state_179 : decode cX9_state 179 = .ok (.ireturn, 1) := by decide +kernel
set_option maxRecDepth 20000 in
theorem ggX9_best_X9_in : GoodIn wsX9_best wsX9_in := goodIn_r _ [9] (by decide +kernel) (by decide +kernel)
set_option maxRecDepth 20000 in
theorem gX9_best_X9_in : GoodIn wsX9_best (va_wsS RX9 76 yX9_in wsX9_in) := goodIn_app (goodIn_of _ (by decide +kernel)) ggX9_best_X9_in
set_option maxRecDepth 20000 in
theorem ggX9_best_X9_holds : GoodIn wsX9_best wsX9_holds := goodIn_r _ [13, 4, 14, 15, 16, 8, 17, 3, 18, 19, 20, 21, 36, 37, 38, 39, 40, 41, 42, 43, 44, 45, 46, 47, 48, 49, 50, 51, 52, 53, 54, 55, 56, 57, 58, 59, 60, 61, 62, 63, 64, 65, 66, 67, 68, 69, 70, 71, 72, 73] (by decide +kernel) (by decide +kernel)
set_option maxRecDepth 20000 in
theorem gX9_best_X9_holds : GoodIn wsX9_best (wsV RX9 185 RX9 yX9_holds wsX9_holds) := goodIn_app (goodIn_of _ (by decide +kernel)) ggX9_best_X9_holds
set_option maxRecDepth 20000 in
theorem ggX9_best_X9_worthOf : GoodIn wsX9_best wsX9_worthOf := goodIn_r _ [25, 3, 26, 19, 20, 8, 21, 36, 37, 38, 39, 40, 41, 42, 43, 44, 45, 46, 47, 48, 49, 50, 51, 52, 53, 54, 55, 56, 57, 58, 59, 60, 61, 62, 63, 64, 65, 66, 67, 68, 69, 70, 71, 72, 73] (by decide +kernel) (by decide +kernel)
set_option maxRecDepth 20000 in
theorem gX9_best_X9_worthOf : GoodIn wsX9_best (wsV RX9 197 RX9 yX9_worthOf wsX9_worthOf) := goodIn_app (goodIn_of _ (by decide +kernel)) ggX9_best_X9_worthOf
set_option maxRecDepth 20000 in
theorem ggX9_best_X9_free : GoodIn wsX9_best wsX9_free := goodIn_r _ [30, 3, 4, 36, 37, 38, 39, 40, 41, 42, 43, 44, 45, 46, 47, 48, 49, 50, 51, 52, 53, 54, 55, 56, 57, 58, 59, 60, 61, 62, 63, 64, 65, 66, 67, 68, 69, 70, 71, 72, 73] (by decide +kernel) (by decide +kernel)
set_option maxRecDepth 20000 in
theorem gX9_best_X9_free : GoodIn wsX9_best (wsV RX9 279 RX9 yX9_free wsX9_free) := goodIn_app (goodIn_of _ (by decide +kernel)) ggX9_best_X9_free
set_option maxRecDepth 20000 in
theorem ggX9_best_X9_costOf : GoodIn wsX9_best wsX9_costOf := goodIn_r _ [34, 3, 35, 4, 19, 20, 8, 21, 36, 37, 38, 39, 40, 41, 42, 43, 44, 45, 46, 47, 48, 49, 50, 51, 52, 53, 54, 55, 56, 57, 58, 59, 60, 61, 62, 63, 64, 65, 66, 67, 68, 69, 70, 71, 72, 73] (by decide +kernel) (by decide +kernel)
set_option maxRecDepth 20000 in
theorem gX9_best_X9_costOf : GoodIn wsX9_best (wsV RX9 282 RX9 yX9_costOf wsX9_costOf) := goodIn_app (goodIn_of _ (by decide +kernel)) ggX9_best_X9_costOf
set_option maxRecDepth 20000 in
theorem ggX9_best_X9_holdsBut : GoodIn wsX9_best wsX9_holdsBut := goodIn_r _ [17, 3, 18, 19, 20, 8, 21, 36, 37, 38, 39, 40, 41, 42, 43, 44, 45, 46, 47, 48, 49, 50, 51, 52, 53, 54, 55, 56, 57, 58, 59, 60, 61, 62, 63, 64, 65, 66, 67, 68, 69, 70, 71, 72, 73] (by decide +kernel) (by decide +kernel)
set_option maxRecDepth 20000 in
theorem gX9_best_X9_holdsBut : GoodIn wsX9_best (wsV RX9 181 RX9 yX9_holdsBut wsX9_holdsBut) := goodIn_app (goodIn_of _ (by decide +kernel)) ggX9_best_X9_holdsBut
theorem dX9_best_0 : decode cX9_best 0 = .ok (.iload_n 1, 1) := by decide +kernel
theorem dX9_best_1 : decode cX9_best 1 = .ok (.i2l, 1) := by decide +kernel
theorem dX9_best_2 : decode cX9_best 2 = .ok (.lconst 0, 1) := by decide +kernel
theorem dX9_best_3 : decode cX9_best 3 = .ok (.ldc2_w 253, 3) := by decide +kernel
theorem dX9_best_6 : decode cX9_best 6 = .ok (.invokestatic 76, 3) := by decide +kernel
theorem dX9_best_9 : decode cX9_best 9 = .ok (.ifCond .eq 13, 3) := by decide +kernel
theorem dX9_best_12 : decode cX9_best 12 = .ok (.iload_n 2, 1) := by decide +kernel
theorem dX9_best_13 : decode cX9_best 13 = .ok (.i2l, 1) := by decide +kernel
theorem dX9_best_14 : decode cX9_best 14 = .ok (.lconst 0, 1) := by decide +kernel
theorem dX9_best_15 : decode cX9_best 15 = .ok (.lconst 1, 1) := by decide +kernel
theorem dX9_best_16 : decode cX9_best 16 = .ok (.invokestatic 76, 3) := by decide +kernel
theorem dX9_best_19 : decode cX9_best 19 = .ok (.ifCond .ne 6, 3) := by decide +kernel
theorem dX9_best_22 : decode cX9_best 22 = .ok (.ldc 85, 2) := by decide +kernel
theorem dX9_best_24 : decode cX9_best 24 = .ok (.ireturn, 1) := by decide +kernel
theorem dX9_best_25 : decode cX9_best 25 = .ok (.iconst 0, 1) := by decide +kernel
theorem dX9_best_26 : decode cX9_best 26 = .ok (.istore_n 3, 1) := by decide +kernel
theorem dX9_best_27 : decode cX9_best 27 = .ok (.aload_n 0, 1) := by decide +kernel
theorem dX9_best_28 : decode cX9_best 28 = .ok (.aload_n 0, 1) := by decide +kernel
theorem dX9_best_29 : decode cX9_best 29 = .ok (.invokevirtual 185, 3) := by decide +kernel
theorem dX9_best_32 : decode cX9_best 32 = .ok (.invokevirtual 197, 3) := by decide +kernel
theorem dX9_best_35 : decode cX9_best 35 = .ok (.istore 4, 2) := by decide +kernel
theorem dX9_best_37 : decode cX9_best 37 = .ok (.iconst 1, 1) := by decide +kernel
theorem dX9_best_38 : decode cX9_best 38 = .ok (.istore 5, 2) := by decide +kernel
theorem dX9_best_40 : decode cX9_best 40 = .ok (.iload 5, 2) := by decide +kernel
theorem dX9_best_42 : decode cX9_best 42 = .ok (.iconst 1, 1) := by decide +kernel
theorem dX9_best_43 : decode cX9_best 43 = .ok (.aload_n 0, 1) := by decide +kernel
theorem dX9_best_44 : decode cX9_best 44 = .ok (.getfield 80, 3) := by decide +kernel
theorem dX9_best_47 : decode cX9_best 47 = .ok (.ishl, 1) := by decide +kernel
theorem dX9_best_48 : decode cX9_best 48 = .ok (.if_icmp .ge 99, 3) := by decide +kernel
theorem dX9_best_51 : decode cX9_best 51 = .ok (.iload 5, 2) := by decide +kernel
theorem dX9_best_53 : decode cX9_best 53 = .ok (.aload_n 0, 1) := by decide +kernel
theorem dX9_best_54 : decode cX9_best 54 = .ok (.invokevirtual 279, 3) := by decide +kernel
theorem dX9_best_57 : decode cX9_best 57 = .ok (.iconst (-1), 1) := by decide +kernel
theorem dX9_best_58 : decode cX9_best 58 = .ok (.ixor, 1) := by decide +kernel
theorem dX9_best_59 : decode cX9_best 59 = .ok (.iand, 1) := by decide +kernel
theorem dX9_best_60 : decode cX9_best 60 = .ok (.ifCond .ne 17, 3) := by decide +kernel
theorem dX9_best_63 : decode cX9_best 63 = .ok (.aload_n 0, 1) := by decide +kernel
theorem dX9_best_64 : decode cX9_best 64 = .ok (.iload 5, 2) := by decide +kernel
theorem dX9_best_66 : decode cX9_best 66 = .ok (.invokevirtual 282, 3) := by decide +kernel
theorem dX9_best_69 : decode cX9_best 69 = .ok (.iload_n 1, 1) := by decide +kernel
theorem dX9_best_70 : decode cX9_best 70 = .ok (.if_icmp .gt 7, 3) := by decide +kernel
theorem dX9_best_73 : decode cX9_best 73 = .ok (.iconst 1, 1) := by decide +kernel
theorem dX9_best_74 : decode cX9_best 74 = .ok (.goto 4, 3) := by decide +kernel
theorem dX9_best_77 : decode cX9_best 77 = .ok (.iconst 0, 1) := by decide +kernel
theorem dX9_best_78 : decode cX9_best 78 = .ok (.istore 6, 2) := by decide +kernel
theorem dX9_best_80 : decode cX9_best 80 = .ok (.iload 6, 2) := by decide +kernel
theorem dX9_best_82 : decode cX9_best 82 = .ok (.ifCond .eq 24, 3) := by decide +kernel
theorem dX9_best_85 : decode cX9_best 85 = .ok (.aload_n 0, 1) := by decide +kernel
theorem dX9_best_86 : decode cX9_best 86 = .ok (.aload_n 0, 1) := by decide +kernel
theorem dX9_best_87 : decode cX9_best 87 = .ok (.aload_n 0, 1) := by decide +kernel
theorem dX9_best_88 : decode cX9_best 88 = .ok (.getfield 25, 3) := by decide +kernel
theorem dX9_best_91 : decode cX9_best 91 = .ok (.bipush 10, 2) := by decide +kernel
theorem dX9_best_93 : decode cX9_best 93 = .ok (.iaload, 1) := by decide +kernel
theorem dX9_best_94 : decode cX9_best 94 = .ok (.iload 5, 2) := by decide +kernel
theorem dX9_best_96 : decode cX9_best 96 = .ok (.ior, 1) := by decide +kernel
theorem dX9_best_97 : decode cX9_best 97 = .ok (.invokevirtual 181, 3) := by decide +kernel
theorem dX9_best_100 : decode cX9_best 100 = .ok (.invokevirtual 197, 3) := by decide +kernel
theorem dX9_best_103 : decode cX9_best 103 = .ok (.goto 6, 3) := by decide +kernel
theorem dX9_best_106 : decode cX9_best 106 = .ok (.ldc_w 285, 3) := by decide +kernel
theorem dX9_best_109 : decode cX9_best 109 = .ok (.istore 7, 2) := by decide +kernel
theorem dX9_best_111 : decode cX9_best 111 = .ok (.iload 7, 2) := by decide +kernel
theorem dX9_best_113 : decode cX9_best 113 = .ok (.iload 4, 2) := by decide +kernel
theorem dX9_best_115 : decode cX9_best 115 = .ok (.if_icmp .le 8, 3) := by decide +kernel
theorem dX9_best_118 : decode cX9_best 118 = .ok (.iload 5, 2) := by decide +kernel
theorem dX9_best_120 : decode cX9_best 120 = .ok (.goto 4, 3) := by decide +kernel
theorem dX9_best_123 : decode cX9_best 123 = .ok (.iload_n 3, 1) := by decide +kernel
theorem dX9_best_124 : decode cX9_best 124 = .ok (.istore_n 3, 1) := by decide +kernel
theorem dX9_best_125 : decode cX9_best 125 = .ok (.iload 7, 2) := by decide +kernel
theorem dX9_best_127 : decode cX9_best 127 = .ok (.iload 4, 2) := by decide +kernel
theorem dX9_best_129 : decode cX9_best 129 = .ok (.if_icmp .le 8, 3) := by decide +kernel
theorem dX9_best_132 : decode cX9_best 132 = .ok (.iload 7, 2) := by decide +kernel
theorem dX9_best_134 : decode cX9_best 134 = .ok (.goto 5, 3) := by decide +kernel
theorem dX9_best_137 : decode cX9_best 137 = .ok (.iload 4, 2) := by decide +kernel
theorem dX9_best_139 : decode cX9_best 139 = .ok (.istore 4, 2) := by decide +kernel
theorem dX9_best_141 : decode cX9_best 141 = .ok (.iinc 5 1, 3) := by decide +kernel
theorem dX9_best_144 : decode cX9_best 144 = .ok (.goto (-104), 3) := by decide +kernel
theorem dX9_best_147 : decode cX9_best 147 = .ok (.iload_n 2, 1) := by decide +kernel
theorem dX9_best_148 : decode cX9_best 148 = .ok (.ifCond .ne 12, 3) := by decide +kernel
theorem dX9_best_151 : decode cX9_best 151 = .ok (.iload 4, 2) := by decide +kernel
theorem dX9_best_153 : decode cX9_best 153 = .ok (.sipush 1000, 3) := by decide +kernel
theorem dX9_best_156 : decode cX9_best 156 = .ok (.iadd, 1) := by decide +kernel
theorem dX9_best_157 : decode cX9_best 157 = .ok (.goto 4, 3) := by decide +kernel
theorem dX9_best_160 : decode cX9_best 160 = .ok (.iload_n 3, 1) := by decide +kernel
theorem dX9_best_161 : decode cX9_best 161 = .ok (.ireturn, 1) := by decide +kernel
set_option maxRecDepth 20000 in
theorem ggX9_alone_X9_isPerson : GoodIn wsX9_alone wsX9_isPerson := goodIn_r _ [10, 11, 12, 13, 9, 14, 31, 32, 33, 34, 35, 36, 37, 38, 39, 40, 41, 42, 43, 44, 45, 46, 47, 48, 49, 50, 51, 52, 53, 54, 55, 56, 57, 58, 59, 60, 61, 62, 63, 64, 65, 66, 67, 68] (by decide +kernel) (by decide +kernel)
set_option maxRecDepth 20000 in
theorem gX9_alone_X9_isPerson : GoodIn wsX9_alone (wsV RX9 213 RX9 yX9_isPerson wsX9_isPerson) := goodIn_app (goodIn_of _ (by decide +kernel)) ggX9_alone_X9_isPerson
set_option maxRecDepth 20000 in
theorem ggX9_alone_X9_isSaying : GoodIn wsX9_alone wsX9_isSaying := goodIn_r _ [18, 19, 12, 13, 9, 14, 31, 32, 33, 34, 35, 36, 37, 38, 39, 40, 41, 42, 43, 44, 45, 46, 47, 48, 49, 50, 51, 52, 53, 54, 55, 56, 57, 58, 59, 60, 61, 62, 63, 64, 65, 66, 67, 68] (by decide +kernel) (by decide +kernel)
set_option maxRecDepth 20000 in
theorem gX9_alone_X9_isSaying : GoodIn wsX9_alone (wsV RX9 203 RX9 yX9_isSaying wsX9_isSaying) := goodIn_app (goodIn_of _ (by decide +kernel)) ggX9_alone_X9_isSaying
set_option maxRecDepth 20000 in
theorem ggX9_alone_X9_has : GoodIn wsX9_alone wsX9_has := goodIn_r _ [22] (by decide +kernel) (by decide +kernel)
set_option maxRecDepth 20000 in
theorem gX9_alone_X9_has : GoodIn wsX9_alone (va_wsS RX9 136 yX9_has wsX9_has) := goodIn_app (goodIn_of _ (by decide +kernel)) ggX9_alone_X9_has
set_option maxRecDepth 20000 in
theorem ggX9_alone_X9_drawsOf : GoodIn wsX9_alone wsX9_drawsOf := goodIn_r _ [26, 3, 4, 27, 31, 32, 33, 34, 35, 36, 37, 38, 39, 40, 41, 42, 43, 44, 45, 46, 47, 48, 49, 50, 51, 52, 53, 54, 55, 56, 57, 58, 59, 60, 61, 62, 63, 64, 65, 66, 67, 68] (by decide +kernel) (by decide +kernel)
set_option maxRecDepth 20000 in
theorem gX9_alone_X9_drawsOf : GoodIn wsX9_alone (wsV RX9 225 RX9 yX9_drawsOf wsX9_drawsOf) := goodIn_app (goodIn_of _ (by decide +kernel)) ggX9_alone_X9_drawsOf
set_option maxRecDepth 20000 in
theorem ggX9_alone_X9_filled : GoodIn wsX9_alone wsX9_filled := goodIn_r _ [30] (by decide +kernel) (by decide +kernel)
set_option maxRecDepth 20000 in
theorem gX9_alone_X9_filled : GoodIn wsX9_alone (va_wsS RX9 242 yX9_filled wsX9_filled) := goodIn_app (goodIn_of _ (by decide +kernel)) ggX9_alone_X9_filled
theorem dX9_alone_0 : decode cX9_alone 0 = .ok (.aload_n 0, 1) := by decide +kernel
theorem dX9_alone_1 : decode cX9_alone 1 = .ok (.iload_n 1, 1) := by decide +kernel
theorem dX9_alone_2 : decode cX9_alone 2 = .ok (.invokevirtual 213, 3) := by decide +kernel
theorem dX9_alone_5 : decode cX9_alone 5 = .ok (.ifCond .eq 11, 3) := by decide +kernel
theorem dX9_alone_8 : decode cX9_alone 8 = .ok (.aload_n 0, 1) := by decide +kernel
theorem dX9_alone_9 : decode cX9_alone 9 = .ok (.iload_n 2, 1) := by decide +kernel
theorem dX9_alone_10 : decode cX9_alone 10 = .ok (.invokevirtual 203, 3) := by decide +kernel
theorem dX9_alone_13 : decode cX9_alone 13 = .ok (.ifCond .ne 6, 3) := by decide +kernel
theorem dX9_alone_16 : decode cX9_alone 16 = .ok (.ldc 206, 2) := by decide +kernel
theorem dX9_alone_18 : decode cX9_alone 18 = .ok (.ireturn, 1) := by decide +kernel
theorem dX9_alone_19 : decode cX9_alone 19 = .ok (.aload_n 0, 1) := by decide +kernel
theorem dX9_alone_20 : decode cX9_alone 20 = .ok (.getfield 25, 3) := by decide +kernel
theorem dX9_alone_23 : decode cX9_alone 23 = .ok (.bipush 10, 2) := by decide +kernel
theorem dX9_alone_25 : decode cX9_alone 25 = .ok (.iaload, 1) := by decide +kernel
theorem dX9_alone_26 : decode cX9_alone 26 = .ok (.aload_n 0, 1) := by decide +kernel
theorem dX9_alone_27 : decode cX9_alone 27 = .ok (.getfield 25, 3) := by decide +kernel
theorem dX9_alone_30 : decode cX9_alone 30 = .ok (.bipush 11, 2) := by decide +kernel
theorem dX9_alone_32 : decode cX9_alone 32 = .ok (.iaload, 1) := by decide +kernel
theorem dX9_alone_33 : decode cX9_alone 33 = .ok (.ior, 1) := by decide +kernel
theorem dX9_alone_34 : decode cX9_alone 34 = .ok (.iload_n 2, 1) := by decide +kernel
theorem dX9_alone_35 : decode cX9_alone 35 = .ok (.invokestatic 136, 3) := by decide +kernel
theorem dX9_alone_38 : decode cX9_alone 38 = .ok (.ifCond .eq 5, 3) := by decide +kernel
theorem dX9_alone_41 : decode cX9_alone 41 = .ok (.iconst (-1), 1) := by decide +kernel
theorem dX9_alone_42 : decode cX9_alone 42 = .ok (.ireturn, 1) := by decide +kernel
theorem dX9_alone_43 : decode cX9_alone 43 = .ok (.aload_n 0, 1) := by decide +kernel
theorem dX9_alone_44 : decode cX9_alone 44 = .ok (.getfield 25, 3) := by decide +kernel
theorem dX9_alone_47 : decode cX9_alone 47 = .ok (.bipush 12, 2) := by decide +kernel
theorem dX9_alone_49 : decode cX9_alone 49 = .ok (.iaload, 1) := by decide +kernel
theorem dX9_alone_50 : decode cX9_alone 50 = .ok (.istore_n 3, 1) := by decide +kernel
theorem dX9_alone_51 : decode cX9_alone 51 = .ok (.aload_n 0, 1) := by decide +kernel
theorem dX9_alone_52 : decode cX9_alone 52 = .ok (.getfield 25, 3) := by decide +kernel
theorem dX9_alone_55 : decode cX9_alone 55 = .ok (.bipush 13, 2) := by decide +kernel
theorem dX9_alone_57 : decode cX9_alone 57 = .ok (.iaload, 1) := by decide +kernel
theorem dX9_alone_58 : decode cX9_alone 58 = .ok (.istore 4, 2) := by decide +kernel
theorem dX9_alone_60 : decode cX9_alone 60 = .ok (.aload_n 0, 1) := by decide +kernel
theorem dX9_alone_61 : decode cX9_alone 61 = .ok (.getfield 25, 3) := by decide +kernel
theorem dX9_alone_64 : decode cX9_alone 64 = .ok (.iload_n 2, 1) := by decide +kernel
theorem dX9_alone_65 : decode cX9_alone 65 = .ok (.iaload, 1) := by decide +kernel
theorem dX9_alone_66 : decode cX9_alone 66 = .ok (.istore 5, 2) := by decide +kernel
theorem dX9_alone_68 : decode cX9_alone 68 = .ok (.aload_n 0, 1) := by decide +kernel
theorem dX9_alone_69 : decode cX9_alone 69 = .ok (.getfield 13, 3) := by decide +kernel
theorem dX9_alone_72 : decode cX9_alone 72 = .ok (.iload_n 2, 1) := by decide +kernel
theorem dX9_alone_73 : decode cX9_alone 73 = .ok (.iaload, 1) := by decide +kernel
theorem dX9_alone_74 : decode cX9_alone 74 = .ok (.iload_n 1, 1) := by decide +kernel
theorem dX9_alone_75 : decode cX9_alone 75 = .ok (.if_icmp .ne 7, 3) := by decide +kernel
theorem dX9_alone_78 : decode cX9_alone 78 = .ok (.iconst 1, 1) := by decide +kernel
theorem dX9_alone_79 : decode cX9_alone 79 = .ok (.goto 4, 3) := by decide +kernel
theorem dX9_alone_82 : decode cX9_alone 82 = .ok (.iconst 2, 1) := by decide +kernel
theorem dX9_alone_83 : decode cX9_alone 83 = .ok (.istore 6, 2) := by decide +kernel
theorem dX9_alone_85 : decode cX9_alone 85 = .ok (.iconst 0, 1) := by decide +kernel
theorem dX9_alone_86 : decode cX9_alone 86 = .ok (.istore 7, 2) := by decide +kernel
theorem dX9_alone_88 : decode cX9_alone 88 = .ok (.iload 7, 2) := by decide +kernel
theorem dX9_alone_90 : decode cX9_alone 90 = .ok (.bipush 60, 2) := by decide +kernel
theorem dX9_alone_92 : decode cX9_alone 92 = .ok (.if_icmp .gt 86, 3) := by decide +kernel
theorem dX9_alone_95 : decode cX9_alone 95 = .ok (.aload_n 0, 1) := by decide +kernel
theorem dX9_alone_96 : decode cX9_alone 96 = .ok (.iload_n 1, 1) := by decide +kernel
theorem dX9_alone_97 : decode cX9_alone 97 = .ok (.iload_n 2, 1) := by decide +kernel
theorem dX9_alone_98 : decode cX9_alone 98 = .ok (.iload 5, 2) := by decide +kernel
theorem dX9_alone_100 : decode cX9_alone 100 = .ok (.iload_n 3, 1) := by decide +kernel
theorem dX9_alone_101 : decode cX9_alone 101 = .ok (.invokevirtual 225, 3) := by decide +kernel
theorem dX9_alone_104 : decode cX9_alone 104 = .ok (.istore 8, 2) := by decide +kernel
theorem dX9_alone_106 : decode cX9_alone 106 = .ok (.iload 8, 2) := by decide +kernel
theorem dX9_alone_108 : decode cX9_alone 108 = .ok (.ifCond .le 32, 3) := by decide +kernel
theorem dX9_alone_111 : decode cX9_alone 111 = .ok (.iload_n 3, 1) := by decide +kernel
theorem dX9_alone_112 : decode cX9_alone 112 = .ok (.iload 8, 2) := by decide +kernel
theorem dX9_alone_114 : decode cX9_alone 114 = .ok (.isub, 1) := by decide +kernel
theorem dX9_alone_115 : decode cX9_alone 115 = .ok (.istore_n 3, 1) := by decide +kernel
theorem dX9_alone_116 : decode cX9_alone 116 = .ok (.iload 5, 2) := by decide +kernel
theorem dX9_alone_118 : decode cX9_alone 118 = .ok (.iload 8, 2) := by decide +kernel
theorem dX9_alone_120 : decode cX9_alone 120 = .ok (.iload 6, 2) := by decide +kernel
theorem dX9_alone_122 : decode cX9_alone 122 = .ok (.idiv, 1) := by decide +kernel
theorem dX9_alone_123 : decode cX9_alone 123 = .ok (.iadd, 1) := by decide +kernel
theorem dX9_alone_124 : decode cX9_alone 124 = .ok (.istore 5, 2) := by decide +kernel
theorem dX9_alone_126 : decode cX9_alone 126 = .ok (.aload_n 0, 1) := by decide +kernel
theorem dX9_alone_127 : decode cX9_alone 127 = .ok (.iload_n 1, 1) := by decide +kernel
theorem dX9_alone_128 : decode cX9_alone 128 = .ok (.iload_n 2, 1) := by decide +kernel
theorem dX9_alone_129 : decode cX9_alone 129 = .ok (.iload 5, 2) := by decide +kernel
theorem dX9_alone_131 : decode cX9_alone 131 = .ok (.iload_n 3, 1) := by decide +kernel
theorem dX9_alone_132 : decode cX9_alone 132 = .ok (.invokevirtual 225, 3) := by decide +kernel
theorem dX9_alone_135 : decode cX9_alone 135 = .ok (.istore 8, 2) := by decide +kernel
theorem dX9_alone_137 : decode cX9_alone 137 = .ok (.goto (-31), 3) := by decide +kernel
theorem dX9_alone_140 : decode cX9_alone 140 = .ok (.iload 5, 2) := by decide +kernel
theorem dX9_alone_142 : decode cX9_alone 142 = .ok (.aload_n 0, 1) := by decide +kernel
theorem dX9_alone_143 : decode cX9_alone 143 = .ok (.getfield 16, 3) := by decide +kernel
theorem dX9_alone_146 : decode cX9_alone 146 = .ok (.iload_n 2, 1) := by decide +kernel
theorem dX9_alone_147 : decode cX9_alone 147 = .ok (.iaload, 1) := by decide +kernel
theorem dX9_alone_148 : decode cX9_alone 148 = .ok (.if_icmp .ne 6, 3) := by decide +kernel
theorem dX9_alone_151 : decode cX9_alone 151 = .ok (.iload 7, 2) := by decide +kernel
theorem dX9_alone_153 : decode cX9_alone 153 = .ok (.ireturn, 1) := by decide +kernel
theorem dX9_alone_154 : decode cX9_alone 154 = .ok (.iload_n 3, 1) := by decide +kernel
theorem dX9_alone_155 : decode cX9_alone 155 = .ok (.aload_n 0, 1) := by decide +kernel
theorem dX9_alone_156 : decode cX9_alone 156 = .ok (.getfield 159, 3) := by decide +kernel
theorem dX9_alone_159 : decode cX9_alone 159 = .ok (.iload 4, 2) := by decide +kernel
theorem dX9_alone_161 : decode cX9_alone 161 = .ok (.iadd, 1) := by decide +kernel
theorem dX9_alone_162 : decode cX9_alone 162 = .ok (.invokestatic 242, 3) := by decide +kernel
theorem dX9_alone_165 : decode cX9_alone 165 = .ok (.istore_n 3, 1) := by decide +kernel
theorem dX9_alone_166 : decode cX9_alone 166 = .ok (.iload 4, 2) := by decide +kernel
theorem dX9_alone_168 : decode cX9_alone 168 = .ok (.iconst 2, 1) := by decide +kernel
theorem dX9_alone_169 : decode cX9_alone 169 = .ok (.idiv, 1) := by decide +kernel
theorem dX9_alone_170 : decode cX9_alone 170 = .ok (.istore 4, 2) := by decide +kernel
theorem dX9_alone_172 : decode cX9_alone 172 = .ok (.iinc 7 1, 3) := by decide +kernel
theorem dX9_alone_175 : decode cX9_alone 175 = .ok (.goto (-87), 3) := by decide +kernel
theorem dX9_alone_178 : decode cX9_alone 178 = .ok (.iconst (-1), 1) := by decide +kernel
theorem dX9_alone_179 : decode cX9_alone 179 = .ok (.ireturn, 1) := by decide +kernel
set_option maxRecDepth 20000 in
theorem ggX9_weightOf_X9_has : GoodIn wsX9_weightOf wsX9_has := goodIn_r _ [6] (by decide +kernel) (by decide +kernel)
set_option maxRecDepth 20000 in
theorem gX9_weightOf_X9_has : GoodIn wsX9_weightOf (va_wsS RX9 136 yX9_has wsX9_has) := goodIn_app (goodIn_of _ (by decide +kernel)) ggX9_weightOf_X9_has
theorem dX9_weightOf_0 : decode cX9_weightOf 0 = .ok (.iconst 0, 1) := by decide +kernel
theorem dX9_weightOf_1 : decode cX9_weightOf 1 = .ok (.istore_n 2, 1) := by decide +kernel
theorem dX9_weightOf_2 : decode cX9_weightOf 2 = .ok (.iconst 0, 1) := by decide +kernel
theorem dX9_weightOf_3 : decode cX9_weightOf 3 = .ok (.istore_n 3, 1) := by decide +kernel
theorem dX9_weightOf_4 : decode cX9_weightOf 4 = .ok (.iload_n 3, 1) := by decide +kernel
theorem dX9_weightOf_5 : decode cX9_weightOf 5 = .ok (.aload_n 0, 1) := by decide +kernel
theorem dX9_weightOf_6 : decode cX9_weightOf 6 = .ok (.getfield 80, 3) := by decide +kernel
theorem dX9_weightOf_9 : decode cX9_weightOf 9 = .ok (.if_icmp .ge 30, 3) := by decide +kernel
theorem dX9_weightOf_12 : decode cX9_weightOf 12 = .ok (.iload_n 2, 1) := by decide +kernel
theorem dX9_weightOf_13 : decode cX9_weightOf 13 = .ok (.iload_n 1, 1) := by decide +kernel
theorem dX9_weightOf_14 : decode cX9_weightOf 14 = .ok (.iload_n 3, 1) := by decide +kernel
theorem dX9_weightOf_15 : decode cX9_weightOf 15 = .ok (.invokestatic 136, 3) := by decide +kernel
theorem dX9_weightOf_18 : decode cX9_weightOf 18 = .ok (.ifCond .eq 12, 3) := by decide +kernel
theorem dX9_weightOf_21 : decode cX9_weightOf 21 = .ok (.aload_n 0, 1) := by decide +kernel
theorem dX9_weightOf_22 : decode cX9_weightOf 22 = .ok (.getfield 16, 3) := by decide +kernel
theorem dX9_weightOf_25 : decode cX9_weightOf 25 = .ok (.iload_n 3, 1) := by decide +kernel
theorem dX9_weightOf_26 : decode cX9_weightOf 26 = .ok (.iaload, 1) := by decide +kernel
theorem dX9_weightOf_27 : decode cX9_weightOf 27 = .ok (.goto 4, 3) := by decide +kernel
theorem dX9_weightOf_30 : decode cX9_weightOf 30 = .ok (.iconst 0, 1) := by decide +kernel
theorem dX9_weightOf_31 : decode cX9_weightOf 31 = .ok (.iadd, 1) := by decide +kernel
theorem dX9_weightOf_32 : decode cX9_weightOf 32 = .ok (.istore_n 2, 1) := by decide +kernel
theorem dX9_weightOf_33 : decode cX9_weightOf 33 = .ok (.iinc 3 1, 3) := by decide +kernel
theorem dX9_weightOf_36 : decode cX9_weightOf 36 = .ok (.goto (-32), 3) := by decide +kernel
theorem dX9_weightOf_39 : decode cX9_weightOf 39 = .ok (.iload_n 2, 1) := by decide +kernel
theorem dX9_weightOf_40 : decode cX9_weightOf 40 = .ok (.ireturn, 1) := by decide +kernel
set_option maxRecDepth 20000 in
theorem ggX9_couldBe_X9_weightOf : GoodIn wsX9_couldBe wsX9_weightOf := goodIn_r _ [5, 6, 7, 8, 9, 4, 10, 16, 17, 18, 19, 20, 21, 22, 23, 24, 25, 26, 27, 28, 29, 30, 31, 32, 33, 34, 35, 36, 37, 38, 39, 40, 41, 42, 43, 44, 45, 46, 47, 48, 49, 50, 51, 52, 53] (by decide +kernel) (by decide +kernel)
set_option maxRecDepth 20000 in
theorem gX9_couldBe_X9_weightOf : GoodIn wsX9_couldBe (wsV RX9 286 RX9 yX9_weightOf wsX9_weightOf) := goodIn_app (goodIn_of _ (by decide +kernel)) ggX9_couldBe_X9_weightOf
set_option maxRecDepth 20000 in
theorem ggX9_couldBe_X9_holdsBut : GoodIn wsX9_couldBe wsX9_holdsBut := goodIn_r _ [14, 6, 15, 8, 9, 4, 10, 16, 17, 18, 19, 20, 21, 22, 23, 24, 25, 26, 27, 28, 29, 30, 31, 32, 33, 34, 35, 36, 37, 38, 39, 40, 41, 42, 43, 44, 45, 46, 47, 48, 49, 50, 51, 52, 53] (by decide +kernel) (by decide +kernel)
set_option maxRecDepth 20000 in
theorem gX9_couldBe_X9_holdsBut : GoodIn wsX9_couldBe (wsV RX9 181 RX9 yX9_holdsBut wsX9_holdsBut) := goodIn_app (goodIn_of _ (by decide +kernel)) ggX9_couldBe_X9_holdsBut
theorem dX9_couldBe_0 : decode cX9_couldBe 0 = .ok (.aload_n 0, 1) := by decide +kernel
theorem dX9_couldBe_1 : decode cX9_couldBe 1 = .ok (.iload_n 1, 1) := by decide +kernel
theorem dX9_couldBe_2 : decode cX9_couldBe 2 = .ok (.invokevirtual 286, 3) := by decide +kernel
theorem dX9_couldBe_5 : decode cX9_couldBe 5 = .ok (.iload_n 3, 1) := by decide +kernel
theorem dX9_couldBe_6 : decode cX9_couldBe 6 = .ok (.if_icmp .ne 16, 3) := by decide +kernel
theorem dX9_couldBe_9 : decode cX9_couldBe 9 = .ok (.aload_n 0, 1) := by decide +kernel
theorem dX9_couldBe_10 : decode cX9_couldBe 10 = .ok (.iload_n 1, 1) := by decide +kernel
theorem dX9_couldBe_11 : decode cX9_couldBe 11 = .ok (.invokevirtual 181, 3) := by decide +kernel
theorem dX9_couldBe_14 : decode cX9_couldBe 14 = .ok (.iload_n 2, 1) := by decide +kernel
theorem dX9_couldBe_15 : decode cX9_couldBe 15 = .ok (.if_icmp .ne 7, 3) := by decide +kernel
theorem dX9_couldBe_18 : decode cX9_couldBe 18 = .ok (.iconst 1, 1) := by decide +kernel
theorem dX9_couldBe_19 : decode cX9_couldBe 19 = .ok (.goto 4, 3) := by decide +kernel
theorem dX9_couldBe_22 : decode cX9_couldBe 22 = .ok (.iconst 0, 1) := by decide +kernel
theorem dX9_couldBe_23 : decode cX9_couldBe 23 = .ok (.ireturn, 1) := by decide +kernel
set_option maxRecDepth 20000 in
theorem ggX9_manyWith_X9_couldBe : GoodIn wsX9_manyWith wsX9_couldBe := goodIn_r _ [6, 7, 8, 9, 5, 10, 1, 11, 12, 13, 14, 15, 16, 17, 18, 19, 20, 21, 22, 23, 24, 25, 26, 27, 28, 29, 30, 31, 32, 33, 34, 35, 36, 37, 38, 39, 40, 41, 42, 43, 44, 45, 46, 47, 48, 49, 50, 51, 52, 53, 54, 55, 56, 57] (by decide +kernel) (by decide +kernel)
set_option maxRecDepth 20000 in
theorem gX9_manyWith_X9_couldBe : GoodIn wsX9_manyWith (wsV RX9 289 RX9 yX9_couldBe wsX9_couldBe) := goodIn_app (goodIn_of _ (by decide +kernel)) ggX9_manyWith_X9_couldBe
theorem dX9_manyWith_0 : decode cX9_manyWith 0 = .ok (.iconst 0, 1) := by decide +kernel
theorem dX9_manyWith_1 : decode cX9_manyWith 1 = .ok (.istore 4, 2) := by decide +kernel
theorem dX9_manyWith_3 : decode cX9_manyWith 3 = .ok (.iconst 0, 1) := by decide +kernel
theorem dX9_manyWith_4 : decode cX9_manyWith 4 = .ok (.istore 5, 2) := by decide +kernel
theorem dX9_manyWith_6 : decode cX9_manyWith 6 = .ok (.iload 5, 2) := by decide +kernel
theorem dX9_manyWith_8 : decode cX9_manyWith 8 = .ok (.iconst 1, 1) := by decide +kernel
theorem dX9_manyWith_9 : decode cX9_manyWith 9 = .ok (.aload_n 0, 1) := by decide +kernel
theorem dX9_manyWith_10 : decode cX9_manyWith 10 = .ok (.getfield 80, 3) := by decide +kernel
theorem dX9_manyWith_13 : decode cX9_manyWith 13 = .ok (.ishl, 1) := by decide +kernel
theorem dX9_manyWith_14 : decode cX9_manyWith 14 = .ok (.if_icmp .ge 38, 3) := by decide +kernel
theorem dX9_manyWith_17 : decode cX9_manyWith 17 = .ok (.iload 4, 2) := by decide +kernel
theorem dX9_manyWith_19 : decode cX9_manyWith 19 = .ok (.iload 5, 2) := by decide +kernel
theorem dX9_manyWith_21 : decode cX9_manyWith 21 = .ok (.iload_n 3, 1) := by decide +kernel
theorem dX9_manyWith_22 : decode cX9_manyWith 22 = .ok (.iand, 1) := by decide +kernel
theorem dX9_manyWith_23 : decode cX9_manyWith 23 = .ok (.iload_n 3, 1) := by decide +kernel
theorem dX9_manyWith_24 : decode cX9_manyWith 24 = .ok (.if_icmp .ne 18, 3) := by decide +kernel
theorem dX9_manyWith_27 : decode cX9_manyWith 27 = .ok (.aload_n 0, 1) := by decide +kernel
theorem dX9_manyWith_28 : decode cX9_manyWith 28 = .ok (.iload 5, 2) := by decide +kernel
theorem dX9_manyWith_30 : decode cX9_manyWith 30 = .ok (.iload_n 1, 1) := by decide +kernel
theorem dX9_manyWith_31 : decode cX9_manyWith 31 = .ok (.iload_n 2, 1) := by decide +kernel
theorem dX9_manyWith_32 : decode cX9_manyWith 32 = .ok (.invokevirtual 289, 3) := by decide +kernel
theorem dX9_manyWith_35 : decode cX9_manyWith 35 = .ok (.ifCond .eq 7, 3) := by decide +kernel
theorem dX9_manyWith_38 : decode cX9_manyWith 38 = .ok (.iconst 1, 1) := by decide +kernel
theorem dX9_manyWith_39 : decode cX9_manyWith 39 = .ok (.goto 4, 3) := by decide +kernel
theorem dX9_manyWith_42 : decode cX9_manyWith 42 = .ok (.iconst 0, 1) := by decide +kernel
theorem dX9_manyWith_43 : decode cX9_manyWith 43 = .ok (.iadd, 1) := by decide +kernel
theorem dX9_manyWith_44 : decode cX9_manyWith 44 = .ok (.istore 4, 2) := by decide +kernel
theorem dX9_manyWith_46 : decode cX9_manyWith 46 = .ok (.iinc 5 1, 3) := by decide +kernel
theorem dX9_manyWith_49 : decode cX9_manyWith 49 = .ok (.goto (-43), 3) := by decide +kernel
theorem dX9_manyWith_52 : decode cX9_manyWith 52 = .ok (.iload 4, 2) := by decide +kernel
theorem dX9_manyWith_54 : decode cX9_manyWith 54 = .ok (.ireturn, 1) := by decide +kernel
set_option maxRecDepth 20000 in
theorem ggX9_inEach_X9_couldBe : GoodIn wsX9_inEach wsX9_couldBe := goodIn_r _ [6, 7, 8, 9, 5, 10, 1, 11, 12, 13, 14, 15, 16, 17, 18, 19, 20, 21, 22, 23, 24, 25, 26, 27, 28, 29, 30, 31, 32, 33, 34, 35, 36, 37, 38, 39, 40, 41, 42, 43, 44, 45, 46, 47, 48, 49, 50, 51, 52, 53, 54, 55, 56, 57] (by decide +kernel) (by decide +kernel)
set_option maxRecDepth 20000 in
theorem gX9_inEach_X9_couldBe : GoodIn wsX9_inEach (wsV RX9 289 RX9 yX9_couldBe wsX9_couldBe) := goodIn_app (goodIn_of _ (by decide +kernel)) ggX9_inEach_X9_couldBe
theorem dX9_inEach_0 : decode cX9_inEach 0 = .ok (.iconst (-1), 1) := by decide +kernel
theorem dX9_inEach_1 : decode cX9_inEach 1 = .ok (.istore_n 3, 1) := by decide +kernel
theorem dX9_inEach_2 : decode cX9_inEach 2 = .ok (.iconst 0, 1) := by decide +kernel
theorem dX9_inEach_3 : decode cX9_inEach 3 = .ok (.istore 4, 2) := by decide +kernel
theorem dX9_inEach_5 : decode cX9_inEach 5 = .ok (.iload 4, 2) := by decide +kernel
theorem dX9_inEach_7 : decode cX9_inEach 7 = .ok (.iconst 1, 1) := by decide +kernel
theorem dX9_inEach_8 : decode cX9_inEach 8 = .ok (.aload_n 0, 1) := by decide +kernel
theorem dX9_inEach_9 : decode cX9_inEach 9 = .ok (.getfield 80, 3) := by decide +kernel
theorem dX9_inEach_12 : decode cX9_inEach 12 = .ok (.ishl, 1) := by decide +kernel
theorem dX9_inEach_13 : decode cX9_inEach 13 = .ok (.if_icmp .ge 42, 3) := by decide +kernel
theorem dX9_inEach_16 : decode cX9_inEach 16 = .ok (.aload_n 0, 1) := by decide +kernel
theorem dX9_inEach_17 : decode cX9_inEach 17 = .ok (.iload 4, 2) := by decide +kernel
theorem dX9_inEach_19 : decode cX9_inEach 19 = .ok (.iload_n 1, 1) := by decide +kernel
theorem dX9_inEach_20 : decode cX9_inEach 20 = .ok (.iload_n 2, 1) := by decide +kernel
theorem dX9_inEach_21 : decode cX9_inEach 21 = .ok (.invokevirtual 289, 3) := by decide +kernel
theorem dX9_inEach_24 : decode cX9_inEach 24 = .ok (.istore 5, 2) := by decide +kernel
theorem dX9_inEach_26 : decode cX9_inEach 26 = .ok (.iload 5, 2) := by decide +kernel
theorem dX9_inEach_28 : decode cX9_inEach 28 = .ok (.ifCond .eq 19, 3) := by decide +kernel
theorem dX9_inEach_31 : decode cX9_inEach 31 = .ok (.iload_n 3, 1) := by decide +kernel
theorem dX9_inEach_32 : decode cX9_inEach 32 = .ok (.ifCond .ge 8, 3) := by decide +kernel
theorem dX9_inEach_35 : decode cX9_inEach 35 = .ok (.iload 4, 2) := by decide +kernel
theorem dX9_inEach_37 : decode cX9_inEach 37 = .ok (.goto 11, 3) := by decide +kernel
theorem dX9_inEach_40 : decode cX9_inEach 40 = .ok (.iload_n 3, 1) := by decide +kernel
theorem dX9_inEach_41 : decode cX9_inEach 41 = .ok (.iload 4, 2) := by decide +kernel
theorem dX9_inEach_43 : decode cX9_inEach 43 = .ok (.iand, 1) := by decide +kernel
theorem dX9_inEach_44 : decode cX9_inEach 44 = .ok (.goto 4, 3) := by decide +kernel
theorem dX9_inEach_47 : decode cX9_inEach 47 = .ok (.iload_n 3, 1) := by decide +kernel
theorem dX9_inEach_48 : decode cX9_inEach 48 = .ok (.istore_n 3, 1) := by decide +kernel
theorem dX9_inEach_49 : decode cX9_inEach 49 = .ok (.iinc 4 1, 3) := by decide +kernel
theorem dX9_inEach_52 : decode cX9_inEach 52 = .ok (.goto (-47), 3) := by decide +kernel
theorem dX9_inEach_55 : decode cX9_inEach 55 = .ok (.iload_n 3, 1) := by decide +kernel
theorem dX9_inEach_56 : decode cX9_inEach 56 = .ok (.ireturn, 1) := by decide +kernel
set_option maxRecDepth 20000 in
theorem ggX9_frog_X9_manyWith : GoodIn wsX9_frog wsX9_manyWith := goodIn_r _ [6, 1, 7, 8, 9, 5, 10, 11, 12, 13, 14, 15, 16, 17, 18, 19, 20, 21, 22, 23, 24, 25, 26, 27, 28, 29, 30, 31, 32, 33, 34, 35, 36, 37, 38, 39, 40, 41, 42, 43, 44, 45, 46, 47, 48, 49, 50, 51, 52, 53, 54, 55, 56, 57, 58, 59, 60, 61] (by decide +kernel) (by decide +kernel)
set_option maxRecDepth 20000 in
theorem gX9_frog_X9_manyWith : GoodIn wsX9_frog (wsV RX9 293 RX9 yX9_manyWith wsX9_manyWith) := goodIn_app (goodIn_of _ (by decide +kernel)) ggX9_frog_X9_manyWith
theorem dX9_frog_0 : decode cX9_frog 0 = .ok (.aload_n 0, 1) := by decide +kernel
theorem dX9_frog_1 : decode cX9_frog 1 = .ok (.iload_n 1, 1) := by decide +kernel
theorem dX9_frog_2 : decode cX9_frog 2 = .ok (.iload_n 2, 1) := by decide +kernel
theorem dX9_frog_3 : decode cX9_frog 3 = .ok (.iconst 0, 1) := by decide +kernel
theorem dX9_frog_4 : decode cX9_frog 4 = .ok (.invokevirtual 293, 3) := by decide +kernel
theorem dX9_frog_7 : decode cX9_frog 7 = .ok (.istore_n 3, 1) := by decide +kernel
theorem dX9_frog_8 : decode cX9_frog 8 = .ok (.iconst (-1), 1) := by decide +kernel
theorem dX9_frog_9 : decode cX9_frog 9 = .ok (.istore 4, 2) := by decide +kernel
theorem dX9_frog_11 : decode cX9_frog 11 = .ok (.iload_n 3, 1) := by decide +kernel
theorem dX9_frog_12 : decode cX9_frog 12 = .ok (.istore 5, 2) := by decide +kernel
theorem dX9_frog_14 : decode cX9_frog 14 = .ok (.iconst 0, 1) := by decide +kernel
theorem dX9_frog_15 : decode cX9_frog 15 = .ok (.istore 6, 2) := by decide +kernel
theorem dX9_frog_17 : decode cX9_frog 17 = .ok (.iload 6, 2) := by decide +kernel
theorem dX9_frog_19 : decode cX9_frog 19 = .ok (.aload_n 0, 1) := by decide +kernel
theorem dX9_frog_20 : decode cX9_frog 20 = .ok (.getfield 80, 3) := by decide +kernel
theorem dX9_frog_23 : decode cX9_frog 23 = .ok (.if_icmp .ge 73, 3) := by decide +kernel
theorem dX9_frog_26 : decode cX9_frog 26 = .ok (.aload_n 0, 1) := by decide +kernel
theorem dX9_frog_27 : decode cX9_frog 27 = .ok (.iload_n 1, 1) := by decide +kernel
theorem dX9_frog_28 : decode cX9_frog 28 = .ok (.iload_n 2, 1) := by decide +kernel
theorem dX9_frog_29 : decode cX9_frog 29 = .ok (.iconst 1, 1) := by decide +kernel
theorem dX9_frog_30 : decode cX9_frog 30 = .ok (.iload 6, 2) := by decide +kernel
theorem dX9_frog_32 : decode cX9_frog 32 = .ok (.ishl, 1) := by decide +kernel
theorem dX9_frog_33 : decode cX9_frog 33 = .ok (.invokevirtual 293, 3) := by decide +kernel
theorem dX9_frog_36 : decode cX9_frog 36 = .ok (.istore 7, 2) := by decide +kernel
theorem dX9_frog_38 : decode cX9_frog 38 = .ok (.iload 7, 2) := by decide +kernel
theorem dX9_frog_40 : decode cX9_frog 40 = .ok (.iload_n 3, 1) := by decide +kernel
theorem dX9_frog_41 : decode cX9_frog 41 = .ok (.iload 7, 2) := by decide +kernel
theorem dX9_frog_43 : decode cX9_frog 43 = .ok (.isub, 1) := by decide +kernel
theorem dX9_frog_44 : decode cX9_frog 44 = .ok (.if_icmp .le 8, 3) := by decide +kernel
theorem dX9_frog_47 : decode cX9_frog 47 = .ok (.iload 7, 2) := by decide +kernel
theorem dX9_frog_49 : decode cX9_frog 49 = .ok (.goto 7, 3) := by decide +kernel
theorem dX9_frog_52 : decode cX9_frog 52 = .ok (.iload_n 3, 1) := by decide +kernel
theorem dX9_frog_53 : decode cX9_frog 53 = .ok (.iload 7, 2) := by decide +kernel
theorem dX9_frog_55 : decode cX9_frog 55 = .ok (.isub, 1) := by decide +kernel
theorem dX9_frog_56 : decode cX9_frog 56 = .ok (.istore 8, 2) := by decide +kernel
theorem dX9_frog_58 : decode cX9_frog 58 = .ok (.iload 8, 2) := by decide +kernel
theorem dX9_frog_60 : decode cX9_frog 60 = .ok (.iload 5, 2) := by decide +kernel
theorem dX9_frog_62 : decode cX9_frog 62 = .ok (.if_icmp .ge 8, 3) := by decide +kernel
theorem dX9_frog_65 : decode cX9_frog 65 = .ok (.iload 6, 2) := by decide +kernel
theorem dX9_frog_67 : decode cX9_frog 67 = .ok (.goto 5, 3) := by decide +kernel
theorem dX9_frog_70 : decode cX9_frog 70 = .ok (.iload 4, 2) := by decide +kernel
theorem dX9_frog_72 : decode cX9_frog 72 = .ok (.istore 4, 2) := by decide +kernel
theorem dX9_frog_74 : decode cX9_frog 74 = .ok (.iload 8, 2) := by decide +kernel
theorem dX9_frog_76 : decode cX9_frog 76 = .ok (.iload 5, 2) := by decide +kernel
theorem dX9_frog_78 : decode cX9_frog 78 = .ok (.if_icmp .ge 8, 3) := by decide +kernel
theorem dX9_frog_81 : decode cX9_frog 81 = .ok (.iload 8, 2) := by decide +kernel
theorem dX9_frog_83 : decode cX9_frog 83 = .ok (.goto 5, 3) := by decide +kernel
theorem dX9_frog_86 : decode cX9_frog 86 = .ok (.iload 5, 2) := by decide +kernel
theorem dX9_frog_88 : decode cX9_frog 88 = .ok (.istore 5, 2) := by decide +kernel
theorem dX9_frog_90 : decode cX9_frog 90 = .ok (.iinc 6 1, 3) := by decide +kernel
theorem dX9_frog_93 : decode cX9_frog 93 = .ok (.goto (-76), 3) := by decide +kernel
theorem dX9_frog_96 : decode cX9_frog 96 = .ok (.iload 4, 2) := by decide +kernel
theorem dX9_frog_98 : decode cX9_frog 98 = .ok (.ireturn, 1) := by decide +kernel
set_option maxRecDepth 20000 in
theorem ggX9_wasUnsaid_X9_isSet : GoodIn wsX9_wasUnsaid wsX9_isSet := goodIn_r _ [9, 10, 11, 12, 8, 13, 43, 44, 45, 46, 47, 48, 49, 50, 51, 52, 53, 54, 55, 56, 57, 58, 59, 60, 61, 62, 63, 64, 65, 66, 67, 68, 69, 70, 71, 72, 73, 74, 75, 76, 77, 78, 79, 80] (by decide +kernel) (by decide +kernel)
set_option maxRecDepth 20000 in
theorem gX9_wasUnsaid_X9_isSet : GoodIn wsX9_wasUnsaid (wsV RX9 275 RX9 yX9_isSet wsX9_isSet) := goodIn_app (goodIn_of _ (by decide +kernel)) ggX9_wasUnsaid_X9_isSet
set_option maxRecDepth 20000 in
theorem ggX9_wasUnsaid_X9_in : GoodIn wsX9_wasUnsaid wsX9_in := goodIn_r _ [13] (by decide +kernel) (by decide +kernel)
set_option maxRecDepth 20000 in
theorem gX9_wasUnsaid_X9_in : GoodIn wsX9_wasUnsaid (va_wsS RX9 76 yX9_in wsX9_in) := goodIn_app (goodIn_of _ (by decide +kernel)) ggX9_wasUnsaid_X9_in
set_option maxRecDepth 20000 in
theorem ggX9_wasUnsaid_X9_manyWith : GoodIn wsX9_wasUnsaid wsX9_manyWith := goodIn_r _ [17, 10, 18, 19, 20, 8, 21, 22, 23, 24, 25, 26, 27, 28, 29, 30, 31, 32, 33, 34, 43, 44, 45, 46, 47, 48, 49, 50, 51, 52, 53, 54, 55, 56, 57, 58, 59, 60, 61, 62, 63, 64, 65, 66, 67, 68, 69, 70, 71, 72, 73, 74, 75, 76, 77, 78, 79, 80] (by decide +kernel) (by decide +kernel)
set_option maxRecDepth 20000 in
theorem gX9_wasUnsaid_X9_manyWith : GoodIn wsX9_wasUnsaid (wsV RX9 293 RX9 yX9_manyWith wsX9_manyWith) := goodIn_app (goodIn_of _ (by decide +kernel)) ggX9_wasUnsaid_X9_manyWith
set_option maxRecDepth 20000 in
theorem ggX9_wasUnsaid_X9_inEach : GoodIn wsX9_wasUnsaid wsX9_inEach := goodIn_r _ [38, 10, 18, 19, 20, 8, 21, 22, 23, 24, 25, 26, 27, 28, 29, 30, 31, 32, 33, 34, 43, 44, 45, 46, 47, 48, 49, 50, 51, 52, 53, 54, 55, 56, 57, 58, 59, 60, 61, 62, 63, 64, 65, 66, 67, 68, 69, 70, 71, 72, 73, 74, 75, 76, 77, 78, 79, 80] (by decide +kernel) (by decide +kernel)
set_option maxRecDepth 20000 in
theorem gX9_wasUnsaid_X9_inEach : GoodIn wsX9_wasUnsaid (wsV RX9 301 RX9 yX9_inEach wsX9_inEach) := goodIn_app (goodIn_of _ (by decide +kernel)) ggX9_wasUnsaid_X9_inEach
set_option maxRecDepth 20000 in
theorem ggX9_wasUnsaid_X9_frog : GoodIn wsX9_wasUnsaid wsX9_frog := goodIn_r _ [42, 10, 14, 15, 16, 8, 17, 18, 19, 20, 21, 22, 23, 24, 25, 26, 27, 28, 29, 30, 31, 32, 33, 34, 43, 44, 45, 46, 47, 48, 49, 50, 51, 52, 53, 54, 55, 56, 57, 58, 59, 60, 61, 62, 63, 64, 65, 66, 67, 68, 69, 70, 71, 72, 73, 74, 75, 76, 77, 78, 79, 80] (by decide +kernel) (by decide +kernel)
set_option maxRecDepth 20000 in
theorem gX9_wasUnsaid_X9_frog : GoodIn wsX9_wasUnsaid (wsV RX9 304 RX9 yX9_frog wsX9_frog) := goodIn_app (goodIn_of _ (by decide +kernel)) ggX9_wasUnsaid_X9_frog
theorem dX9_wasUnsaid_0 : decode cX9_wasUnsaid 0 = .ok (.aload_n 0, 1) := by decide +kernel
theorem dX9_wasUnsaid_1 : decode cX9_wasUnsaid 1 = .ok (.iload_n 1, 1) := by decide +kernel
theorem dX9_wasUnsaid_2 : decode cX9_wasUnsaid 2 = .ok (.invokevirtual 275, 3) := by decide +kernel
theorem dX9_wasUnsaid_5 : decode cX9_wasUnsaid 5 = .ok (.ifCond .ne 6, 3) := by decide +kernel
theorem dX9_wasUnsaid_8 : decode cX9_wasUnsaid 8 = .ok (.ldc 206, 2) := by decide +kernel
theorem dX9_wasUnsaid_10 : decode cX9_wasUnsaid 10 = .ok (.ireturn, 1) := by decide +kernel
theorem dX9_wasUnsaid_11 : decode cX9_wasUnsaid 11 = .ok (.iload_n 2, 1) := by decide +kernel
theorem dX9_wasUnsaid_12 : decode cX9_wasUnsaid 12 = .ok (.i2l, 1) := by decide +kernel
theorem dX9_wasUnsaid_13 : decode cX9_wasUnsaid 13 = .ok (.lconst 0, 1) := by decide +kernel
theorem dX9_wasUnsaid_14 : decode cX9_wasUnsaid 14 = .ok (.ldc2_w 297, 3) := by decide +kernel
theorem dX9_wasUnsaid_17 : decode cX9_wasUnsaid 17 = .ok (.invokestatic 76, 3) := by decide +kernel
theorem dX9_wasUnsaid_20 : decode cX9_wasUnsaid 20 = .ok (.ifCond .eq 15, 3) := by decide +kernel
theorem dX9_wasUnsaid_23 : decode cX9_wasUnsaid 23 = .ok (.iload_n 3, 1) := by decide +kernel
theorem dX9_wasUnsaid_24 : decode cX9_wasUnsaid 24 = .ok (.i2l, 1) := by decide +kernel
theorem dX9_wasUnsaid_25 : decode cX9_wasUnsaid 25 = .ok (.lconst 0, 1) := by decide +kernel
theorem dX9_wasUnsaid_26 : decode cX9_wasUnsaid 26 = .ok (.ldc2_w 299, 3) := by decide +kernel
theorem dX9_wasUnsaid_29 : decode cX9_wasUnsaid 29 = .ok (.invokestatic 76, 3) := by decide +kernel
theorem dX9_wasUnsaid_32 : decode cX9_wasUnsaid 32 = .ok (.ifCond .ne 6, 3) := by decide +kernel
theorem dX9_wasUnsaid_35 : decode cX9_wasUnsaid 35 = .ok (.ldc 85, 2) := by decide +kernel
theorem dX9_wasUnsaid_37 : decode cX9_wasUnsaid 37 = .ok (.ireturn, 1) := by decide +kernel
theorem dX9_wasUnsaid_38 : decode cX9_wasUnsaid 38 = .ok (.iload_n 3, 1) := by decide +kernel
theorem dX9_wasUnsaid_39 : decode cX9_wasUnsaid 39 = .ok (.lookupswitch 40 #[(0, 25), (1, 33)], 25) := by decide +kernel
theorem dX9_wasUnsaid_64 : decode cX9_wasUnsaid 64 = .ok (.aload_n 0, 1) := by decide +kernel
theorem dX9_wasUnsaid_65 : decode cX9_wasUnsaid 65 = .ok (.iload_n 1, 1) := by decide +kernel
theorem dX9_wasUnsaid_66 : decode cX9_wasUnsaid 66 = .ok (.iload_n 2, 1) := by decide +kernel
theorem dX9_wasUnsaid_67 : decode cX9_wasUnsaid 67 = .ok (.iconst 0, 1) := by decide +kernel
theorem dX9_wasUnsaid_68 : decode cX9_wasUnsaid 68 = .ok (.invokevirtual 293, 3) := by decide +kernel
theorem dX9_wasUnsaid_71 : decode cX9_wasUnsaid 71 = .ok (.ireturn, 1) := by decide +kernel
theorem dX9_wasUnsaid_72 : decode cX9_wasUnsaid 72 = .ok (.aload_n 0, 1) := by decide +kernel
theorem dX9_wasUnsaid_73 : decode cX9_wasUnsaid 73 = .ok (.iload_n 1, 1) := by decide +kernel
theorem dX9_wasUnsaid_74 : decode cX9_wasUnsaid 74 = .ok (.iload_n 2, 1) := by decide +kernel
theorem dX9_wasUnsaid_75 : decode cX9_wasUnsaid 75 = .ok (.invokevirtual 301, 3) := by decide +kernel
theorem dX9_wasUnsaid_78 : decode cX9_wasUnsaid 78 = .ok (.ireturn, 1) := by decide +kernel
theorem dX9_wasUnsaid_79 : decode cX9_wasUnsaid 79 = .ok (.aload_n 0, 1) := by decide +kernel
theorem dX9_wasUnsaid_80 : decode cX9_wasUnsaid 80 = .ok (.iload_n 1, 1) := by decide +kernel
theorem dX9_wasUnsaid_81 : decode cX9_wasUnsaid 81 = .ok (.iload_n 2, 1) := by decide +kernel
theorem dX9_wasUnsaid_82 : decode cX9_wasUnsaid 82 = .ok (.invokevirtual 304, 3) := by decide +kernel
theorem dX9_wasUnsaid_85 : decode cX9_wasUnsaid 85 = .ok (.ireturn, 1) := by decide +kernel
set_option maxRecDepth 20000 in
theorem ggX9_drought_X9_in : GoodIn wsX9_drought wsX9_in := goodIn_r _ [10] (by decide +kernel) (by decide +kernel)
set_option maxRecDepth 20000 in
theorem gX9_drought_X9_in : GoodIn wsX9_drought (va_wsS RX9 76 yX9_in wsX9_in) := goodIn_app (goodIn_of _ (by decide +kernel)) ggX9_drought_X9_in
set_option maxRecDepth 20000 in
theorem ggX9_drought_X9_filled : GoodIn wsX9_drought wsX9_filled := goodIn_r _ [13] (by decide +kernel) (by decide +kernel)
set_option maxRecDepth 20000 in
theorem gX9_drought_X9_filled : GoodIn wsX9_drought (va_wsS RX9 242 yX9_filled wsX9_filled) := goodIn_app (goodIn_of _ (by decide +kernel)) ggX9_drought_X9_filled
theorem dX9_drought_0 : decode cX9_drought 0 = .ok (.iload_n 1, 1) := by decide +kernel
theorem dX9_drought_1 : decode cX9_drought 1 = .ok (.i2l, 1) := by decide +kernel
theorem dX9_drought_2 : decode cX9_drought 2 = .ok (.lconst 0, 1) := by decide +kernel
theorem dX9_drought_3 : decode cX9_drought 3 = .ok (.ldc2_w 253, 3) := by decide +kernel
theorem dX9_drought_6 : decode cX9_drought 6 = .ok (.invokestatic 76, 3) := by decide +kernel
theorem dX9_drought_9 : decode cX9_drought 9 = .ok (.ifCond .ne 6, 3) := by decide +kernel
theorem dX9_drought_12 : decode cX9_drought 12 = .ok (.ldc 85, 2) := by decide +kernel
theorem dX9_drought_14 : decode cX9_drought 14 = .ok (.ireturn, 1) := by decide +kernel
theorem dX9_drought_15 : decode cX9_drought 15 = .ok (.aload_n 0, 1) := by decide +kernel
theorem dX9_drought_16 : decode cX9_drought 16 = .ok (.getfield 69, 3) := by decide +kernel
theorem dX9_drought_19 : decode cX9_drought 19 = .ok (.ifCond .ne 6, 3) := by decide +kernel
theorem dX9_drought_22 : decode cX9_drought 22 = .ok (.ldc 232, 2) := by decide +kernel
theorem dX9_drought_24 : decode cX9_drought 24 = .ok (.ireturn, 1) := by decide +kernel
theorem dX9_drought_25 : decode cX9_drought 25 = .ok (.aload_n 0, 1) := by decide +kernel
theorem dX9_drought_26 : decode cX9_drought 26 = .ok (.getfield 25, 3) := by decide +kernel
theorem dX9_drought_29 : decode cX9_drought 29 = .ok (.bipush 12, 2) := by decide +kernel
theorem dX9_drought_31 : decode cX9_drought 31 = .ok (.iaload, 1) := by decide +kernel
theorem dX9_drought_32 : decode cX9_drought 32 = .ok (.istore_n 2, 1) := by decide +kernel
theorem dX9_drought_33 : decode cX9_drought 33 = .ok (.iconst 0, 1) := by decide +kernel
theorem dX9_drought_34 : decode cX9_drought 34 = .ok (.istore_n 3, 1) := by decide +kernel
theorem dX9_drought_35 : decode cX9_drought 35 = .ok (.iload_n 3, 1) := by decide +kernel
theorem dX9_drought_36 : decode cX9_drought 36 = .ok (.bipush 99, 2) := by decide +kernel
theorem dX9_drought_38 : decode cX9_drought 38 = .ok (.if_icmp .gt 25, 3) := by decide +kernel
theorem dX9_drought_41 : decode cX9_drought 41 = .ok (.iload_n 2, 1) := by decide +kernel
theorem dX9_drought_42 : decode cX9_drought 42 = .ok (.iload_n 1, 1) := by decide +kernel
theorem dX9_drought_43 : decode cX9_drought 43 = .ok (.if_icmp .lt 5, 3) := by decide +kernel
theorem dX9_drought_46 : decode cX9_drought 46 = .ok (.iload_n 3, 1) := by decide +kernel
theorem dX9_drought_47 : decode cX9_drought 47 = .ok (.ireturn, 1) := by decide +kernel
theorem dX9_drought_48 : decode cX9_drought 48 = .ok (.iload_n 2, 1) := by decide +kernel
theorem dX9_drought_49 : decode cX9_drought 49 = .ok (.aload_n 0, 1) := by decide +kernel
theorem dX9_drought_50 : decode cX9_drought 50 = .ok (.getfield 159, 3) := by decide +kernel
theorem dX9_drought_53 : decode cX9_drought 53 = .ok (.invokestatic 242, 3) := by decide +kernel
theorem dX9_drought_56 : decode cX9_drought 56 = .ok (.istore_n 2, 1) := by decide +kernel
theorem dX9_drought_57 : decode cX9_drought 57 = .ok (.iinc 3 1, 3) := by decide +kernel
theorem dX9_drought_60 : decode cX9_drought 60 = .ok (.goto (-25), 3) := by decide +kernel
theorem dX9_drought_63 : decode cX9_drought 63 = .ok (.iconst (-1), 1) := by decide +kernel
theorem dX9_drought_64 : decode cX9_drought 64 = .ok (.ireturn, 1) := by decide +kernel
set_option maxRecDepth 20000 in
theorem ggX9_rainy_X9_in : GoodIn wsX9_rainy wsX9_in := goodIn_r _ [8] (by decide +kernel) (by decide +kernel)
set_option maxRecDepth 20000 in
theorem gX9_rainy_X9_in : GoodIn wsX9_rainy (va_wsS RX9 76 yX9_in wsX9_in) := goodIn_app (goodIn_of _ (by decide +kernel)) ggX9_rainy_X9_in
theorem dX9_rainy_0 : decode cX9_rainy 0 = .ok (.iload_n 1, 1) := by decide +kernel
theorem dX9_rainy_1 : decode cX9_rainy 1 = .ok (.i2l, 1) := by decide +kernel
theorem dX9_rainy_2 : decode cX9_rainy 2 = .ok (.lconst 0, 1) := by decide +kernel
theorem dX9_rainy_3 : decode cX9_rainy 3 = .ok (.ldc2_w 245, 3) := by decide +kernel
theorem dX9_rainy_6 : decode cX9_rainy 6 = .ok (.invokestatic 76, 3) := by decide +kernel
theorem dX9_rainy_9 : decode cX9_rainy 9 = .ok (.ifCond .eq 15, 3) := by decide +kernel
theorem dX9_rainy_12 : decode cX9_rainy 12 = .ok (.iload_n 2, 1) := by decide +kernel
theorem dX9_rainy_13 : decode cX9_rainy 13 = .ok (.i2l, 1) := by decide +kernel
theorem dX9_rainy_14 : decode cX9_rainy 14 = .ok (.lconst 0, 1) := by decide +kernel
theorem dX9_rainy_15 : decode cX9_rainy 15 = .ok (.ldc2_w 307, 3) := by decide +kernel
theorem dX9_rainy_18 : decode cX9_rainy 18 = .ok (.invokestatic 76, 3) := by decide +kernel
theorem dX9_rainy_21 : decode cX9_rainy 21 = .ok (.ifCond .ne 6, 3) := by decide +kernel
theorem dX9_rainy_24 : decode cX9_rainy 24 = .ok (.ldc 85, 2) := by decide +kernel
theorem dX9_rainy_26 : decode cX9_rainy 26 = .ok (.ireturn, 1) := by decide +kernel
theorem dX9_rainy_27 : decode cX9_rainy 27 = .ok (.ldc2_w 309, 3) := by decide +kernel
theorem dX9_rainy_30 : decode cX9_rainy 30 = .ok (.lstore_n 3, 1) := by decide +kernel
theorem dX9_rainy_31 : decode cX9_rainy 31 = .ok (.iconst 0, 1) := by decide +kernel
theorem dX9_rainy_32 : decode cX9_rainy 32 = .ok (.istore 5, 2) := by decide +kernel
theorem dX9_rainy_34 : decode cX9_rainy 34 = .ok (.iload 5, 2) := by decide +kernel
theorem dX9_rainy_36 : decode cX9_rainy 36 = .ok (.iload_n 1, 1) := by decide +kernel
theorem dX9_rainy_37 : decode cX9_rainy 37 = .ok (.if_icmp .ge 18, 3) := by decide +kernel
theorem dX9_rainy_40 : decode cX9_rainy 40 = .ok (.lload_n 3, 1) := by decide +kernel
theorem dX9_rainy_41 : decode cX9_rainy 41 = .ok (.iload_n 2, 1) := by decide +kernel
theorem dX9_rainy_42 : decode cX9_rainy 42 = .ok (.i2l, 1) := by decide +kernel
theorem dX9_rainy_43 : decode cX9_rainy 43 = .ok (.lmul, 1) := by decide +kernel
theorem dX9_rainy_44 : decode cX9_rainy 44 = .ok (.ldc2_w 307, 3) := by decide +kernel
theorem dX9_rainy_47 : decode cX9_rainy 47 = .ok (.ldiv, 1) := by decide +kernel
theorem dX9_rainy_48 : decode cX9_rainy 48 = .ok (.lstore_n 3, 1) := by decide +kernel
theorem dX9_rainy_49 : decode cX9_rainy 49 = .ok (.iinc 5 1, 3) := by decide +kernel
theorem dX9_rainy_52 : decode cX9_rainy 52 = .ok (.goto (-18), 3) := by decide +kernel
theorem dX9_rainy_55 : decode cX9_rainy 55 = .ok (.lload_n 3, 1) := by decide +kernel
theorem dX9_rainy_56 : decode cX9_rainy 56 = .ok (.l2i, 1) := by decide +kernel
theorem dX9_rainy_57 : decode cX9_rainy 57 = .ok (.ireturn, 1) := by decide +kernel
set_option maxRecDepth 20000 in
theorem ggX9_write_X9_isSaying : GoodIn wsX9_write wsX9_isSaying := goodIn_r _ [10, 11, 12, 13, 9, 14, 15, 16, 17, 18, 19, 20, 21, 22, 23, 24, 25, 26, 27, 28, 29, 30, 31, 32, 33, 34, 35, 36, 37, 38, 39, 40, 41, 42, 43, 44, 45, 46, 47, 48, 49, 50, 51, 52] (by decide +kernel) (by decide +kernel)
set_option maxRecDepth 20000 in
theorem gX9_write_X9_isSaying : GoodIn wsX9_write (wsV RX9 203 RX9 yX9_isSaying wsX9_isSaying) := goodIn_app (goodIn_of _ (by decide +kernel)) ggX9_write_X9_isSaying
theorem dX9_write_0 : decode cX9_write 0 = .ok (.aload_n 0, 1) := by decide +kernel
theorem dX9_write_1 : decode cX9_write 1 = .ok (.iload_n 1, 1) := by decide +kernel
theorem dX9_write_2 : decode cX9_write 2 = .ok (.invokevirtual 203, 3) := by decide +kernel
theorem dX9_write_5 : decode cX9_write 5 = .ok (.ifCond .ne 6, 3) := by decide +kernel
theorem dX9_write_8 : decode cX9_write 8 = .ok (.ldc 206, 2) := by decide +kernel
theorem dX9_write_10 : decode cX9_write 10 = .ok (.ireturn, 1) := by decide +kernel
theorem dX9_write_11 : decode cX9_write 11 = .ok (.aload_n 0, 1) := by decide +kernel
theorem dX9_write_12 : decode cX9_write 12 = .ok (.getfield 175, 3) := by decide +kernel
theorem dX9_write_15 : decode cX9_write 15 = .ok (.bipush 15, 2) := by decide +kernel
theorem dX9_write_17 : decode cX9_write 17 = .ok (.if_icmp .ne 6, 3) := by decide +kernel
theorem dX9_write_20 : decode cX9_write 20 = .ok (.ldc 89, 2) := by decide +kernel
theorem dX9_write_22 : decode cX9_write 22 = .ok (.ireturn, 1) := by decide +kernel
theorem dX9_write_23 : decode cX9_write 23 = .ok (.aload_n 0, 1) := by decide +kernel
theorem dX9_write_24 : decode cX9_write 24 = .ok (.getfield 56, 3) := by decide +kernel
theorem dX9_write_27 : decode cX9_write 27 = .ok (.aload_n 0, 1) := by decide +kernel
theorem dX9_write_28 : decode cX9_write 28 = .ok (.getfield 175, 3) := by decide +kernel
theorem dX9_write_31 : decode cX9_write 31 = .ok (.iload_n 1, 1) := by decide +kernel
theorem dX9_write_32 : decode cX9_write 32 = .ok (.iastore, 1) := by decide +kernel
theorem dX9_write_33 : decode cX9_write 33 = .ok (.aload_n 0, 1) := by decide +kernel
theorem dX9_write_34 : decode cX9_write 34 = .ok (.getfield 59, 3) := by decide +kernel
theorem dX9_write_37 : decode cX9_write 37 = .ok (.aload_n 0, 1) := by decide +kernel
theorem dX9_write_38 : decode cX9_write 38 = .ok (.getfield 175, 3) := by decide +kernel
theorem dX9_write_41 : decode cX9_write 41 = .ok (.iload_n 2, 1) := by decide +kernel
theorem dX9_write_42 : decode cX9_write 42 = .ok (.bastore, 1) := by decide +kernel
theorem dX9_write_43 : decode cX9_write 43 = .ok (.aload_n 0, 1) := by decide +kernel
theorem dX9_write_44 : decode cX9_write 44 = .ok (.dup, 1) := by decide +kernel
theorem dX9_write_45 : decode cX9_write 45 = .ok (.getfield 175, 3) := by decide +kernel
theorem dX9_write_48 : decode cX9_write 48 = .ok (.iconst 1, 1) := by decide +kernel
theorem dX9_write_49 : decode cX9_write 49 = .ok (.iadd, 1) := by decide +kernel
theorem dX9_write_50 : decode cX9_write 50 = .ok (.putfield 175, 3) := by decide +kernel
theorem dX9_write_53 : decode cX9_write 53 = .ok (.aload_n 0, 1) := by decide +kernel
theorem dX9_write_54 : decode cX9_write 54 = .ok (.getfield 175, 3) := by decide +kernel
theorem dX9_write_57 : decode cX9_write 57 = .ok (.ireturn, 1) := by decide +kernel
theorem dX9_tear_0 : decode cX9_tear 0 = .ok (.aload_n 0, 1) := by decide +kernel
theorem dX9_tear_1 : decode cX9_tear 1 = .ok (.getfield 175, 3) := by decide +kernel
theorem dX9_tear_4 : decode cX9_tear 4 = .ok (.istore_n 1, 1) := by decide +kernel
theorem dX9_tear_5 : decode cX9_tear 5 = .ok (.aload_n 0, 1) := by decide +kernel
theorem dX9_tear_6 : decode cX9_tear 6 = .ok (.iconst 0, 1) := by decide +kernel
theorem dX9_tear_7 : decode cX9_tear 7 = .ok (.putfield 175, 3) := by decide +kernel
theorem dX9_tear_10 : decode cX9_tear 10 = .ok (.iload_n 1, 1) := by decide +kernel
theorem dX9_tear_11 : decode cX9_tear 11 = .ok (.ireturn, 1) := by decide +kernel
set_option maxRecDepth 20000 in
theorem ggX9_judge_X9_holds : GoodIn wsX9_judge wsX9_holds := goodIn_r _ [8, 9, 10, 11, 12, 7, 13, 14, 15, 16, 17, 18, 19, 20, 21, 22, 23, 24, 25, 26, 27, 28, 29, 30, 31, 32, 33, 34, 35, 36, 37, 38, 39, 40, 41, 42, 43, 44, 45, 46, 47, 48, 49, 50, 51, 52, 53, 54, 55, 56] (by decide +kernel) (by decide +kernel)
set_option maxRecDepth 20000 in
theorem gX9_judge_X9_holds : GoodIn wsX9_judge (wsV RX9 185 RX9 yX9_holds wsX9_holds) := goodIn_app (goodIn_of _ (by decide +kernel)) ggX9_judge_X9_holds
set_option maxRecDepth 20000 in
theorem ggX9_judge_X9_has : GoodIn wsX9_judge wsX9_has := goodIn_r _ [18] (by decide +kernel) (by decide +kernel)
set_option maxRecDepth 20000 in
theorem gX9_judge_X9_has : GoodIn wsX9_judge (va_wsS RX9 136 yX9_has wsX9_has) := goodIn_app (goodIn_of _ (by decide +kernel)) ggX9_judge_X9_has
theorem dX9_judge_0 : decode cX9_judge 0 = .ok (.aload_n 0, 1) := by decide +kernel
theorem dX9_judge_1 : decode cX9_judge 1 = .ok (.invokevirtual 185, 3) := by decide +kernel
theorem dX9_judge_4 : decode cX9_judge 4 = .ok (.istore_n 1, 1) := by decide +kernel
theorem dX9_judge_5 : decode cX9_judge 5 = .ok (.iconst 0, 1) := by decide +kernel
theorem dX9_judge_6 : decode cX9_judge 6 = .ok (.istore_n 2, 1) := by decide +kernel
theorem dX9_judge_7 : decode cX9_judge 7 = .ok (.iload_n 2, 1) := by decide +kernel
theorem dX9_judge_8 : decode cX9_judge 8 = .ok (.aload_n 0, 1) := by decide +kernel
theorem dX9_judge_9 : decode cX9_judge 9 = .ok (.getfield 175, 3) := by decide +kernel
theorem dX9_judge_12 : decode cX9_judge 12 = .ok (.if_icmp .ge 30, 3) := by decide +kernel
theorem dX9_judge_15 : decode cX9_judge 15 = .ok (.iload_n 1, 1) := by decide +kernel
theorem dX9_judge_16 : decode cX9_judge 16 = .ok (.aload_n 0, 1) := by decide +kernel
theorem dX9_judge_17 : decode cX9_judge 17 = .ok (.getfield 56, 3) := by decide +kernel
theorem dX9_judge_20 : decode cX9_judge 20 = .ok (.iload_n 2, 1) := by decide +kernel
theorem dX9_judge_21 : decode cX9_judge 21 = .ok (.iaload, 1) := by decide +kernel
theorem dX9_judge_22 : decode cX9_judge 22 = .ok (.invokestatic 136, 3) := by decide +kernel
theorem dX9_judge_25 : decode cX9_judge 25 = .ok (.aload_n 0, 1) := by decide +kernel
theorem dX9_judge_26 : decode cX9_judge 26 = .ok (.getfield 59, 3) := by decide +kernel
theorem dX9_judge_29 : decode cX9_judge 29 = .ok (.iload_n 2, 1) := by decide +kernel
theorem dX9_judge_30 : decode cX9_judge 30 = .ok (.baload, 1) := by decide +kernel
theorem dX9_judge_31 : decode cX9_judge 31 = .ok (.if_icmp .eq 5, 3) := by decide +kernel
theorem dX9_judge_34 : decode cX9_judge 34 = .ok (.iload_n 2, 1) := by decide +kernel
theorem dX9_judge_35 : decode cX9_judge 35 = .ok (.ireturn, 1) := by decide +kernel
theorem dX9_judge_36 : decode cX9_judge 36 = .ok (.iinc 2 1, 3) := by decide +kernel
theorem dX9_judge_39 : decode cX9_judge 39 = .ok (.goto (-32), 3) := by decide +kernel
theorem dX9_judge_42 : decode cX9_judge 42 = .ok (.iconst (-1), 1) := by decide +kernel
theorem dX9_judge_43 : decode cX9_judge 43 = .ok (.ireturn, 1) := by decide +kernel
theorem dX9_seed_0 : decode cX9_seed 0 = .ok (.iload_n 1, 1) := by decide +kernel
theorem dX9_seed_1 : decode cX9_seed 1 = .ok (.ifCond .ge 6, 3) := by decide +kernel
theorem dX9_seed_4 : decode cX9_seed 4 = .ok (.ldc 85, 2) := by decide +kernel
theorem dX9_seed_6 : decode cX9_seed 6 = .ok (.ireturn, 1) := by decide +kernel
theorem dX9_seed_7 : decode cX9_seed 7 = .ok (.aload_n 0, 1) := by decide +kernel
theorem dX9_seed_8 : decode cX9_seed 8 = .ok (.getfield 259, 3) := by decide +kernel
theorem dX9_seed_11 : decode cX9_seed 11 = .ok (.istore_n 2, 1) := by decide +kernel
theorem dX9_seed_12 : decode cX9_seed 12 = .ok (.aload_n 0, 1) := by decide +kernel
theorem dX9_seed_13 : decode cX9_seed 13 = .ok (.iload_n 1, 1) := by decide +kernel
theorem dX9_seed_14 : decode cX9_seed 14 = .ok (.putfield 259, 3) := by decide +kernel
theorem dX9_seed_17 : decode cX9_seed 17 = .ok (.iload_n 2, 1) := by decide +kernel
theorem dX9_seed_18 : decode cX9_seed 18 = .ok (.ireturn, 1) := by decide +kernel
set_option maxRecDepth 20000 in
theorem ggX9_keep_X9_in : GoodIn wsX9_keep wsX9_in := goodIn_r _ [10] (by decide +kernel) (by decide +kernel)
set_option maxRecDepth 20000 in
theorem gX9_keep_X9_in : GoodIn wsX9_keep (va_wsS RX9 76 yX9_in wsX9_in) := goodIn_app (goodIn_of _ (by decide +kernel)) ggX9_keep_X9_in
theorem dX9_keep_0 : decode cX9_keep 0 = .ok (.iload_n 1, 1) := by decide +kernel
theorem dX9_keep_1 : decode cX9_keep 1 = .ok (.i2l, 1) := by decide +kernel
theorem dX9_keep_2 : decode cX9_keep 2 = .ok (.lconst 0, 1) := by decide +kernel
theorem dX9_keep_3 : decode cX9_keep 3 = .ok (.lconst 1, 1) := by decide +kernel
theorem dX9_keep_4 : decode cX9_keep 4 = .ok (.invokestatic 76, 3) := by decide +kernel
theorem dX9_keep_7 : decode cX9_keep 7 = .ok (.ifCond .ne 6, 3) := by decide +kernel
theorem dX9_keep_10 : decode cX9_keep 10 = .ok (.ldc 206, 2) := by decide +kernel
theorem dX9_keep_12 : decode cX9_keep 12 = .ok (.ireturn, 1) := by decide +kernel
theorem dX9_keep_13 : decode cX9_keep 13 = .ok (.iconst 0, 1) := by decide +kernel
theorem dX9_keep_14 : decode cX9_keep 14 = .ok (.istore_n 2, 1) := by decide +kernel
theorem dX9_keep_15 : decode cX9_keep 15 = .ok (.iload_n 2, 1) := by decide +kernel
theorem dX9_keep_16 : decode cX9_keep 16 = .ok (.bipush 23, 2) := by decide +kernel
theorem dX9_keep_18 : decode cX9_keep 18 = .ok (.if_icmp .ge 26, 3) := by decide +kernel
theorem dX9_keep_21 : decode cX9_keep 21 = .ok (.aload_n 0, 1) := by decide +kernel
theorem dX9_keep_22 : decode cX9_keep 22 = .ok (.getfield 63, 3) := by decide +kernel
theorem dX9_keep_25 : decode cX9_keep 25 = .ok (.bipush 24, 2) := by decide +kernel
theorem dX9_keep_27 : decode cX9_keep 27 = .ok (.iload_n 1, 1) := by decide +kernel
theorem dX9_keep_28 : decode cX9_keep 28 = .ok (.imul, 1) := by decide +kernel
theorem dX9_keep_29 : decode cX9_keep 29 = .ok (.iload_n 2, 1) := by decide +kernel
theorem dX9_keep_30 : decode cX9_keep 30 = .ok (.iadd, 1) := by decide +kernel
theorem dX9_keep_31 : decode cX9_keep 31 = .ok (.aload_n 0, 1) := by decide +kernel
theorem dX9_keep_32 : decode cX9_keep 32 = .ok (.getfield 25, 3) := by decide +kernel
theorem dX9_keep_35 : decode cX9_keep 35 = .ok (.iload_n 2, 1) := by decide +kernel
theorem dX9_keep_36 : decode cX9_keep 36 = .ok (.iaload, 1) := by decide +kernel
theorem dX9_keep_37 : decode cX9_keep 37 = .ok (.iastore, 1) := by decide +kernel
theorem dX9_keep_38 : decode cX9_keep 38 = .ok (.iinc 2 1, 3) := by decide +kernel
theorem dX9_keep_41 : decode cX9_keep 41 = .ok (.goto (-26), 3) := by decide +kernel
theorem dX9_keep_44 : decode cX9_keep 44 = .ok (.aload_n 0, 1) := by decide +kernel
theorem dX9_keep_45 : decode cX9_keep 45 = .ok (.getfield 63, 3) := by decide +kernel
theorem dX9_keep_48 : decode cX9_keep 48 = .ok (.bipush 24, 2) := by decide +kernel
theorem dX9_keep_50 : decode cX9_keep 50 = .ok (.iload_n 1, 1) := by decide +kernel
theorem dX9_keep_51 : decode cX9_keep 51 = .ok (.imul, 1) := by decide +kernel
theorem dX9_keep_52 : decode cX9_keep 52 = .ok (.bipush 23, 2) := by decide +kernel
theorem dX9_keep_54 : decode cX9_keep 54 = .ok (.iadd, 1) := by decide +kernel
theorem dX9_keep_55 : decode cX9_keep 55 = .ok (.aload_n 0, 1) := by decide +kernel
theorem dX9_keep_56 : decode cX9_keep 56 = .ok (.getfield 259, 3) := by decide +kernel
theorem dX9_keep_59 : decode cX9_keep 59 = .ok (.iastore, 1) := by decide +kernel
theorem dX9_keep_60 : decode cX9_keep 60 = .ok (.aload_n 0, 1) := by decide +kernel
theorem dX9_keep_61 : decode cX9_keep 61 = .ok (.getfield 66, 3) := by decide +kernel
theorem dX9_keep_64 : decode cX9_keep 64 = .ok (.iload_n 1, 1) := by decide +kernel
theorem dX9_keep_65 : decode cX9_keep 65 = .ok (.iconst 1, 1) := by decide +kernel
theorem dX9_keep_66 : decode cX9_keep 66 = .ok (.bastore, 1) := by decide +kernel
theorem dX9_keep_67 : decode cX9_keep 67 = .ok (.aload_n 0, 1) := by decide +kernel
theorem dX9_keep_68 : decode cX9_keep 68 = .ok (.iconst 0, 1) := by decide +kernel
theorem dX9_keep_69 : decode cX9_keep 69 = .ok (.putfield 178, 3) := by decide +kernel
theorem dX9_keep_72 : decode cX9_keep 72 = .ok (.iconst 1, 1) := by decide +kernel
theorem dX9_keep_73 : decode cX9_keep 73 = .ok (.ireturn, 1) := by decide +kernel
set_option maxRecDepth 20000 in
theorem ggX9_goBack_X9_in : GoodIn wsX9_goBack wsX9_in := goodIn_r _ [11] (by decide +kernel) (by decide +kernel)
set_option maxRecDepth 20000 in
theorem gX9_goBack_X9_in : GoodIn wsX9_goBack (va_wsS RX9 76 yX9_in wsX9_in) := goodIn_app (goodIn_of _ (by decide +kernel)) ggX9_goBack_X9_in
theorem dX9_goBack_0 : decode cX9_goBack 0 = .ok (.iload_n 1, 1) := by decide +kernel
theorem dX9_goBack_1 : decode cX9_goBack 1 = .ok (.i2l, 1) := by decide +kernel
theorem dX9_goBack_2 : decode cX9_goBack 2 = .ok (.lconst 0, 1) := by decide +kernel
theorem dX9_goBack_3 : decode cX9_goBack 3 = .ok (.lconst 1, 1) := by decide +kernel
theorem dX9_goBack_4 : decode cX9_goBack 4 = .ok (.invokestatic 76, 3) := by decide +kernel
theorem dX9_goBack_7 : decode cX9_goBack 7 = .ok (.ifCond .ne 6, 3) := by decide +kernel
theorem dX9_goBack_10 : decode cX9_goBack 10 = .ok (.ldc 206, 2) := by decide +kernel
theorem dX9_goBack_12 : decode cX9_goBack 12 = .ok (.ireturn, 1) := by decide +kernel
theorem dX9_goBack_13 : decode cX9_goBack 13 = .ok (.aload_n 0, 1) := by decide +kernel
theorem dX9_goBack_14 : decode cX9_goBack 14 = .ok (.getfield 66, 3) := by decide +kernel
theorem dX9_goBack_17 : decode cX9_goBack 17 = .ok (.iload_n 1, 1) := by decide +kernel
theorem dX9_goBack_18 : decode cX9_goBack 18 = .ok (.baload, 1) := by decide +kernel
theorem dX9_goBack_19 : decode cX9_goBack 19 = .ok (.ifCond .ne 6, 3) := by decide +kernel
theorem dX9_goBack_22 : decode cX9_goBack 22 = .ok (.ldc 232, 2) := by decide +kernel
theorem dX9_goBack_24 : decode cX9_goBack 24 = .ok (.ireturn, 1) := by decide +kernel
theorem dX9_goBack_25 : decode cX9_goBack 25 = .ok (.iconst 0, 1) := by decide +kernel
theorem dX9_goBack_26 : decode cX9_goBack 26 = .ok (.istore_n 2, 1) := by decide +kernel
theorem dX9_goBack_27 : decode cX9_goBack 27 = .ok (.iload_n 2, 1) := by decide +kernel
theorem dX9_goBack_28 : decode cX9_goBack 28 = .ok (.bipush 23, 2) := by decide +kernel
theorem dX9_goBack_30 : decode cX9_goBack 30 = .ok (.if_icmp .ge 26, 3) := by decide +kernel
theorem dX9_goBack_33 : decode cX9_goBack 33 = .ok (.aload_n 0, 1) := by decide +kernel
theorem dX9_goBack_34 : decode cX9_goBack 34 = .ok (.getfield 25, 3) := by decide +kernel
theorem dX9_goBack_37 : decode cX9_goBack 37 = .ok (.iload_n 2, 1) := by decide +kernel
theorem dX9_goBack_38 : decode cX9_goBack 38 = .ok (.aload_n 0, 1) := by decide +kernel
theorem dX9_goBack_39 : decode cX9_goBack 39 = .ok (.getfield 63, 3) := by decide +kernel
theorem dX9_goBack_42 : decode cX9_goBack 42 = .ok (.bipush 24, 2) := by decide +kernel
theorem dX9_goBack_44 : decode cX9_goBack 44 = .ok (.iload_n 1, 1) := by decide +kernel
theorem dX9_goBack_45 : decode cX9_goBack 45 = .ok (.imul, 1) := by decide +kernel
theorem dX9_goBack_46 : decode cX9_goBack 46 = .ok (.iload_n 2, 1) := by decide +kernel
theorem dX9_goBack_47 : decode cX9_goBack 47 = .ok (.iadd, 1) := by decide +kernel
theorem dX9_goBack_48 : decode cX9_goBack 48 = .ok (.iaload, 1) := by decide +kernel
theorem dX9_goBack_49 : decode cX9_goBack 49 = .ok (.iastore, 1) := by decide +kernel
theorem dX9_goBack_50 : decode cX9_goBack 50 = .ok (.iinc 2 1, 3) := by decide +kernel
theorem dX9_goBack_53 : decode cX9_goBack 53 = .ok (.goto (-26), 3) := by decide +kernel
theorem dX9_goBack_56 : decode cX9_goBack 56 = .ok (.aload_n 0, 1) := by decide +kernel
theorem dX9_goBack_57 : decode cX9_goBack 57 = .ok (.aload_n 0, 1) := by decide +kernel
theorem dX9_goBack_58 : decode cX9_goBack 58 = .ok (.getfield 63, 3) := by decide +kernel
theorem dX9_goBack_61 : decode cX9_goBack 61 = .ok (.bipush 24, 2) := by decide +kernel
theorem dX9_goBack_63 : decode cX9_goBack 63 = .ok (.iload_n 1, 1) := by decide +kernel
theorem dX9_goBack_64 : decode cX9_goBack 64 = .ok (.imul, 1) := by decide +kernel
theorem dX9_goBack_65 : decode cX9_goBack 65 = .ok (.bipush 23, 2) := by decide +kernel
theorem dX9_goBack_67 : decode cX9_goBack 67 = .ok (.iadd, 1) := by decide +kernel
theorem dX9_goBack_68 : decode cX9_goBack 68 = .ok (.iaload, 1) := by decide +kernel
theorem dX9_goBack_69 : decode cX9_goBack 69 = .ok (.putfield 259, 3) := by decide +kernel
theorem dX9_goBack_72 : decode cX9_goBack 72 = .ok (.aload_n 0, 1) := by decide +kernel
theorem dX9_goBack_73 : decode cX9_goBack 73 = .ok (.iconst 0, 1) := by decide +kernel
theorem dX9_goBack_74 : decode cX9_goBack 74 = .ok (.putfield 178, 3) := by decide +kernel
theorem dX9_goBack_77 : decode cX9_goBack 77 = .ok (.iconst 1, 1) := by decide +kernel
theorem dX9_goBack_78 : decode cX9_goBack 78 = .ok (.ireturn, 1) := by decide +kernel
