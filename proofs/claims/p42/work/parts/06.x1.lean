theorem dX1_init_0 : decode cX1_init 0 = .ok (.aload_n 0, 1) := by decide +kernel
theorem dX1_init_1 : decode cX1_init 1 = .ok (.invokespecial 1, 3) := by decide +kernel
theorem dX1_init_4 : decode cX1_init 4 = .ok (.aload_n 0, 1) := by decide +kernel
theorem dX1_init_5 : decode cX1_init 5 = .ok (.bipush 10, 2) := by decide +kernel
theorem dX1_init_7 : decode cX1_init 7 = .ok (.bipush 13, 2) := by decide +kernel
theorem dX1_init_9 : decode cX1_init 9 = .ok (.multianewarray 7 2, 4) := by decide +kernel
theorem dX1_init_13 : decode cX1_init 13 = .ok (.putfield 9, 3) := by decide +kernel
theorem dX1_init_16 : decode cX1_init 16 = .ok (.aload_n 0, 1) := by decide +kernel
theorem dX1_init_17 : decode cX1_init 17 = .ok (.bipush 20, 2) := by decide +kernel
theorem dX1_init_19 : decode cX1_init 19 = .ok (.bipush 7, 2) := by decide +kernel
theorem dX1_init_21 : decode cX1_init 21 = .ok (.multianewarray 7 2, 4) := by decide +kernel
theorem dX1_init_25 : decode cX1_init 25 = .ok (.putfield 14, 3) := by decide +kernel
theorem dX1_init_28 : decode cX1_init 28 = .ok (.aload_n 0, 1) := by decide +kernel
theorem dX1_init_29 : decode cX1_init 29 = .ok (.iconst 4, 1) := by decide +kernel
theorem dX1_init_30 : decode cX1_init 30 = .ok (.newarray .int, 2) := by decide +kernel
theorem dX1_init_32 : decode cX1_init 32 = .ok (.putfield 17, 3) := by decide +kernel
theorem dX1_init_35 : decode cX1_init 35 = .ok (.return_, 1) := by decide +kernel
theorem dX1_tide_0 : decode cX1_tide 0 = .ok (.bipush 20, 2) := by decide +kernel
theorem dX1_tide_2 : decode cX1_tide 2 = .ok (.newarray .int, 2) := by decide +kernel
theorem dX1_tide_4 : decode cX1_tide 4 = .ok (.dup, 1) := by decide +kernel
theorem dX1_tide_5 : decode cX1_tide 5 = .ok (.iconst 0, 1) := by decide +kernel
theorem dX1_tide_6 : decode cX1_tide 6 = .ok (.iconst 0, 1) := by decide +kernel
theorem dX1_tide_7 : decode cX1_tide 7 = .ok (.iastore, 1) := by decide +kernel
theorem dX1_tide_8 : decode cX1_tide 8 = .ok (.dup, 1) := by decide +kernel
theorem dX1_tide_9 : decode cX1_tide 9 = .ok (.iconst 1, 1) := by decide +kernel
theorem dX1_tide_10 : decode cX1_tide 10 = .ok (.iconst 0, 1) := by decide +kernel
theorem dX1_tide_11 : decode cX1_tide 11 = .ok (.iastore, 1) := by decide +kernel
theorem dX1_tide_12 : decode cX1_tide 12 = .ok (.dup, 1) := by decide +kernel
theorem dX1_tide_13 : decode cX1_tide 13 = .ok (.iconst 2, 1) := by decide +kernel
theorem dX1_tide_14 : decode cX1_tide 14 = .ok (.iconst 0, 1) := by decide +kernel
theorem dX1_tide_15 : decode cX1_tide 15 = .ok (.iastore, 1) := by decide +kernel
theorem dX1_tide_16 : decode cX1_tide 16 = .ok (.dup, 1) := by decide +kernel
theorem dX1_tide_17 : decode cX1_tide 17 = .ok (.iconst 3, 1) := by decide +kernel
theorem dX1_tide_18 : decode cX1_tide 18 = .ok (.iconst 0, 1) := by decide +kernel
theorem dX1_tide_19 : decode cX1_tide 19 = .ok (.iastore, 1) := by decide +kernel
theorem dX1_tide_20 : decode cX1_tide 20 = .ok (.dup, 1) := by decide +kernel
theorem dX1_tide_21 : decode cX1_tide 21 = .ok (.iconst 4, 1) := by decide +kernel
theorem dX1_tide_22 : decode cX1_tide 22 = .ok (.iconst 1, 1) := by decide +kernel
theorem dX1_tide_23 : decode cX1_tide 23 = .ok (.iastore, 1) := by decide +kernel
theorem dX1_tide_24 : decode cX1_tide 24 = .ok (.dup, 1) := by decide +kernel
theorem dX1_tide_25 : decode cX1_tide 25 = .ok (.iconst 5, 1) := by decide +kernel
theorem dX1_tide_26 : decode cX1_tide 26 = .ok (.iconst 1, 1) := by decide +kernel
theorem dX1_tide_27 : decode cX1_tide 27 = .ok (.iastore, 1) := by decide +kernel
theorem dX1_tide_28 : decode cX1_tide 28 = .ok (.dup, 1) := by decide +kernel
theorem dX1_tide_29 : decode cX1_tide 29 = .ok (.bipush 6, 2) := by decide +kernel
theorem dX1_tide_31 : decode cX1_tide 31 = .ok (.iconst 1, 1) := by decide +kernel
theorem dX1_tide_32 : decode cX1_tide 32 = .ok (.iastore, 1) := by decide +kernel
theorem dX1_tide_33 : decode cX1_tide 33 = .ok (.dup, 1) := by decide +kernel
theorem dX1_tide_34 : decode cX1_tide 34 = .ok (.bipush 7, 2) := by decide +kernel
theorem dX1_tide_36 : decode cX1_tide 36 = .ok (.iconst 1, 1) := by decide +kernel
theorem dX1_tide_37 : decode cX1_tide 37 = .ok (.iastore, 1) := by decide +kernel
theorem dX1_tide_38 : decode cX1_tide 38 = .ok (.dup, 1) := by decide +kernel
theorem dX1_tide_39 : decode cX1_tide 39 = .ok (.bipush 8, 2) := by decide +kernel
theorem dX1_tide_41 : decode cX1_tide 41 = .ok (.iconst 2, 1) := by decide +kernel
theorem dX1_tide_42 : decode cX1_tide 42 = .ok (.iastore, 1) := by decide +kernel
theorem dX1_tide_43 : decode cX1_tide 43 = .ok (.dup, 1) := by decide +kernel
theorem dX1_tide_44 : decode cX1_tide 44 = .ok (.bipush 9, 2) := by decide +kernel
theorem dX1_tide_46 : decode cX1_tide 46 = .ok (.iconst 2, 1) := by decide +kernel
theorem dX1_tide_47 : decode cX1_tide 47 = .ok (.iastore, 1) := by decide +kernel
theorem dX1_tide_48 : decode cX1_tide 48 = .ok (.dup, 1) := by decide +kernel
theorem dX1_tide_49 : decode cX1_tide 49 = .ok (.bipush 10, 2) := by decide +kernel
theorem dX1_tide_51 : decode cX1_tide 51 = .ok (.iconst 2, 1) := by decide +kernel
theorem dX1_tide_52 : decode cX1_tide 52 = .ok (.iastore, 1) := by decide +kernel
theorem dX1_tide_53 : decode cX1_tide 53 = .ok (.dup, 1) := by decide +kernel
theorem dX1_tide_54 : decode cX1_tide 54 = .ok (.bipush 11, 2) := by decide +kernel
theorem dX1_tide_56 : decode cX1_tide 56 = .ok (.iconst 2, 1) := by decide +kernel
theorem dX1_tide_57 : decode cX1_tide 57 = .ok (.iastore, 1) := by decide +kernel
theorem dX1_tide_58 : decode cX1_tide 58 = .ok (.dup, 1) := by decide +kernel
theorem dX1_tide_59 : decode cX1_tide 59 = .ok (.bipush 12, 2) := by decide +kernel
theorem dX1_tide_61 : decode cX1_tide 61 = .ok (.iconst 3, 1) := by decide +kernel
theorem dX1_tide_62 : decode cX1_tide 62 = .ok (.iastore, 1) := by decide +kernel
theorem dX1_tide_63 : decode cX1_tide 63 = .ok (.dup, 1) := by decide +kernel
theorem dX1_tide_64 : decode cX1_tide 64 = .ok (.bipush 13, 2) := by decide +kernel
theorem dX1_tide_66 : decode cX1_tide 66 = .ok (.iconst 3, 1) := by decide +kernel
theorem dX1_tide_67 : decode cX1_tide 67 = .ok (.iastore, 1) := by decide +kernel
theorem dX1_tide_68 : decode cX1_tide 68 = .ok (.dup, 1) := by decide +kernel
theorem dX1_tide_69 : decode cX1_tide 69 = .ok (.bipush 14, 2) := by decide +kernel
theorem dX1_tide_71 : decode cX1_tide 71 = .ok (.iconst 3, 1) := by decide +kernel
theorem dX1_tide_72 : decode cX1_tide 72 = .ok (.iastore, 1) := by decide +kernel
theorem dX1_tide_73 : decode cX1_tide 73 = .ok (.dup, 1) := by decide +kernel
theorem dX1_tide_74 : decode cX1_tide 74 = .ok (.bipush 15, 2) := by decide +kernel
theorem dX1_tide_76 : decode cX1_tide 76 = .ok (.iconst 3, 1) := by decide +kernel
theorem dX1_tide_77 : decode cX1_tide 77 = .ok (.iastore, 1) := by decide +kernel
theorem dX1_tide_78 : decode cX1_tide 78 = .ok (.dup, 1) := by decide +kernel
theorem dX1_tide_79 : decode cX1_tide 79 = .ok (.bipush 16, 2) := by decide +kernel
theorem dX1_tide_81 : decode cX1_tide 81 = .ok (.iconst 4, 1) := by decide +kernel
theorem dX1_tide_82 : decode cX1_tide 82 = .ok (.iastore, 1) := by decide +kernel
theorem dX1_tide_83 : decode cX1_tide 83 = .ok (.dup, 1) := by decide +kernel
theorem dX1_tide_84 : decode cX1_tide 84 = .ok (.bipush 17, 2) := by decide +kernel
theorem dX1_tide_86 : decode cX1_tide 86 = .ok (.iconst 4, 1) := by decide +kernel
theorem dX1_tide_87 : decode cX1_tide 87 = .ok (.iastore, 1) := by decide +kernel
theorem dX1_tide_88 : decode cX1_tide 88 = .ok (.dup, 1) := by decide +kernel
theorem dX1_tide_89 : decode cX1_tide 89 = .ok (.bipush 18, 2) := by decide +kernel
theorem dX1_tide_91 : decode cX1_tide 91 = .ok (.iconst 4, 1) := by decide +kernel
theorem dX1_tide_92 : decode cX1_tide 92 = .ok (.iastore, 1) := by decide +kernel
theorem dX1_tide_93 : decode cX1_tide 93 = .ok (.dup, 1) := by decide +kernel
theorem dX1_tide_94 : decode cX1_tide 94 = .ok (.bipush 19, 2) := by decide +kernel
theorem dX1_tide_96 : decode cX1_tide 96 = .ok (.iconst 4, 1) := by decide +kernel
theorem dX1_tide_97 : decode cX1_tide 97 = .ok (.iastore, 1) := by decide +kernel
theorem dX1_tide_98 : decode cX1_tide 98 = .ok (.astore_n 1, 1) := by decide +kernel
theorem dX1_tide_99 : decode cX1_tide 99 = .ok (.iload_n 0, 1) := by decide +kernel
theorem dX1_tide_100 : decode cX1_tide 100 = .ok (.bipush 40, 2) := by decide +kernel
theorem dX1_tide_102 : decode cX1_tide 102 = .ok (.irem, 1) := by decide +kernel
theorem dX1_tide_103 : decode cX1_tide 103 = .ok (.istore_n 2, 1) := by decide +kernel
theorem dX1_tide_104 : decode cX1_tide 104 = .ok (.iload_n 2, 1) := by decide +kernel
theorem dX1_tide_105 : decode cX1_tide 105 = .ok (.bipush 20, 2) := by decide +kernel
theorem dX1_tide_107 : decode cX1_tide 107 = .ok (.if_icmp .ge 9, 3) := by decide +kernel
theorem dX1_tide_110 : decode cX1_tide 110 = .ok (.aload_n 1, 1) := by decide +kernel
theorem dX1_tide_111 : decode cX1_tide 111 = .ok (.iload_n 2, 1) := by decide +kernel
theorem dX1_tide_112 : decode cX1_tide 112 = .ok (.iaload, 1) := by decide +kernel
theorem dX1_tide_113 : decode cX1_tide 113 = .ok (.goto 9, 3) := by decide +kernel
theorem dX1_tide_116 : decode cX1_tide 116 = .ok (.aload_n 1, 1) := by decide +kernel
theorem dX1_tide_117 : decode cX1_tide 117 = .ok (.bipush 39, 2) := by decide +kernel
theorem dX1_tide_119 : decode cX1_tide 119 = .ok (.iload_n 2, 1) := by decide +kernel
theorem dX1_tide_120 : decode cX1_tide 120 = .ok (.isub, 1) := by decide +kernel
theorem dX1_tide_121 : decode cX1_tide 121 = .ok (.iaload, 1) := by decide +kernel
theorem dX1_tide_122 : decode cX1_tide 122 = .ok (.ireturn, 1) := by decide +kernel
set_option maxRecDepth 20000 in
theorem ggX1_isAt_X1_tide : GoodIn wsX1_isAt wsX1_tide := goodIn_r _ [6, 7] (by decide +kernel) (by decide +kernel)
set_option maxRecDepth 20000 in
theorem gX1_isAt_X1_tide : GoodIn wsX1_isAt (va_wsS RX1 21 yX1_tide wsX1_tide) := goodIn_app (goodIn_of _ (by decide +kernel)) ggX1_isAt_X1_tide
theorem dX1_isAt_0 : decode cX1_isAt 0 = .ok (.iload_n 3, 1) := by decide +kernel
theorem dX1_isAt_1 : decode cX1_isAt 1 = .ok (.aload_n 0, 1) := by decide +kernel
theorem dX1_isAt_2 : decode cX1_isAt 2 = .ok (.getfield 9, 3) := by decide +kernel
theorem dX1_isAt_5 : decode cX1_isAt 5 = .ok (.iload_n 1, 1) := by decide +kernel
theorem dX1_isAt_6 : decode cX1_isAt 6 = .ok (.aaload, 1) := by decide +kernel
theorem dX1_isAt_7 : decode cX1_isAt 7 = .ok (.iconst 1, 1) := by decide +kernel
theorem dX1_isAt_8 : decode cX1_isAt 8 = .ok (.iaload, 1) := by decide +kernel
theorem dX1_isAt_9 : decode cX1_isAt 9 = .ok (.iadd, 1) := by decide +kernel
theorem dX1_isAt_10 : decode cX1_isAt 10 = .ok (.bipush 34, 2) := by decide +kernel
theorem dX1_isAt_12 : decode cX1_isAt 12 = .ok (.iload_n 2, 1) := by decide +kernel
theorem dX1_isAt_13 : decode cX1_isAt 13 = .ok (.invokestatic 21, 3) := by decide +kernel
theorem dX1_isAt_16 : decode cX1_isAt 16 = .ok (.iadd, 1) := by decide +kernel
theorem dX1_isAt_17 : decode cX1_isAt 17 = .ok (.aload_n 0, 1) := by decide +kernel
theorem dX1_isAt_18 : decode cX1_isAt 18 = .ok (.getfield 25, 3) := by decide +kernel
theorem dX1_isAt_21 : decode cX1_isAt 21 = .ok (.iadd, 1) := by decide +kernel
theorem dX1_isAt_22 : decode cX1_isAt 22 = .ok (.if_icmp .ge 23, 3) := by decide +kernel
theorem dX1_isAt_25 : decode cX1_isAt 25 = .ok (.iload_n 3, 1) := by decide +kernel
theorem dX1_isAt_26 : decode cX1_isAt 26 = .ok (.aload_n 0, 1) := by decide +kernel
theorem dX1_isAt_27 : decode cX1_isAt 27 = .ok (.getfield 9, 3) := by decide +kernel
theorem dX1_isAt_30 : decode cX1_isAt 30 = .ok (.iload_n 1, 1) := by decide +kernel
theorem dX1_isAt_31 : decode cX1_isAt 31 = .ok (.aaload, 1) := by decide +kernel
theorem dX1_isAt_32 : decode cX1_isAt 32 = .ok (.iconst 2, 1) := by decide +kernel
theorem dX1_isAt_33 : decode cX1_isAt 33 = .ok (.iaload, 1) := by decide +kernel
theorem dX1_isAt_34 : decode cX1_isAt 34 = .ok (.isub, 1) := by decide +kernel
theorem dX1_isAt_35 : decode cX1_isAt 35 = .ok (.bipush 14, 2) := by decide +kernel
theorem dX1_isAt_37 : decode cX1_isAt 37 = .ok (.iload_n 2, 1) := by decide +kernel
theorem dX1_isAt_38 : decode cX1_isAt 38 = .ok (.invokestatic 21, 3) := by decide +kernel
theorem dX1_isAt_41 : decode cX1_isAt 41 = .ok (.isub, 1) := by decide +kernel
theorem dX1_isAt_42 : decode cX1_isAt 42 = .ok (.if_icmp .ge 7, 3) := by decide +kernel
theorem dX1_isAt_45 : decode cX1_isAt 45 = .ok (.iconst 1, 1) := by decide +kernel
theorem dX1_isAt_46 : decode cX1_isAt 46 = .ok (.goto 4, 3) := by decide +kernel
theorem dX1_isAt_49 : decode cX1_isAt 49 = .ok (.iconst 0, 1) := by decide +kernel
theorem dX1_isAt_50 : decode cX1_isAt 50 = .ok (.ireturn, 1) := by decide +kernel
set_option maxRecDepth 20000 in
theorem ggX1_isOn_X1_isAt : GoodIn wsX1_isOn wsX1_isAt := goodIn_r _ [8, 1, 9, 10, 11, 7, 12, 13, 14, 15, 16, 17, 18, 19, 20, 21, 22] (by decide +kernel) (by decide +kernel)
set_option maxRecDepth 20000 in
theorem gX1_isOn_X1_isAt : GoodIn wsX1_isOn (wsV RX1 35 RX1 yX1_isAt wsX1_isAt) := goodIn_app (goodIn_of _ (by decide +kernel)) ggX1_isOn_X1_isAt
theorem dX1_isOn_0 : decode cX1_isOn 0 = .ok (.aload_n 0, 1) := by decide +kernel
theorem dX1_isOn_1 : decode cX1_isOn 1 = .ok (.getfield 9, 3) := by decide +kernel
theorem dX1_isOn_4 : decode cX1_isOn 4 = .ok (.iload_n 1, 1) := by decide +kernel
theorem dX1_isOn_5 : decode cX1_isOn 5 = .ok (.aaload, 1) := by decide +kernel
theorem dX1_isOn_6 : decode cX1_isOn 6 = .ok (.iconst 4, 1) := by decide +kernel
theorem dX1_isOn_7 : decode cX1_isOn 7 = .ok (.iaload, 1) := by decide +kernel
theorem dX1_isOn_8 : decode cX1_isOn 8 = .ok (.iconst 1, 1) := by decide +kernel
theorem dX1_isOn_9 : decode cX1_isOn 9 = .ok (.if_icmp .ne 23, 3) := by decide +kernel
theorem dX1_isOn_12 : decode cX1_isOn 12 = .ok (.aload_n 0, 1) := by decide +kernel
theorem dX1_isOn_13 : decode cX1_isOn 13 = .ok (.iload_n 1, 1) := by decide +kernel
theorem dX1_isOn_14 : decode cX1_isOn 14 = .ok (.aload_n 0, 1) := by decide +kernel
theorem dX1_isOn_15 : decode cX1_isOn 15 = .ok (.getfield 29, 3) := by decide +kernel
theorem dX1_isOn_18 : decode cX1_isOn 18 = .ok (.aload_n 0, 1) := by decide +kernel
theorem dX1_isOn_19 : decode cX1_isOn 19 = .ok (.getfield 32, 3) := by decide +kernel
theorem dX1_isOn_22 : decode cX1_isOn 22 = .ok (.invokevirtual 35, 3) := by decide +kernel
theorem dX1_isOn_25 : decode cX1_isOn 25 = .ok (.ifCond .eq 7, 3) := by decide +kernel
theorem dX1_isOn_28 : decode cX1_isOn 28 = .ok (.iconst 1, 1) := by decide +kernel
theorem dX1_isOn_29 : decode cX1_isOn 29 = .ok (.goto 4, 3) := by decide +kernel
theorem dX1_isOn_32 : decode cX1_isOn 32 = .ok (.iconst 0, 1) := by decide +kernel
theorem dX1_isOn_33 : decode cX1_isOn 33 = .ok (.ireturn, 1) := by decide +kernel
set_option maxRecDepth 20000 in
theorem ggX1_pass_X1_isOn : GoodIn wsX1_pass wsX1_isOn := goodIn_r _ [9, 10, 4, 3, 11, 12, 13, 8, 14, 15, 16, 17, 18, 19, 20, 21, 22, 23, 24, 25, 26, 27, 28] (by decide +kernel) (by decide +kernel)
set_option maxRecDepth 20000 in
theorem gX1_pass_X1_isOn : GoodIn wsX1_pass (wsV RX1 39 RX1 yX1_isOn wsX1_isOn) := goodIn_app (goodIn_of _ (by decide +kernel)) ggX1_pass_X1_isOn
theorem dX1_pass_0 : decode cX1_pass 0 = .ok (.aload_n 0, 1) := by decide +kernel
theorem dX1_pass_1 : decode cX1_pass 1 = .ok (.getfield 43, 3) := by decide +kernel
theorem dX1_pass_4 : decode cX1_pass 4 = .ok (.newarray .boolean, 2) := by decide +kernel
theorem dX1_pass_6 : decode cX1_pass 6 = .ok (.astore_n 1, 1) := by decide +kernel
theorem dX1_pass_7 : decode cX1_pass 7 = .ok (.iconst 0, 1) := by decide +kernel
theorem dX1_pass_8 : decode cX1_pass 8 = .ok (.istore_n 2, 1) := by decide +kernel
theorem dX1_pass_9 : decode cX1_pass 9 = .ok (.iload_n 2, 1) := by decide +kernel
theorem dX1_pass_10 : decode cX1_pass 10 = .ok (.aload_n 0, 1) := by decide +kernel
theorem dX1_pass_11 : decode cX1_pass 11 = .ok (.getfield 43, 3) := by decide +kernel
theorem dX1_pass_14 : decode cX1_pass 14 = .ok (.if_icmp .ge 17, 3) := by decide +kernel
theorem dX1_pass_17 : decode cX1_pass 17 = .ok (.aload_n 1, 1) := by decide +kernel
theorem dX1_pass_18 : decode cX1_pass 18 = .ok (.iload_n 2, 1) := by decide +kernel
theorem dX1_pass_19 : decode cX1_pass 19 = .ok (.aload_n 0, 1) := by decide +kernel
theorem dX1_pass_20 : decode cX1_pass 20 = .ok (.iload_n 2, 1) := by decide +kernel
theorem dX1_pass_21 : decode cX1_pass 21 = .ok (.invokevirtual 39, 3) := by decide +kernel
theorem dX1_pass_24 : decode cX1_pass 24 = .ok (.bastore, 1) := by decide +kernel
theorem dX1_pass_25 : decode cX1_pass 25 = .ok (.iinc 2 1, 3) := by decide +kernel
theorem dX1_pass_28 : decode cX1_pass 28 = .ok (.goto (-19), 3) := by decide +kernel
theorem dX1_pass_31 : decode cX1_pass 31 = .ok (.aload_n 0, 1) := by decide +kernel
theorem dX1_pass_32 : decode cX1_pass 32 = .ok (.dup, 1) := by decide +kernel
theorem dX1_pass_33 : decode cX1_pass 33 = .ok (.getfield 32, 3) := by decide +kernel
theorem dX1_pass_36 : decode cX1_pass 36 = .ok (.iconst 1, 1) := by decide +kernel
theorem dX1_pass_37 : decode cX1_pass 37 = .ok (.iadd, 1) := by decide +kernel
theorem dX1_pass_38 : decode cX1_pass 38 = .ok (.putfield 32, 3) := by decide +kernel
theorem dX1_pass_41 : decode cX1_pass 41 = .ok (.aload_n 0, 1) := by decide +kernel
theorem dX1_pass_42 : decode cX1_pass 42 = .ok (.getfield 32, 3) := by decide +kernel
theorem dX1_pass_45 : decode cX1_pass 45 = .ok (.bipush 48, 2) := by decide +kernel
theorem dX1_pass_47 : decode cX1_pass 47 = .ok (.if_icmp .ne 18, 3) := by decide +kernel
theorem dX1_pass_50 : decode cX1_pass 50 = .ok (.aload_n 0, 1) := by decide +kernel
theorem dX1_pass_51 : decode cX1_pass 51 = .ok (.iconst 0, 1) := by decide +kernel
theorem dX1_pass_52 : decode cX1_pass 52 = .ok (.putfield 32, 3) := by decide +kernel
theorem dX1_pass_55 : decode cX1_pass 55 = .ok (.aload_n 0, 1) := by decide +kernel
theorem dX1_pass_56 : decode cX1_pass 56 = .ok (.dup, 1) := by decide +kernel
theorem dX1_pass_57 : decode cX1_pass 57 = .ok (.getfield 29, 3) := by decide +kernel
theorem dX1_pass_60 : decode cX1_pass 60 = .ok (.iconst 1, 1) := by decide +kernel
theorem dX1_pass_61 : decode cX1_pass 61 = .ok (.iadd, 1) := by decide +kernel
theorem dX1_pass_62 : decode cX1_pass 62 = .ok (.putfield 29, 3) := by decide +kernel
theorem dX1_pass_65 : decode cX1_pass 65 = .ok (.iconst 0, 1) := by decide +kernel
theorem dX1_pass_66 : decode cX1_pass 66 = .ok (.istore_n 2, 1) := by decide +kernel
theorem dX1_pass_67 : decode cX1_pass 67 = .ok (.iconst 0, 1) := by decide +kernel
theorem dX1_pass_68 : decode cX1_pass 68 = .ok (.istore_n 3, 1) := by decide +kernel
theorem dX1_pass_69 : decode cX1_pass 69 = .ok (.iload_n 3, 1) := by decide +kernel
theorem dX1_pass_70 : decode cX1_pass 70 = .ok (.aload_n 0, 1) := by decide +kernel
theorem dX1_pass_71 : decode cX1_pass 71 = .ok (.getfield 43, 3) := by decide +kernel
theorem dX1_pass_74 : decode cX1_pass 74 = .ok (.if_icmp .ge 31, 3) := by decide +kernel
theorem dX1_pass_77 : decode cX1_pass 77 = .ok (.iload_n 2, 1) := by decide +kernel
theorem dX1_pass_78 : decode cX1_pass 78 = .ok (.aload_n 0, 1) := by decide +kernel
theorem dX1_pass_79 : decode cX1_pass 79 = .ok (.iload_n 3, 1) := by decide +kernel
theorem dX1_pass_80 : decode cX1_pass 80 = .ok (.invokevirtual 39, 3) := by decide +kernel
theorem dX1_pass_83 : decode cX1_pass 83 = .ok (.ifCond .eq 13, 3) := by decide +kernel
theorem dX1_pass_86 : decode cX1_pass 86 = .ok (.aload_n 1, 1) := by decide +kernel
theorem dX1_pass_87 : decode cX1_pass 87 = .ok (.iload_n 3, 1) := by decide +kernel
theorem dX1_pass_88 : decode cX1_pass 88 = .ok (.baload, 1) := by decide +kernel
theorem dX1_pass_89 : decode cX1_pass 89 = .ok (.ifCond .ne 7, 3) := by decide +kernel
theorem dX1_pass_92 : decode cX1_pass 92 = .ok (.iconst 1, 1) := by decide +kernel
theorem dX1_pass_93 : decode cX1_pass 93 = .ok (.goto 4, 3) := by decide +kernel
theorem dX1_pass_96 : decode cX1_pass 96 = .ok (.iconst 0, 1) := by decide +kernel
theorem dX1_pass_97 : decode cX1_pass 97 = .ok (.iadd, 1) := by decide +kernel
theorem dX1_pass_98 : decode cX1_pass 98 = .ok (.istore_n 2, 1) := by decide +kernel
theorem dX1_pass_99 : decode cX1_pass 99 = .ok (.iinc 3 1, 3) := by decide +kernel
theorem dX1_pass_102 : decode cX1_pass 102 = .ok (.goto (-33), 3) := by decide +kernel
theorem dX1_pass_105 : decode cX1_pass 105 = .ok (.iload_n 2, 1) := by decide +kernel
theorem dX1_pass_106 : decode cX1_pass 106 = .ok (.ireturn, 1) := by decide +kernel
