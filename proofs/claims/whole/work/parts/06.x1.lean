theorem dX1_init_0 : decode cX1_init 0 = .ok (.aload_n 0, 1) := by decide +kernel
theorem dX1_init_1 : decode cX1_init 1 = .ok (.invokespecial 1, 3) := by decide +kernel
theorem dX1_init_4 : decode cX1_init 4 = .ok (.aload_n 0, 1) := by decide +kernel
theorem dX1_init_5 : decode cX1_init 5 = .ok (.bipush 10, 2) := by decide +kernel
theorem dX1_init_7 : decode cX1_init 7 = .ok (.newarray .int, 2) := by decide +kernel
theorem dX1_init_9 : decode cX1_init 9 = .ok (.putfield 9, 3) := by decide +kernel
theorem dX1_init_12 : decode cX1_init 12 = .ok (.aload_n 0, 1) := by decide +kernel
theorem dX1_init_13 : decode cX1_init 13 = .ok (.bipush 10, 2) := by decide +kernel
theorem dX1_init_15 : decode cX1_init 15 = .ok (.newarray .int, 2) := by decide +kernel
theorem dX1_init_17 : decode cX1_init 17 = .ok (.putfield 13, 3) := by decide +kernel
theorem dX1_init_20 : decode cX1_init 20 = .ok (.aload_n 0, 1) := by decide +kernel
theorem dX1_init_21 : decode cX1_init 21 = .ok (.bipush 10, 2) := by decide +kernel
theorem dX1_init_23 : decode cX1_init 23 = .ok (.newarray .int, 2) := by decide +kernel
theorem dX1_init_25 : decode cX1_init 25 = .ok (.putfield 16, 3) := by decide +kernel
theorem dX1_init_28 : decode cX1_init 28 = .ok (.aload_n 0, 1) := by decide +kernel
theorem dX1_init_29 : decode cX1_init 29 = .ok (.bipush 10, 2) := by decide +kernel
theorem dX1_init_31 : decode cX1_init 31 = .ok (.newarray .int, 2) := by decide +kernel
theorem dX1_init_33 : decode cX1_init 33 = .ok (.putfield 19, 3) := by decide +kernel
theorem dX1_init_36 : decode cX1_init 36 = .ok (.aload_n 0, 1) := by decide +kernel
theorem dX1_init_37 : decode cX1_init 37 = .ok (.bipush 10, 2) := by decide +kernel
theorem dX1_init_39 : decode cX1_init 39 = .ok (.newarray .int, 2) := by decide +kernel
theorem dX1_init_41 : decode cX1_init 41 = .ok (.putfield 22, 3) := by decide +kernel
theorem dX1_init_44 : decode cX1_init 44 = .ok (.aload_n 0, 1) := by decide +kernel
theorem dX1_init_45 : decode cX1_init 45 = .ok (.bipush 10, 2) := by decide +kernel
theorem dX1_init_47 : decode cX1_init 47 = .ok (.newarray .boolean, 2) := by decide +kernel
theorem dX1_init_49 : decode cX1_init 49 = .ok (.putfield 25, 3) := by decide +kernel
theorem dX1_init_52 : decode cX1_init 52 = .ok (.aload_n 0, 1) := by decide +kernel
theorem dX1_init_53 : decode cX1_init 53 = .ok (.bipush 20, 2) := by decide +kernel
theorem dX1_init_55 : decode cX1_init 55 = .ok (.newarray .int, 2) := by decide +kernel
theorem dX1_init_57 : decode cX1_init 57 = .ok (.putfield 29, 3) := by decide +kernel
theorem dX1_init_60 : decode cX1_init 60 = .ok (.aload_n 0, 1) := by decide +kernel
theorem dX1_init_61 : decode cX1_init 61 = .ok (.bipush 20, 2) := by decide +kernel
theorem dX1_init_63 : decode cX1_init 63 = .ok (.newarray .int, 2) := by decide +kernel
theorem dX1_init_65 : decode cX1_init 65 = .ok (.putfield 32, 3) := by decide +kernel
theorem dX1_init_68 : decode cX1_init 68 = .ok (.aload_n 0, 1) := by decide +kernel
theorem dX1_init_69 : decode cX1_init 69 = .ok (.bipush 20, 2) := by decide +kernel
theorem dX1_init_71 : decode cX1_init 71 = .ok (.newarray .int, 2) := by decide +kernel
theorem dX1_init_73 : decode cX1_init 73 = .ok (.putfield 35, 3) := by decide +kernel
theorem dX1_init_76 : decode cX1_init 76 = .ok (.aload_n 0, 1) := by decide +kernel
theorem dX1_init_77 : decode cX1_init 77 = .ok (.bipush 80, 2) := by decide +kernel
theorem dX1_init_79 : decode cX1_init 79 = .ok (.newarray .int, 2) := by decide +kernel
theorem dX1_init_81 : decode cX1_init 81 = .ok (.putfield 38, 3) := by decide +kernel
theorem dX1_init_84 : decode cX1_init 84 = .ok (.aload_n 0, 1) := by decide +kernel
theorem dX1_init_85 : decode cX1_init 85 = .ok (.iconst 4, 1) := by decide +kernel
theorem dX1_init_86 : decode cX1_init 86 = .ok (.newarray .int, 2) := by decide +kernel
theorem dX1_init_88 : decode cX1_init 88 = .ok (.putfield 41, 3) := by decide +kernel
theorem dX1_init_91 : decode cX1_init 91 = .ok (.aload_n 0, 1) := by decide +kernel
theorem dX1_init_92 : decode cX1_init 92 = .ok (.iconst 4, 1) := by decide +kernel
theorem dX1_init_93 : decode cX1_init 93 = .ok (.newarray .int, 2) := by decide +kernel
theorem dX1_init_95 : decode cX1_init 95 = .ok (.putfield 44, 3) := by decide +kernel
theorem dX1_init_98 : decode cX1_init 98 = .ok (.return_, 1) := by decide +kernel
theorem dX1_thrown_0 : decode cX1_thrown 0 = .ok (.aload_n 0, 1) := by decide +kernel
theorem dX1_thrown_1 : decode cX1_thrown 1 = .ok (.getfield 47, 3) := by decide +kernel
theorem dX1_thrown_4 : decode cX1_thrown 4 = .ok (.ireturn, 1) := by decide +kernel
theorem dX1_fail_0 : decode cX1_fail 0 = .ok (.aload_n 0, 1) := by decide +kernel
theorem dX1_fail_1 : decode cX1_fail 1 = .ok (.iload_n 1, 1) := by decide +kernel
theorem dX1_fail_2 : decode cX1_fail 2 = .ok (.putfield 47, 3) := by decide +kernel
theorem dX1_fail_5 : decode cX1_fail 5 = .ok (.iconst 0, 1) := by decide +kernel
theorem dX1_fail_6 : decode cX1_fail 6 = .ok (.ireturn, 1) := by decide +kernel
theorem dX1_failed_0 : decode cX1_failed 0 = .ok (.aload_n 0, 1) := by decide +kernel
theorem dX1_failed_1 : decode cX1_failed 1 = .ok (.iload_n 1, 1) := by decide +kernel
theorem dX1_failed_2 : decode cX1_failed 2 = .ok (.putfield 47, 3) := by decide +kernel
theorem dX1_failed_5 : decode cX1_failed 5 = .ok (.iconst 0, 1) := by decide +kernel
theorem dX1_failed_6 : decode cX1_failed 6 = .ok (.ireturn, 1) := by decide +kernel
theorem dX1_isIn_0 : decode cX1_isIn 0 = .ok (.iload_n 0, 1) := by decide +kernel
theorem dX1_isIn_1 : decode cX1_isIn 1 = .ok (.iload_n 1, 1) := by decide +kernel
theorem dX1_isIn_2 : decode cX1_isIn 2 = .ok (.if_icmp .lt 12, 3) := by decide +kernel
theorem dX1_isIn_5 : decode cX1_isIn 5 = .ok (.iload_n 0, 1) := by decide +kernel
theorem dX1_isIn_6 : decode cX1_isIn 6 = .ok (.iload_n 2, 1) := by decide +kernel
theorem dX1_isIn_7 : decode cX1_isIn 7 = .ok (.if_icmp .gt 7, 3) := by decide +kernel
theorem dX1_isIn_10 : decode cX1_isIn 10 = .ok (.iconst 1, 1) := by decide +kernel
theorem dX1_isIn_11 : decode cX1_isIn 11 = .ok (.goto 4, 3) := by decide +kernel
theorem dX1_isIn_14 : decode cX1_isIn 14 = .ok (.iconst 0, 1) := by decide +kernel
theorem dX1_isIn_15 : decode cX1_isIn 15 = .ok (.ireturn, 1) := by decide +kernel
set_option maxRecDepth 20000 in
theorem ggX1_isQuarter_X1_isIn : GoodIn wsX1_isQuarter wsX1_isIn := goodIn_r _ [5] (by decide +kernel) (by decide +kernel)
set_option maxRecDepth 20000 in
theorem gX1_isQuarter_X1_isIn : GoodIn wsX1_isQuarter (va_wsS RX1 54 yX1_isIn wsX1_isIn) := goodIn_app (goodIn_of _ (by decide +kernel)) ggX1_isQuarter_X1_isIn
theorem dX1_isQuarter_0 : decode cX1_isQuarter 0 = .ok (.iload_n 1, 1) := by decide +kernel
theorem dX1_isQuarter_1 : decode cX1_isQuarter 1 = .ok (.iconst 0, 1) := by decide +kernel
theorem dX1_isQuarter_2 : decode cX1_isQuarter 2 = .ok (.aload_n 0, 1) := by decide +kernel
theorem dX1_isQuarter_3 : decode cX1_isQuarter 3 = .ok (.getfield 51, 3) := by decide +kernel
theorem dX1_isQuarter_6 : decode cX1_isQuarter 6 = .ok (.iconst 1, 1) := by decide +kernel
theorem dX1_isQuarter_7 : decode cX1_isQuarter 7 = .ok (.isub, 1) := by decide +kernel
theorem dX1_isQuarter_8 : decode cX1_isQuarter 8 = .ok (.invokestatic 54, 3) := by decide +kernel
theorem dX1_isQuarter_11 : decode cX1_isQuarter 11 = .ok (.ireturn, 1) := by decide +kernel
set_option maxRecDepth 20000 in
theorem ggX1_isOrder_X1_isIn : GoodIn wsX1_isOrder wsX1_isIn := goodIn_r _ [5] (by decide +kernel) (by decide +kernel)
set_option maxRecDepth 20000 in
theorem gX1_isOrder_X1_isIn : GoodIn wsX1_isOrder (va_wsS RX1 54 yX1_isIn wsX1_isIn) := goodIn_app (goodIn_of _ (by decide +kernel)) ggX1_isOrder_X1_isIn
theorem dX1_isOrder_0 : decode cX1_isOrder 0 = .ok (.iload_n 1, 1) := by decide +kernel
theorem dX1_isOrder_1 : decode cX1_isOrder 1 = .ok (.iconst 0, 1) := by decide +kernel
theorem dX1_isOrder_2 : decode cX1_isOrder 2 = .ok (.aload_n 0, 1) := by decide +kernel
theorem dX1_isOrder_3 : decode cX1_isOrder 3 = .ok (.getfield 58, 3) := by decide +kernel
theorem dX1_isOrder_6 : decode cX1_isOrder 6 = .ok (.iconst 1, 1) := by decide +kernel
theorem dX1_isOrder_7 : decode cX1_isOrder 7 = .ok (.isub, 1) := by decide +kernel
theorem dX1_isOrder_8 : decode cX1_isOrder 8 = .ok (.invokestatic 54, 3) := by decide +kernel
theorem dX1_isOrder_11 : decode cX1_isOrder 11 = .ok (.ireturn, 1) := by decide +kernel
set_option maxRecDepth 20000 in
theorem ggX1_isPerson_X1_isIn : GoodIn wsX1_isPerson wsX1_isIn := goodIn_r _ [5] (by decide +kernel) (by decide +kernel)
set_option maxRecDepth 20000 in
theorem gX1_isPerson_X1_isIn : GoodIn wsX1_isPerson (va_wsS RX1 54 yX1_isIn wsX1_isIn) := goodIn_app (goodIn_of _ (by decide +kernel)) ggX1_isPerson_X1_isIn
theorem dX1_isPerson_0 : decode cX1_isPerson 0 = .ok (.iload_n 1, 1) := by decide +kernel
theorem dX1_isPerson_1 : decode cX1_isPerson 1 = .ok (.iconst 0, 1) := by decide +kernel
theorem dX1_isPerson_2 : decode cX1_isPerson 2 = .ok (.aload_n 0, 1) := by decide +kernel
theorem dX1_isPerson_3 : decode cX1_isPerson 3 = .ok (.getfield 61, 3) := by decide +kernel
theorem dX1_isPerson_6 : decode cX1_isPerson 6 = .ok (.iconst 1, 1) := by decide +kernel
theorem dX1_isPerson_7 : decode cX1_isPerson 7 = .ok (.isub, 1) := by decide +kernel
theorem dX1_isPerson_8 : decode cX1_isPerson 8 = .ok (.invokestatic 54, 3) := by decide +kernel
theorem dX1_isPerson_11 : decode cX1_isPerson 11 = .ok (.ireturn, 1) := by decide +kernel
set_option maxRecDepth 20000 in
theorem ggX1_isTrade_X1_isIn : GoodIn wsX1_isTrade wsX1_isIn := goodIn_r _ [4] (by decide +kernel) (by decide +kernel)
set_option maxRecDepth 20000 in
theorem gX1_isTrade_X1_isIn : GoodIn wsX1_isTrade (va_wsS RX1 54 yX1_isIn wsX1_isIn) := goodIn_app (goodIn_of _ (by decide +kernel)) ggX1_isTrade_X1_isIn
theorem dX1_isTrade_0 : decode cX1_isTrade 0 = .ok (.iload_n 0, 1) := by decide +kernel
theorem dX1_isTrade_1 : decode cX1_isTrade 1 = .ok (.iconst 0, 1) := by decide +kernel
theorem dX1_isTrade_2 : decode cX1_isTrade 2 = .ok (.bipush 7, 2) := by decide +kernel
theorem dX1_isTrade_4 : decode cX1_isTrade 4 = .ok (.invokestatic 54, 3) := by decide +kernel
theorem dX1_isTrade_7 : decode cX1_isTrade 7 = .ok (.ireturn, 1) := by decide +kernel
set_option maxRecDepth 20000 in
theorem ggX1_isColour_X1_isIn : GoodIn wsX1_isColour wsX1_isIn := goodIn_r _ [4] (by decide +kernel) (by decide +kernel)
set_option maxRecDepth 20000 in
theorem gX1_isColour_X1_isIn : GoodIn wsX1_isColour (va_wsS RX1 54 yX1_isIn wsX1_isIn) := goodIn_app (goodIn_of _ (by decide +kernel)) ggX1_isColour_X1_isIn
theorem dX1_isColour_0 : decode cX1_isColour 0 = .ok (.iload_n 0, 1) := by decide +kernel
theorem dX1_isColour_1 : decode cX1_isColour 1 = .ok (.iconst 0, 1) := by decide +kernel
theorem dX1_isColour_2 : decode cX1_isColour 2 = .ok (.iconst 3, 1) := by decide +kernel
theorem dX1_isColour_3 : decode cX1_isColour 3 = .ok (.invokestatic 54, 3) := by decide +kernel
theorem dX1_isColour_6 : decode cX1_isColour 6 = .ok (.ireturn, 1) := by decide +kernel
theorem dX1_tide_0 : decode cX1_tide 0 = .ok (.iload_n 0, 1) := by decide +kernel
theorem dX1_tide_1 : decode cX1_tide 1 = .ok (.bipush 40, 2) := by decide +kernel
theorem dX1_tide_3 : decode cX1_tide 3 = .ok (.irem, 1) := by decide +kernel
theorem dX1_tide_4 : decode cX1_tide 4 = .ok (.istore_n 1, 1) := by decide +kernel
theorem dX1_tide_5 : decode cX1_tide 5 = .ok (.iload_n 1, 1) := by decide +kernel
theorem dX1_tide_6 : decode cX1_tide 6 = .ok (.bipush 20, 2) := by decide +kernel
theorem dX1_tide_8 : decode cX1_tide 8 = .ok (.if_icmp .ge 7, 3) := by decide +kernel
theorem dX1_tide_11 : decode cX1_tide 11 = .ok (.iload_n 1, 1) := by decide +kernel
theorem dX1_tide_12 : decode cX1_tide 12 = .ok (.goto 7, 3) := by decide +kernel
theorem dX1_tide_15 : decode cX1_tide 15 = .ok (.bipush 39, 2) := by decide +kernel
theorem dX1_tide_17 : decode cX1_tide 17 = .ok (.iload_n 1, 1) := by decide +kernel
theorem dX1_tide_18 : decode cX1_tide 18 = .ok (.isub, 1) := by decide +kernel
theorem dX1_tide_19 : decode cX1_tide 19 = .ok (.iconst 4, 1) := by decide +kernel
theorem dX1_tide_20 : decode cX1_tide 20 = .ok (.idiv, 1) := by decide +kernel
theorem dX1_tide_21 : decode cX1_tide 21 = .ok (.ireturn, 1) := by decide +kernel
set_option maxRecDepth 20000 in
theorem ggX1_dusk_X1_tide : GoodIn wsX1_dusk wsX1_tide := goodIn_r _ [5] (by decide +kernel) (by decide +kernel)
set_option maxRecDepth 20000 in
theorem gX1_dusk_X1_tide : GoodIn wsX1_dusk (va_wsS RX1 64 yX1_tide wsX1_tide) := goodIn_app (goodIn_of _ (by decide +kernel)) ggX1_dusk_X1_tide
theorem dX1_dusk_0 : decode cX1_dusk 0 = .ok (.bipush 34, 2) := by decide +kernel
theorem dX1_dusk_2 : decode cX1_dusk 2 = .ok (.iload_n 1, 1) := by decide +kernel
theorem dX1_dusk_3 : decode cX1_dusk 3 = .ok (.invokestatic 64, 3) := by decide +kernel
theorem dX1_dusk_6 : decode cX1_dusk 6 = .ok (.iadd, 1) := by decide +kernel
theorem dX1_dusk_7 : decode cX1_dusk 7 = .ok (.aload_n 0, 1) := by decide +kernel
theorem dX1_dusk_8 : decode cX1_dusk 8 = .ok (.getfield 68, 3) := by decide +kernel
theorem dX1_dusk_11 : decode cX1_dusk 11 = .ok (.iadd, 1) := by decide +kernel
theorem dX1_dusk_12 : decode cX1_dusk 12 = .ok (.ireturn, 1) := by decide +kernel
set_option maxRecDepth 20000 in
theorem ggX1_dawn_X1_tide : GoodIn wsX1_dawn wsX1_tide := goodIn_r _ [4] (by decide +kernel) (by decide +kernel)
set_option maxRecDepth 20000 in
theorem gX1_dawn_X1_tide : GoodIn wsX1_dawn (va_wsS RX1 64 yX1_tide wsX1_tide) := goodIn_app (goodIn_of _ (by decide +kernel)) ggX1_dawn_X1_tide
theorem dX1_dawn_0 : decode cX1_dawn 0 = .ok (.bipush 14, 2) := by decide +kernel
theorem dX1_dawn_2 : decode cX1_dawn 2 = .ok (.iload_n 0, 1) := by decide +kernel
theorem dX1_dawn_3 : decode cX1_dawn 3 = .ok (.invokestatic 64, 3) := by decide +kernel
theorem dX1_dawn_6 : decode cX1_dawn 6 = .ok (.isub, 1) := by decide +kernel
theorem dX1_dawn_7 : decode cX1_dawn 7 = .ok (.ireturn, 1) := by decide +kernel
set_option maxRecDepth 20000 in
theorem ggX1_isAt_X1_dusk : GoodIn wsX1_isAt wsX1_dusk := goodIn_r _ [7, 8, 9, 10, 6, 11, 15, 16, 17, 18, 19, 20, 21, 22, 23, 24, 25, 26, 27, 28, 29, 30, 31, 32] (by decide +kernel) (by decide +kernel)
set_option maxRecDepth 20000 in
theorem gX1_isAt_X1_dusk : GoodIn wsX1_isAt (wsV RX1 71 RX1 yX1_dusk wsX1_dusk) := goodIn_app (goodIn_of _ (by decide +kernel)) ggX1_isAt_X1_dusk
set_option maxRecDepth 20000 in
theorem ggX1_isAt_X1_dawn : GoodIn wsX1_isAt wsX1_dawn := goodIn_r _ [14, 9, 10, 6, 11] (by decide +kernel) (by decide +kernel)
set_option maxRecDepth 20000 in
theorem gX1_isAt_X1_dawn : GoodIn wsX1_isAt (va_wsS RX1 74 yX1_dawn wsX1_dawn) := goodIn_app (goodIn_of _ (by decide +kernel)) ggX1_isAt_X1_dawn
theorem dX1_isAt_0 : decode cX1_isAt 0 = .ok (.iload_n 2, 1) := by decide +kernel
theorem dX1_isAt_1 : decode cX1_isAt 1 = .ok (.bipush 48, 2) := by decide +kernel
theorem dX1_isAt_3 : decode cX1_isAt 3 = .ok (.idiv, 1) := by decide +kernel
theorem dX1_isAt_4 : decode cX1_isAt 4 = .ok (.istore_n 3, 1) := by decide +kernel
theorem dX1_isAt_5 : decode cX1_isAt 5 = .ok (.iload_n 2, 1) := by decide +kernel
theorem dX1_isAt_6 : decode cX1_isAt 6 = .ok (.bipush 48, 2) := by decide +kernel
theorem dX1_isAt_8 : decode cX1_isAt 8 = .ok (.irem, 1) := by decide +kernel
theorem dX1_isAt_9 : decode cX1_isAt 9 = .ok (.istore 4, 2) := by decide +kernel
theorem dX1_isAt_11 : decode cX1_isAt 11 = .ok (.iload 4, 2) := by decide +kernel
theorem dX1_isAt_13 : decode cX1_isAt 13 = .ok (.aload_n 0, 1) := by decide +kernel
theorem dX1_isAt_14 : decode cX1_isAt 14 = .ok (.iload_n 3, 1) := by decide +kernel
theorem dX1_isAt_15 : decode cX1_isAt 15 = .ok (.invokevirtual 71, 3) := by decide +kernel
theorem dX1_isAt_18 : decode cX1_isAt 18 = .ok (.aload_n 0, 1) := by decide +kernel
theorem dX1_isAt_19 : decode cX1_isAt 19 = .ok (.getfield 13, 3) := by decide +kernel
theorem dX1_isAt_22 : decode cX1_isAt 22 = .ok (.iload_n 1, 1) := by decide +kernel
theorem dX1_isAt_23 : decode cX1_isAt 23 = .ok (.iaload, 1) := by decide +kernel
theorem dX1_isAt_24 : decode cX1_isAt 24 = .ok (.isub, 1) := by decide +kernel
theorem dX1_isAt_25 : decode cX1_isAt 25 = .ok (.if_icmp .ge 19, 3) := by decide +kernel
theorem dX1_isAt_28 : decode cX1_isAt 28 = .ok (.iload 4, 2) := by decide +kernel
theorem dX1_isAt_30 : decode cX1_isAt 30 = .ok (.iload_n 3, 1) := by decide +kernel
theorem dX1_isAt_31 : decode cX1_isAt 31 = .ok (.invokestatic 74, 3) := by decide +kernel
theorem dX1_isAt_34 : decode cX1_isAt 34 = .ok (.aload_n 0, 1) := by decide +kernel
theorem dX1_isAt_35 : decode cX1_isAt 35 = .ok (.getfield 16, 3) := by decide +kernel
theorem dX1_isAt_38 : decode cX1_isAt 38 = .ok (.iload_n 1, 1) := by decide +kernel
theorem dX1_isAt_39 : decode cX1_isAt 39 = .ok (.iaload, 1) := by decide +kernel
theorem dX1_isAt_40 : decode cX1_isAt 40 = .ok (.iadd, 1) := by decide +kernel
theorem dX1_isAt_41 : decode cX1_isAt 41 = .ok (.if_icmp .ge 7, 3) := by decide +kernel
theorem dX1_isAt_44 : decode cX1_isAt 44 = .ok (.iconst 1, 1) := by decide +kernel
theorem dX1_isAt_45 : decode cX1_isAt 45 = .ok (.goto 4, 3) := by decide +kernel
theorem dX1_isAt_48 : decode cX1_isAt 48 = .ok (.iconst 0, 1) := by decide +kernel
theorem dX1_isAt_49 : decode cX1_isAt 49 = .ok (.ireturn, 1) := by decide +kernel
set_option maxRecDepth 20000 in
theorem ggX1_onAt_X1_isAt : GoodIn wsX1_onAt wsX1_isAt := goodIn_r _ [6, 7, 8, 9, 10, 11, 5, 12, 13, 14, 15, 16, 17, 18, 19, 20, 21, 22, 23, 24, 25, 26, 27, 28, 29, 30, 31, 32, 33, 34, 35, 36, 37] (by decide +kernel) (by decide +kernel)
set_option maxRecDepth 20000 in
theorem gX1_onAt_X1_isAt : GoodIn wsX1_onAt (wsV RX1 77 RX1 yX1_isAt wsX1_isAt) := goodIn_app (goodIn_of _ (by decide +kernel)) ggX1_onAt_X1_isAt
theorem dX1_onAt_0 : decode cX1_onAt 0 = .ok (.aload_n 0, 1) := by decide +kernel
theorem dX1_onAt_1 : decode cX1_onAt 1 = .ok (.getfield 25, 3) := by decide +kernel
theorem dX1_onAt_4 : decode cX1_onAt 4 = .ok (.iload_n 1, 1) := by decide +kernel
theorem dX1_onAt_5 : decode cX1_onAt 5 = .ok (.baload, 1) := by decide +kernel
theorem dX1_onAt_6 : decode cX1_onAt 6 = .ok (.ifCond .eq 16, 3) := by decide +kernel
theorem dX1_onAt_9 : decode cX1_onAt 9 = .ok (.aload_n 0, 1) := by decide +kernel
theorem dX1_onAt_10 : decode cX1_onAt 10 = .ok (.iload_n 1, 1) := by decide +kernel
theorem dX1_onAt_11 : decode cX1_onAt 11 = .ok (.iload_n 2, 1) := by decide +kernel
theorem dX1_onAt_12 : decode cX1_onAt 12 = .ok (.invokevirtual 77, 3) := by decide +kernel
theorem dX1_onAt_15 : decode cX1_onAt 15 = .ok (.ifCond .eq 7, 3) := by decide +kernel
theorem dX1_onAt_18 : decode cX1_onAt 18 = .ok (.iconst 1, 1) := by decide +kernel
theorem dX1_onAt_19 : decode cX1_onAt 19 = .ok (.goto 4, 3) := by decide +kernel
theorem dX1_onAt_22 : decode cX1_onAt 22 = .ok (.iconst 0, 1) := by decide +kernel
theorem dX1_onAt_23 : decode cX1_onAt 23 = .ok (.ireturn, 1) := by decide +kernel
set_option maxRecDepth 20000 in
theorem ggX1_barsAt_X1_onAt : GoodIn wsX1_barsAt wsX1_onAt := goodIn_r _ [8, 9, 10, 11, 12, 7, 13, 14, 15, 16, 17, 18, 19, 20, 21, 22, 23, 24, 25, 26, 27, 28, 29, 30, 31, 32, 33, 34, 35, 36, 37, 38, 39, 40, 41, 42, 43, 44] (by decide +kernel) (by decide +kernel)
set_option maxRecDepth 20000 in
theorem gX1_barsAt_X1_onAt : GoodIn wsX1_barsAt (wsV RX1 81 RX1 yX1_onAt wsX1_onAt) := goodIn_app (goodIn_of _ (by decide +kernel)) ggX1_barsAt_X1_onAt
theorem dX1_barsAt_0 : decode cX1_barsAt 0 = .ok (.aload_n 0, 1) := by decide +kernel
theorem dX1_barsAt_1 : decode cX1_barsAt 1 = .ok (.getfield 9, 3) := by decide +kernel
theorem dX1_barsAt_4 : decode cX1_barsAt 4 = .ok (.iload_n 1, 1) := by decide +kernel
theorem dX1_barsAt_5 : decode cX1_barsAt 5 = .ok (.iaload, 1) := by decide +kernel
theorem dX1_barsAt_6 : decode cX1_barsAt 6 = .ok (.iload_n 3, 1) := by decide +kernel
theorem dX1_barsAt_7 : decode cX1_barsAt 7 = .ok (.if_icmp .ne 35, 3) := by decide +kernel
theorem dX1_barsAt_10 : decode cX1_barsAt 10 = .ok (.aload_n 0, 1) := by decide +kernel
theorem dX1_barsAt_11 : decode cX1_barsAt 11 = .ok (.getfield 22, 3) := by decide +kernel
theorem dX1_barsAt_14 : decode cX1_barsAt 14 = .ok (.iload_n 1, 1) := by decide +kernel
theorem dX1_barsAt_15 : decode cX1_barsAt 15 = .ok (.iaload, 1) := by decide +kernel
theorem dX1_barsAt_16 : decode cX1_barsAt 16 = .ok (.aload_n 0, 1) := by decide +kernel
theorem dX1_barsAt_17 : decode cX1_barsAt 17 = .ok (.getfield 29, 3) := by decide +kernel
theorem dX1_barsAt_20 : decode cX1_barsAt 20 = .ok (.iload_n 2, 1) := by decide +kernel
theorem dX1_barsAt_21 : decode cX1_barsAt 21 = .ok (.iaload, 1) := by decide +kernel
theorem dX1_barsAt_22 : decode cX1_barsAt 22 = .ok (.ishr, 1) := by decide +kernel
theorem dX1_barsAt_23 : decode cX1_barsAt 23 = .ok (.iconst 1, 1) := by decide +kernel
theorem dX1_barsAt_24 : decode cX1_barsAt 24 = .ok (.iand, 1) := by decide +kernel
theorem dX1_barsAt_25 : decode cX1_barsAt 25 = .ok (.ifCond .ne 17, 3) := by decide +kernel
theorem dX1_barsAt_28 : decode cX1_barsAt 28 = .ok (.aload_n 0, 1) := by decide +kernel
theorem dX1_barsAt_29 : decode cX1_barsAt 29 = .ok (.iload_n 1, 1) := by decide +kernel
theorem dX1_barsAt_30 : decode cX1_barsAt 30 = .ok (.iload 4, 2) := by decide +kernel
theorem dX1_barsAt_32 : decode cX1_barsAt 32 = .ok (.invokevirtual 81, 3) := by decide +kernel
theorem dX1_barsAt_35 : decode cX1_barsAt 35 = .ok (.ifCond .eq 7, 3) := by decide +kernel
theorem dX1_barsAt_38 : decode cX1_barsAt 38 = .ok (.iconst 1, 1) := by decide +kernel
theorem dX1_barsAt_39 : decode cX1_barsAt 39 = .ok (.goto 4, 3) := by decide +kernel
theorem dX1_barsAt_42 : decode cX1_barsAt 42 = .ok (.iconst 0, 1) := by decide +kernel
theorem dX1_barsAt_43 : decode cX1_barsAt 43 = .ok (.ireturn, 1) := by decide +kernel
set_option maxRecDepth 20000 in
theorem ggX1_against_X1_barsAt : GoodIn wsX1_against wsX1_barsAt := goodIn_r _ [6, 7, 8, 9, 10, 11, 12, 5, 13, 14, 15, 16, 17, 18, 19, 20, 21, 22, 23, 24, 25, 26, 27, 28, 29, 30, 31, 32, 33, 34, 35, 36, 37, 38, 39, 40, 41, 42, 43, 44, 45, 46, 47, 48, 49] (by decide +kernel) (by decide +kernel)
set_option maxRecDepth 20000 in
theorem gX1_against_X1_barsAt : GoodIn wsX1_against (wsV RX1 84 RX1 yX1_barsAt wsX1_barsAt) := goodIn_app (goodIn_of _ (by decide +kernel)) ggX1_against_X1_barsAt
theorem dX1_against_0 : decode cX1_against 0 = .ok (.iconst 0, 1) := by decide +kernel
theorem dX1_against_1 : decode cX1_against 1 = .ok (.istore 4, 2) := by decide +kernel
theorem dX1_against_3 : decode cX1_against 3 = .ok (.iconst 0, 1) := by decide +kernel
theorem dX1_against_4 : decode cX1_against 4 = .ok (.istore 5, 2) := by decide +kernel
theorem dX1_against_6 : decode cX1_against 6 = .ok (.iload 5, 2) := by decide +kernel
theorem dX1_against_8 : decode cX1_against 8 = .ok (.aload_n 0, 1) := by decide +kernel
theorem dX1_against_9 : decode cX1_against 9 = .ok (.getfield 58, 3) := by decide +kernel
theorem dX1_against_12 : decode cX1_against 12 = .ok (.if_icmp .ge 31, 3) := by decide +kernel
theorem dX1_against_15 : decode cX1_against 15 = .ok (.iload 4, 2) := by decide +kernel
theorem dX1_against_17 : decode cX1_against 17 = .ok (.aload_n 0, 1) := by decide +kernel
theorem dX1_against_18 : decode cX1_against 18 = .ok (.iload 5, 2) := by decide +kernel
theorem dX1_against_20 : decode cX1_against 20 = .ok (.iload_n 1, 1) := by decide +kernel
theorem dX1_against_21 : decode cX1_against 21 = .ok (.iload_n 2, 1) := by decide +kernel
theorem dX1_against_22 : decode cX1_against 22 = .ok (.iload_n 3, 1) := by decide +kernel
theorem dX1_against_23 : decode cX1_against 23 = .ok (.invokevirtual 84, 3) := by decide +kernel
theorem dX1_against_26 : decode cX1_against 26 = .ok (.ifCond .eq 7, 3) := by decide +kernel
theorem dX1_against_29 : decode cX1_against 29 = .ok (.iconst 1, 1) := by decide +kernel
theorem dX1_against_30 : decode cX1_against 30 = .ok (.goto 4, 3) := by decide +kernel
theorem dX1_against_33 : decode cX1_against 33 = .ok (.iconst 0, 1) := by decide +kernel
theorem dX1_against_34 : decode cX1_against 34 = .ok (.iadd, 1) := by decide +kernel
theorem dX1_against_35 : decode cX1_against 35 = .ok (.istore 4, 2) := by decide +kernel
theorem dX1_against_37 : decode cX1_against 37 = .ok (.iinc 5 1, 3) := by decide +kernel
theorem dX1_against_40 : decode cX1_against 40 = .ok (.goto (-34), 3) := by decide +kernel
theorem dX1_against_43 : decode cX1_against 43 = .ok (.iload 4, 2) := by decide +kernel
theorem dX1_against_45 : decode cX1_against 45 = .ok (.ireturn, 1) := by decide +kernel
set_option maxRecDepth 20000 in
theorem ggX1_addQuarter_X1_fail : GoodIn wsX1_addQuarter wsX1_fail := goodIn_r _ [7, 1, 8, 9, 10, 11, 12, 13, 14, 15, 16, 17, 18, 19, 20, 21, 22, 23, 24, 25] (by decide +kernel) (by decide +kernel)
set_option maxRecDepth 20000 in
theorem gX1_addQuarter_X1_fail : GoodIn wsX1_addQuarter (wsV RX1 88 RX1 yX1_fail wsX1_fail) := goodIn_app (goodIn_of _ (by decide +kernel)) ggX1_addQuarter_X1_fail
theorem dX1_addQuarter_0 : decode cX1_addQuarter 0 = .ok (.aload_n 0, 1) := by decide +kernel
theorem dX1_addQuarter_1 : decode cX1_addQuarter 1 = .ok (.iconst 0, 1) := by decide +kernel
theorem dX1_addQuarter_2 : decode cX1_addQuarter 2 = .ok (.putfield 47, 3) := by decide +kernel
theorem dX1_addQuarter_5 : decode cX1_addQuarter 5 = .ok (.aload_n 0, 1) := by decide +kernel
theorem dX1_addQuarter_6 : decode cX1_addQuarter 6 = .ok (.getfield 51, 3) := by decide +kernel
theorem dX1_addQuarter_9 : decode cX1_addQuarter 9 = .ok (.bipush 6, 2) := by decide +kernel
theorem dX1_addQuarter_11 : decode cX1_addQuarter 11 = .ok (.if_icmp .ne 9, 3) := by decide +kernel
theorem dX1_addQuarter_14 : decode cX1_addQuarter 14 = .ok (.aload_n 0, 1) := by decide +kernel
theorem dX1_addQuarter_15 : decode cX1_addQuarter 15 = .ok (.iconst 1, 1) := by decide +kernel
theorem dX1_addQuarter_16 : decode cX1_addQuarter 16 = .ok (.invokevirtual 88, 3) := by decide +kernel
theorem dX1_addQuarter_19 : decode cX1_addQuarter 19 = .ok (.ireturn, 1) := by decide +kernel
theorem dX1_addQuarter_20 : decode cX1_addQuarter 20 = .ok (.aload_n 0, 1) := by decide +kernel
theorem dX1_addQuarter_21 : decode cX1_addQuarter 21 = .ok (.dup, 1) := by decide +kernel
theorem dX1_addQuarter_22 : decode cX1_addQuarter 22 = .ok (.getfield 51, 3) := by decide +kernel
theorem dX1_addQuarter_25 : decode cX1_addQuarter 25 = .ok (.iconst 1, 1) := by decide +kernel
theorem dX1_addQuarter_26 : decode cX1_addQuarter 26 = .ok (.iadd, 1) := by decide +kernel
theorem dX1_addQuarter_27 : decode cX1_addQuarter 27 = .ok (.putfield 51, 3) := by decide +kernel
theorem dX1_addQuarter_30 : decode cX1_addQuarter 30 = .ok (.aload_n 0, 1) := by decide +kernel
theorem dX1_addQuarter_31 : decode cX1_addQuarter 31 = .ok (.getfield 51, 3) := by decide +kernel
theorem dX1_addQuarter_34 : decode cX1_addQuarter 34 = .ok (.iconst 1, 1) := by decide +kernel
theorem dX1_addQuarter_35 : decode cX1_addQuarter 35 = .ok (.isub, 1) := by decide +kernel
theorem dX1_addQuarter_36 : decode cX1_addQuarter 36 = .ok (.ireturn, 1) := by decide +kernel
set_option maxRecDepth 20000 in
theorem ggX1_addPerson_X1_isTrade : GoodIn wsX1_addPerson wsX1_isTrade := goodIn_r _ [7, 8, 9, 6, 10] (by decide +kernel) (by decide +kernel)
set_option maxRecDepth 20000 in
theorem gX1_addPerson_X1_isTrade : GoodIn wsX1_addPerson (va_wsS RX1 91 yX1_isTrade wsX1_isTrade) := goodIn_app (goodIn_of _ (by decide +kernel)) ggX1_addPerson_X1_isTrade
set_option maxRecDepth 20000 in
theorem ggX1_addPerson_X1_fail : GoodIn wsX1_addPerson wsX1_fail := goodIn_r _ [14, 1, 15, 16, 17, 18, 19, 20, 21, 22, 23, 24, 25, 26, 27, 28, 29, 30, 31, 32] (by decide +kernel) (by decide +kernel)
set_option maxRecDepth 20000 in
theorem gX1_addPerson_X1_fail : GoodIn wsX1_addPerson (wsV RX1 88 RX1 yX1_fail wsX1_fail) := goodIn_app (goodIn_of _ (by decide +kernel)) ggX1_addPerson_X1_fail
theorem dX1_addPerson_0 : decode cX1_addPerson 0 = .ok (.aload_n 0, 1) := by decide +kernel
theorem dX1_addPerson_1 : decode cX1_addPerson 1 = .ok (.iconst 0, 1) := by decide +kernel
theorem dX1_addPerson_2 : decode cX1_addPerson 2 = .ok (.putfield 47, 3) := by decide +kernel
theorem dX1_addPerson_5 : decode cX1_addPerson 5 = .ok (.iload_n 1, 1) := by decide +kernel
theorem dX1_addPerson_6 : decode cX1_addPerson 6 = .ok (.invokestatic 91, 3) := by decide +kernel
theorem dX1_addPerson_9 : decode cX1_addPerson 9 = .ok (.ifCond .ne 9, 3) := by decide +kernel
theorem dX1_addPerson_12 : decode cX1_addPerson 12 = .ok (.aload_n 0, 1) := by decide +kernel
theorem dX1_addPerson_13 : decode cX1_addPerson 13 = .ok (.iconst 1, 1) := by decide +kernel
theorem dX1_addPerson_14 : decode cX1_addPerson 14 = .ok (.invokevirtual 88, 3) := by decide +kernel
theorem dX1_addPerson_17 : decode cX1_addPerson 17 = .ok (.ireturn, 1) := by decide +kernel
theorem dX1_addPerson_18 : decode cX1_addPerson 18 = .ok (.aload_n 0, 1) := by decide +kernel
theorem dX1_addPerson_19 : decode cX1_addPerson 19 = .ok (.getfield 61, 3) := by decide +kernel
theorem dX1_addPerson_22 : decode cX1_addPerson 22 = .ok (.bipush 20, 2) := by decide +kernel
theorem dX1_addPerson_24 : decode cX1_addPerson 24 = .ok (.if_icmp .ne 9, 3) := by decide +kernel
theorem dX1_addPerson_27 : decode cX1_addPerson 27 = .ok (.aload_n 0, 1) := by decide +kernel
theorem dX1_addPerson_28 : decode cX1_addPerson 28 = .ok (.iconst 2, 1) := by decide +kernel
theorem dX1_addPerson_29 : decode cX1_addPerson 29 = .ok (.invokevirtual 88, 3) := by decide +kernel
theorem dX1_addPerson_32 : decode cX1_addPerson 32 = .ok (.ireturn, 1) := by decide +kernel
theorem dX1_addPerson_33 : decode cX1_addPerson 33 = .ok (.aload_n 0, 1) := by decide +kernel
theorem dX1_addPerson_34 : decode cX1_addPerson 34 = .ok (.getfield 29, 3) := by decide +kernel
theorem dX1_addPerson_37 : decode cX1_addPerson 37 = .ok (.aload_n 0, 1) := by decide +kernel
theorem dX1_addPerson_38 : decode cX1_addPerson 38 = .ok (.getfield 61, 3) := by decide +kernel
theorem dX1_addPerson_41 : decode cX1_addPerson 41 = .ok (.iload_n 1, 1) := by decide +kernel
theorem dX1_addPerson_42 : decode cX1_addPerson 42 = .ok (.iastore, 1) := by decide +kernel
theorem dX1_addPerson_43 : decode cX1_addPerson 43 = .ok (.aload_n 0, 1) := by decide +kernel
theorem dX1_addPerson_44 : decode cX1_addPerson 44 = .ok (.dup, 1) := by decide +kernel
theorem dX1_addPerson_45 : decode cX1_addPerson 45 = .ok (.getfield 61, 3) := by decide +kernel
theorem dX1_addPerson_48 : decode cX1_addPerson 48 = .ok (.iconst 1, 1) := by decide +kernel
theorem dX1_addPerson_49 : decode cX1_addPerson 49 = .ok (.iadd, 1) := by decide +kernel
theorem dX1_addPerson_50 : decode cX1_addPerson 50 = .ok (.putfield 61, 3) := by decide +kernel
theorem dX1_addPerson_53 : decode cX1_addPerson 53 = .ok (.aload_n 0, 1) := by decide +kernel
theorem dX1_addPerson_54 : decode cX1_addPerson 54 = .ok (.getfield 61, 3) := by decide +kernel
theorem dX1_addPerson_57 : decode cX1_addPerson 57 = .ok (.iconst 1, 1) := by decide +kernel
theorem dX1_addPerson_58 : decode cX1_addPerson 58 = .ok (.isub, 1) := by decide +kernel
theorem dX1_addPerson_59 : decode cX1_addPerson 59 = .ok (.ireturn, 1) := by decide +kernel
set_option maxRecDepth 20000 in
theorem ggX1_addOrder_X1_isQuarter : GoodIn wsX1_addOrder wsX1_isQuarter := goodIn_r _ [12, 13, 14, 15, 11, 16, 24, 25, 26, 27, 28, 29, 30, 31, 32, 33, 34, 35, 36, 37, 38, 39, 40, 41] (by decide +kernel) (by decide +kernel)
set_option maxRecDepth 20000 in
theorem gX1_addOrder_X1_isQuarter : GoodIn wsX1_addOrder (wsV RX1 95 RX1 yX1_isQuarter wsX1_isQuarter) := goodIn_app (goodIn_of _ (by decide +kernel)) ggX1_addOrder_X1_isQuarter
set_option maxRecDepth 20000 in
theorem ggX1_addOrder_X1_isColour : GoodIn wsX1_addOrder wsX1_isColour := goodIn_r _ [19, 14, 15, 11, 16] (by decide +kernel) (by decide +kernel)
set_option maxRecDepth 20000 in
theorem gX1_addOrder_X1_isColour : GoodIn wsX1_addOrder (va_wsS RX1 98 yX1_isColour wsX1_isColour) := goodIn_app (goodIn_of _ (by decide +kernel)) ggX1_addOrder_X1_isColour
set_option maxRecDepth 20000 in
theorem ggX1_addOrder_X1_fail : GoodIn wsX1_addOrder wsX1_fail := goodIn_r _ [23, 1, 24, 25, 26, 27, 28, 29, 30, 31, 32, 33, 34, 35, 36, 37, 38, 39, 40, 41] (by decide +kernel) (by decide +kernel)
set_option maxRecDepth 20000 in
theorem gX1_addOrder_X1_fail : GoodIn wsX1_addOrder (wsV RX1 88 RX1 yX1_fail wsX1_fail) := goodIn_app (goodIn_of _ (by decide +kernel)) ggX1_addOrder_X1_fail
set_option maxRecDepth 20000 in
theorem ggX1_addOrder_X1_isIn : GoodIn wsX1_addOrder wsX1_isIn := goodIn_r _ [16] (by decide +kernel) (by decide +kernel)
set_option maxRecDepth 20000 in
theorem gX1_addOrder_X1_isIn : GoodIn wsX1_addOrder (va_wsS RX1 54 yX1_isIn wsX1_isIn) := goodIn_app (goodIn_of _ (by decide +kernel)) ggX1_addOrder_X1_isIn
theorem dX1_addOrder_0 : decode cX1_addOrder 0 = .ok (.aload_n 0, 1) := by decide +kernel
theorem dX1_addOrder_1 : decode cX1_addOrder 1 = .ok (.iconst 0, 1) := by decide +kernel
theorem dX1_addOrder_2 : decode cX1_addOrder 2 = .ok (.putfield 47, 3) := by decide +kernel
theorem dX1_addOrder_5 : decode cX1_addOrder 5 = .ok (.aload_n 0, 1) := by decide +kernel
theorem dX1_addOrder_6 : decode cX1_addOrder 6 = .ok (.iload_n 1, 1) := by decide +kernel
theorem dX1_addOrder_7 : decode cX1_addOrder 7 = .ok (.invokevirtual 95, 3) := by decide +kernel
theorem dX1_addOrder_10 : decode cX1_addOrder 10 = .ok (.ifCond .eq 11, 3) := by decide +kernel
theorem dX1_addOrder_13 : decode cX1_addOrder 13 = .ok (.iload 4, 2) := by decide +kernel
theorem dX1_addOrder_15 : decode cX1_addOrder 15 = .ok (.invokestatic 98, 3) := by decide +kernel
theorem dX1_addOrder_18 : decode cX1_addOrder 18 = .ok (.ifCond .ne 9, 3) := by decide +kernel
theorem dX1_addOrder_21 : decode cX1_addOrder 21 = .ok (.aload_n 0, 1) := by decide +kernel
theorem dX1_addOrder_22 : decode cX1_addOrder 22 = .ok (.iconst 1, 1) := by decide +kernel
theorem dX1_addOrder_23 : decode cX1_addOrder 23 = .ok (.invokevirtual 88, 3) := by decide +kernel
theorem dX1_addOrder_26 : decode cX1_addOrder 26 = .ok (.ireturn, 1) := by decide +kernel
theorem dX1_addOrder_27 : decode cX1_addOrder 27 = .ok (.iload_n 2, 1) := by decide +kernel
theorem dX1_addOrder_28 : decode cX1_addOrder 28 = .ok (.iconst 0, 1) := by decide +kernel
theorem dX1_addOrder_29 : decode cX1_addOrder 29 = .ok (.iconst 4, 1) := by decide +kernel
theorem dX1_addOrder_30 : decode cX1_addOrder 30 = .ok (.invokestatic 54, 3) := by decide +kernel
theorem dX1_addOrder_33 : decode cX1_addOrder 33 = .ok (.ifCond .eq 12, 3) := by decide +kernel
theorem dX1_addOrder_36 : decode cX1_addOrder 36 = .ok (.iload_n 3, 1) := by decide +kernel
theorem dX1_addOrder_37 : decode cX1_addOrder 37 = .ok (.iconst 0, 1) := by decide +kernel
theorem dX1_addOrder_38 : decode cX1_addOrder 38 = .ok (.iconst 4, 1) := by decide +kernel
theorem dX1_addOrder_39 : decode cX1_addOrder 39 = .ok (.invokestatic 54, 3) := by decide +kernel
theorem dX1_addOrder_42 : decode cX1_addOrder 42 = .ok (.ifCond .ne 9, 3) := by decide +kernel
theorem dX1_addOrder_45 : decode cX1_addOrder 45 = .ok (.aload_n 0, 1) := by decide +kernel
theorem dX1_addOrder_46 : decode cX1_addOrder 46 = .ok (.iconst 2, 1) := by decide +kernel
theorem dX1_addOrder_47 : decode cX1_addOrder 47 = .ok (.invokevirtual 88, 3) := by decide +kernel
theorem dX1_addOrder_50 : decode cX1_addOrder 50 = .ok (.ireturn, 1) := by decide +kernel
theorem dX1_addOrder_51 : decode cX1_addOrder 51 = .ok (.aload_n 0, 1) := by decide +kernel
theorem dX1_addOrder_52 : decode cX1_addOrder 52 = .ok (.getfield 58, 3) := by decide +kernel
theorem dX1_addOrder_55 : decode cX1_addOrder 55 = .ok (.bipush 10, 2) := by decide +kernel
theorem dX1_addOrder_57 : decode cX1_addOrder 57 = .ok (.if_icmp .ne 9, 3) := by decide +kernel
theorem dX1_addOrder_60 : decode cX1_addOrder 60 = .ok (.aload_n 0, 1) := by decide +kernel
theorem dX1_addOrder_61 : decode cX1_addOrder 61 = .ok (.iconst 3, 1) := by decide +kernel
theorem dX1_addOrder_62 : decode cX1_addOrder 62 = .ok (.invokevirtual 88, 3) := by decide +kernel
theorem dX1_addOrder_65 : decode cX1_addOrder 65 = .ok (.ireturn, 1) := by decide +kernel
theorem dX1_addOrder_66 : decode cX1_addOrder 66 = .ok (.aload_n 0, 1) := by decide +kernel
theorem dX1_addOrder_67 : decode cX1_addOrder 67 = .ok (.getfield 9, 3) := by decide +kernel
theorem dX1_addOrder_70 : decode cX1_addOrder 70 = .ok (.aload_n 0, 1) := by decide +kernel
theorem dX1_addOrder_71 : decode cX1_addOrder 71 = .ok (.getfield 58, 3) := by decide +kernel
theorem dX1_addOrder_74 : decode cX1_addOrder 74 = .ok (.iload_n 1, 1) := by decide +kernel
theorem dX1_addOrder_75 : decode cX1_addOrder 75 = .ok (.iastore, 1) := by decide +kernel
theorem dX1_addOrder_76 : decode cX1_addOrder 76 = .ok (.aload_n 0, 1) := by decide +kernel
theorem dX1_addOrder_77 : decode cX1_addOrder 77 = .ok (.getfield 13, 3) := by decide +kernel
theorem dX1_addOrder_80 : decode cX1_addOrder 80 = .ok (.aload_n 0, 1) := by decide +kernel
theorem dX1_addOrder_81 : decode cX1_addOrder 81 = .ok (.getfield 58, 3) := by decide +kernel
theorem dX1_addOrder_84 : decode cX1_addOrder 84 = .ok (.iload_n 2, 1) := by decide +kernel
theorem dX1_addOrder_85 : decode cX1_addOrder 85 = .ok (.iastore, 1) := by decide +kernel
theorem dX1_addOrder_86 : decode cX1_addOrder 86 = .ok (.aload_n 0, 1) := by decide +kernel
theorem dX1_addOrder_87 : decode cX1_addOrder 87 = .ok (.getfield 16, 3) := by decide +kernel
theorem dX1_addOrder_90 : decode cX1_addOrder 90 = .ok (.aload_n 0, 1) := by decide +kernel
theorem dX1_addOrder_91 : decode cX1_addOrder 91 = .ok (.getfield 58, 3) := by decide +kernel
theorem dX1_addOrder_94 : decode cX1_addOrder 94 = .ok (.iload_n 3, 1) := by decide +kernel
theorem dX1_addOrder_95 : decode cX1_addOrder 95 = .ok (.iastore, 1) := by decide +kernel
theorem dX1_addOrder_96 : decode cX1_addOrder 96 = .ok (.aload_n 0, 1) := by decide +kernel
theorem dX1_addOrder_97 : decode cX1_addOrder 97 = .ok (.getfield 19, 3) := by decide +kernel
theorem dX1_addOrder_100 : decode cX1_addOrder 100 = .ok (.aload_n 0, 1) := by decide +kernel
theorem dX1_addOrder_101 : decode cX1_addOrder 101 = .ok (.getfield 58, 3) := by decide +kernel
theorem dX1_addOrder_104 : decode cX1_addOrder 104 = .ok (.iload 4, 2) := by decide +kernel
theorem dX1_addOrder_106 : decode cX1_addOrder 106 = .ok (.iastore, 1) := by decide +kernel
theorem dX1_addOrder_107 : decode cX1_addOrder 107 = .ok (.aload_n 0, 1) := by decide +kernel
theorem dX1_addOrder_108 : decode cX1_addOrder 108 = .ok (.getfield 25, 3) := by decide +kernel
theorem dX1_addOrder_111 : decode cX1_addOrder 111 = .ok (.aload_n 0, 1) := by decide +kernel
theorem dX1_addOrder_112 : decode cX1_addOrder 112 = .ok (.getfield 58, 3) := by decide +kernel
theorem dX1_addOrder_115 : decode cX1_addOrder 115 = .ok (.iconst 1, 1) := by decide +kernel
theorem dX1_addOrder_116 : decode cX1_addOrder 116 = .ok (.bastore, 1) := by decide +kernel
theorem dX1_addOrder_117 : decode cX1_addOrder 117 = .ok (.aload_n 0, 1) := by decide +kernel
theorem dX1_addOrder_118 : decode cX1_addOrder 118 = .ok (.dup, 1) := by decide +kernel
theorem dX1_addOrder_119 : decode cX1_addOrder 119 = .ok (.getfield 58, 3) := by decide +kernel
theorem dX1_addOrder_122 : decode cX1_addOrder 122 = .ok (.iconst 1, 1) := by decide +kernel
theorem dX1_addOrder_123 : decode cX1_addOrder 123 = .ok (.iadd, 1) := by decide +kernel
theorem dX1_addOrder_124 : decode cX1_addOrder 124 = .ok (.putfield 58, 3) := by decide +kernel
theorem dX1_addOrder_127 : decode cX1_addOrder 127 = .ok (.aload_n 0, 1) := by decide +kernel
theorem dX1_addOrder_128 : decode cX1_addOrder 128 = .ok (.getfield 58, 3) := by decide +kernel
theorem dX1_addOrder_131 : decode cX1_addOrder 131 = .ok (.iconst 1, 1) := by decide +kernel
theorem dX1_addOrder_132 : decode cX1_addOrder 132 = .ok (.isub, 1) := by decide +kernel
theorem dX1_addOrder_133 : decode cX1_addOrder 133 = .ok (.ireturn, 1) := by decide +kernel
set_option maxRecDepth 20000 in
theorem ggX1_turnExempt_X1_isOrder : GoodIn wsX1_turnExempt wsX1_isOrder := goodIn_r _ [7, 8, 9, 10, 6, 11, 19, 20, 21, 22, 23, 24, 25, 26, 27, 28, 29, 30, 31, 32, 33, 34, 35, 36] (by decide +kernel) (by decide +kernel)
set_option maxRecDepth 20000 in
theorem gX1_turnExempt_X1_isOrder : GoodIn wsX1_turnExempt (wsV RX1 101 RX1 yX1_isOrder wsX1_isOrder) := goodIn_app (goodIn_of _ (by decide +kernel)) ggX1_turnExempt_X1_isOrder
set_option maxRecDepth 20000 in
theorem ggX1_turnExempt_X1_isTrade : GoodIn wsX1_turnExempt wsX1_isTrade := goodIn_r _ [14, 9, 10, 6, 11] (by decide +kernel) (by decide +kernel)
set_option maxRecDepth 20000 in
theorem gX1_turnExempt_X1_isTrade : GoodIn wsX1_turnExempt (va_wsS RX1 91 yX1_isTrade wsX1_isTrade) := goodIn_app (goodIn_of _ (by decide +kernel)) ggX1_turnExempt_X1_isTrade
set_option maxRecDepth 20000 in
theorem ggX1_turnExempt_X1_failed : GoodIn wsX1_turnExempt wsX1_failed := goodIn_r _ [18, 1, 19, 20, 21, 22, 23, 24, 25, 26, 27, 28, 29, 30, 31, 32, 33, 34, 35, 36] (by decide +kernel) (by decide +kernel)
set_option maxRecDepth 20000 in
theorem gX1_turnExempt_X1_failed : GoodIn wsX1_turnExempt (wsV RX1 104 RX1 yX1_failed wsX1_failed) := goodIn_app (goodIn_of _ (by decide +kernel)) ggX1_turnExempt_X1_failed
theorem dX1_turnExempt_0 : decode cX1_turnExempt 0 = .ok (.aload_n 0, 1) := by decide +kernel
theorem dX1_turnExempt_1 : decode cX1_turnExempt 1 = .ok (.iconst 0, 1) := by decide +kernel
theorem dX1_turnExempt_2 : decode cX1_turnExempt 2 = .ok (.putfield 47, 3) := by decide +kernel
theorem dX1_turnExempt_5 : decode cX1_turnExempt 5 = .ok (.aload_n 0, 1) := by decide +kernel
theorem dX1_turnExempt_6 : decode cX1_turnExempt 6 = .ok (.iload_n 1, 1) := by decide +kernel
theorem dX1_turnExempt_7 : decode cX1_turnExempt 7 = .ok (.invokevirtual 101, 3) := by decide +kernel
theorem dX1_turnExempt_10 : decode cX1_turnExempt 10 = .ok (.ifCond .eq 10, 3) := by decide +kernel
theorem dX1_turnExempt_13 : decode cX1_turnExempt 13 = .ok (.iload_n 2, 1) := by decide +kernel
theorem dX1_turnExempt_14 : decode cX1_turnExempt 14 = .ok (.invokestatic 91, 3) := by decide +kernel
theorem dX1_turnExempt_17 : decode cX1_turnExempt 17 = .ok (.ifCond .ne 9, 3) := by decide +kernel
theorem dX1_turnExempt_20 : decode cX1_turnExempt 20 = .ok (.aload_n 0, 1) := by decide +kernel
theorem dX1_turnExempt_21 : decode cX1_turnExempt 21 = .ok (.iconst 1, 1) := by decide +kernel
theorem dX1_turnExempt_22 : decode cX1_turnExempt 22 = .ok (.invokevirtual 104, 3) := by decide +kernel
theorem dX1_turnExempt_25 : decode cX1_turnExempt 25 = .ok (.ireturn, 1) := by decide +kernel
theorem dX1_turnExempt_26 : decode cX1_turnExempt 26 = .ok (.aload_n 0, 1) := by decide +kernel
theorem dX1_turnExempt_27 : decode cX1_turnExempt 27 = .ok (.getfield 22, 3) := by decide +kernel
theorem dX1_turnExempt_30 : decode cX1_turnExempt 30 = .ok (.iload_n 1, 1) := by decide +kernel
theorem dX1_turnExempt_31 : decode cX1_turnExempt 31 = .ok (.dup2, 1) := by decide +kernel
theorem dX1_turnExempt_32 : decode cX1_turnExempt 32 = .ok (.iaload, 1) := by decide +kernel
theorem dX1_turnExempt_33 : decode cX1_turnExempt 33 = .ok (.iconst 1, 1) := by decide +kernel
theorem dX1_turnExempt_34 : decode cX1_turnExempt 34 = .ok (.iload_n 2, 1) := by decide +kernel
theorem dX1_turnExempt_35 : decode cX1_turnExempt 35 = .ok (.ishl, 1) := by decide +kernel
theorem dX1_turnExempt_36 : decode cX1_turnExempt 36 = .ok (.ixor, 1) := by decide +kernel
theorem dX1_turnExempt_37 : decode cX1_turnExempt 37 = .ok (.iastore, 1) := by decide +kernel
theorem dX1_turnExempt_38 : decode cX1_turnExempt 38 = .ok (.aload_n 0, 1) := by decide +kernel
theorem dX1_turnExempt_39 : decode cX1_turnExempt 39 = .ok (.getfield 22, 3) := by decide +kernel
theorem dX1_turnExempt_42 : decode cX1_turnExempt 42 = .ok (.iload_n 1, 1) := by decide +kernel
theorem dX1_turnExempt_43 : decode cX1_turnExempt 43 = .ok (.iaload, 1) := by decide +kernel
theorem dX1_turnExempt_44 : decode cX1_turnExempt 44 = .ok (.iload_n 2, 1) := by decide +kernel
theorem dX1_turnExempt_45 : decode cX1_turnExempt 45 = .ok (.ishr, 1) := by decide +kernel
theorem dX1_turnExempt_46 : decode cX1_turnExempt 46 = .ok (.iconst 1, 1) := by decide +kernel
theorem dX1_turnExempt_47 : decode cX1_turnExempt 47 = .ok (.iand, 1) := by decide +kernel
theorem dX1_turnExempt_48 : decode cX1_turnExempt 48 = .ok (.iconst 1, 1) := by decide +kernel
theorem dX1_turnExempt_49 : decode cX1_turnExempt 49 = .ok (.if_icmp .ne 7, 3) := by decide +kernel
theorem dX1_turnExempt_52 : decode cX1_turnExempt 52 = .ok (.iconst 1, 1) := by decide +kernel
theorem dX1_turnExempt_53 : decode cX1_turnExempt 53 = .ok (.goto 4, 3) := by decide +kernel
theorem dX1_turnExempt_56 : decode cX1_turnExempt 56 = .ok (.iconst 0, 1) := by decide +kernel
theorem dX1_turnExempt_57 : decode cX1_turnExempt 57 = .ok (.ireturn, 1) := by decide +kernel
set_option maxRecDepth 20000 in
theorem ggX1_turnOrder_X1_isOrder : GoodIn wsX1_turnOrder wsX1_isOrder := goodIn_r _ [7, 8, 9, 10, 6, 11, 16, 17, 18, 19, 20, 21, 22, 23, 24, 25, 26, 27, 28, 29, 30, 31, 32, 33] (by decide +kernel) (by decide +kernel)
set_option maxRecDepth 20000 in
theorem gX1_turnOrder_X1_isOrder : GoodIn wsX1_turnOrder (wsV RX1 101 RX1 yX1_isOrder wsX1_isOrder) := goodIn_app (goodIn_of _ (by decide +kernel)) ggX1_turnOrder_X1_isOrder
set_option maxRecDepth 20000 in
theorem ggX1_turnOrder_X1_failed : GoodIn wsX1_turnOrder wsX1_failed := goodIn_r _ [15, 1, 16, 17, 18, 19, 20, 21, 22, 23, 24, 25, 26, 27, 28, 29, 30, 31, 32, 33] (by decide +kernel) (by decide +kernel)
set_option maxRecDepth 20000 in
theorem gX1_turnOrder_X1_failed : GoodIn wsX1_turnOrder (wsV RX1 104 RX1 yX1_failed wsX1_failed) := goodIn_app (goodIn_of _ (by decide +kernel)) ggX1_turnOrder_X1_failed
theorem dX1_turnOrder_0 : decode cX1_turnOrder 0 = .ok (.aload_n 0, 1) := by decide +kernel
theorem dX1_turnOrder_1 : decode cX1_turnOrder 1 = .ok (.iconst 0, 1) := by decide +kernel
theorem dX1_turnOrder_2 : decode cX1_turnOrder 2 = .ok (.putfield 47, 3) := by decide +kernel
theorem dX1_turnOrder_5 : decode cX1_turnOrder 5 = .ok (.aload_n 0, 1) := by decide +kernel
theorem dX1_turnOrder_6 : decode cX1_turnOrder 6 = .ok (.iload_n 1, 1) := by decide +kernel
theorem dX1_turnOrder_7 : decode cX1_turnOrder 7 = .ok (.invokevirtual 101, 3) := by decide +kernel
theorem dX1_turnOrder_10 : decode cX1_turnOrder 10 = .ok (.ifCond .ne 9, 3) := by decide +kernel
theorem dX1_turnOrder_13 : decode cX1_turnOrder 13 = .ok (.aload_n 0, 1) := by decide +kernel
theorem dX1_turnOrder_14 : decode cX1_turnOrder 14 = .ok (.iconst 1, 1) := by decide +kernel
theorem dX1_turnOrder_15 : decode cX1_turnOrder 15 = .ok (.invokevirtual 104, 3) := by decide +kernel
theorem dX1_turnOrder_18 : decode cX1_turnOrder 18 = .ok (.ireturn, 1) := by decide +kernel
theorem dX1_turnOrder_19 : decode cX1_turnOrder 19 = .ok (.aload_n 0, 1) := by decide +kernel
theorem dX1_turnOrder_20 : decode cX1_turnOrder 20 = .ok (.getfield 25, 3) := by decide +kernel
theorem dX1_turnOrder_23 : decode cX1_turnOrder 23 = .ok (.iload_n 1, 1) := by decide +kernel
theorem dX1_turnOrder_24 : decode cX1_turnOrder 24 = .ok (.aload_n 0, 1) := by decide +kernel
theorem dX1_turnOrder_25 : decode cX1_turnOrder 25 = .ok (.getfield 25, 3) := by decide +kernel
theorem dX1_turnOrder_28 : decode cX1_turnOrder 28 = .ok (.iload_n 1, 1) := by decide +kernel
theorem dX1_turnOrder_29 : decode cX1_turnOrder 29 = .ok (.baload, 1) := by decide +kernel
theorem dX1_turnOrder_30 : decode cX1_turnOrder 30 = .ok (.ifCond .ne 7, 3) := by decide +kernel
theorem dX1_turnOrder_33 : decode cX1_turnOrder 33 = .ok (.iconst 1, 1) := by decide +kernel
theorem dX1_turnOrder_34 : decode cX1_turnOrder 34 = .ok (.goto 4, 3) := by decide +kernel
theorem dX1_turnOrder_37 : decode cX1_turnOrder 37 = .ok (.iconst 0, 1) := by decide +kernel
theorem dX1_turnOrder_38 : decode cX1_turnOrder 38 = .ok (.bastore, 1) := by decide +kernel
theorem dX1_turnOrder_39 : decode cX1_turnOrder 39 = .ok (.aload_n 0, 1) := by decide +kernel
theorem dX1_turnOrder_40 : decode cX1_turnOrder 40 = .ok (.getfield 25, 3) := by decide +kernel
theorem dX1_turnOrder_43 : decode cX1_turnOrder 43 = .ok (.iload_n 1, 1) := by decide +kernel
theorem dX1_turnOrder_44 : decode cX1_turnOrder 44 = .ok (.baload, 1) := by decide +kernel
theorem dX1_turnOrder_45 : decode cX1_turnOrder 45 = .ok (.ireturn, 1) := by decide +kernel
set_option maxRecDepth 20000 in
theorem ggX1_setShift_X1_isIn : GoodIn wsX1_setShift wsX1_isIn := goodIn_r _ [6] (by decide +kernel) (by decide +kernel)
set_option maxRecDepth 20000 in
theorem gX1_setShift_X1_isIn : GoodIn wsX1_setShift (va_wsS RX1 54 yX1_isIn wsX1_isIn) := goodIn_app (goodIn_of _ (by decide +kernel)) ggX1_setShift_X1_isIn
set_option maxRecDepth 20000 in
theorem ggX1_setShift_X1_fail : GoodIn wsX1_setShift wsX1_fail := goodIn_r _ [10, 1, 11, 12, 13, 14, 15, 16, 17, 18, 19, 20, 21, 22, 23, 24, 25, 26, 27, 28] (by decide +kernel) (by decide +kernel)
set_option maxRecDepth 20000 in
theorem gX1_setShift_X1_fail : GoodIn wsX1_setShift (wsV RX1 88 RX1 yX1_fail wsX1_fail) := goodIn_app (goodIn_of _ (by decide +kernel)) ggX1_setShift_X1_fail
theorem dX1_setShift_0 : decode cX1_setShift 0 = .ok (.aload_n 0, 1) := by decide +kernel
theorem dX1_setShift_1 : decode cX1_setShift 1 = .ok (.iconst 0, 1) := by decide +kernel
theorem dX1_setShift_2 : decode cX1_setShift 2 = .ok (.putfield 47, 3) := by decide +kernel
theorem dX1_setShift_5 : decode cX1_setShift 5 = .ok (.iload_n 1, 1) := by decide +kernel
theorem dX1_setShift_6 : decode cX1_setShift 6 = .ok (.bipush (-4), 2) := by decide +kernel
theorem dX1_setShift_8 : decode cX1_setShift 8 = .ok (.iconst 4, 1) := by decide +kernel
theorem dX1_setShift_9 : decode cX1_setShift 9 = .ok (.invokestatic 54, 3) := by decide +kernel
theorem dX1_setShift_12 : decode cX1_setShift 12 = .ok (.ifCond .ne 9, 3) := by decide +kernel
theorem dX1_setShift_15 : decode cX1_setShift 15 = .ok (.aload_n 0, 1) := by decide +kernel
theorem dX1_setShift_16 : decode cX1_setShift 16 = .ok (.iconst 1, 1) := by decide +kernel
theorem dX1_setShift_17 : decode cX1_setShift 17 = .ok (.invokevirtual 88, 3) := by decide +kernel
theorem dX1_setShift_20 : decode cX1_setShift 20 = .ok (.ireturn, 1) := by decide +kernel
theorem dX1_setShift_21 : decode cX1_setShift 21 = .ok (.aload_n 0, 1) := by decide +kernel
theorem dX1_setShift_22 : decode cX1_setShift 22 = .ok (.getfield 68, 3) := by decide +kernel
theorem dX1_setShift_25 : decode cX1_setShift 25 = .ok (.istore_n 2, 1) := by decide +kernel
theorem dX1_setShift_26 : decode cX1_setShift 26 = .ok (.aload_n 0, 1) := by decide +kernel
theorem dX1_setShift_27 : decode cX1_setShift 27 = .ok (.iload_n 1, 1) := by decide +kernel
theorem dX1_setShift_28 : decode cX1_setShift 28 = .ok (.putfield 68, 3) := by decide +kernel
theorem dX1_setShift_31 : decode cX1_setShift 31 = .ok (.iload_n 2, 1) := by decide +kernel
theorem dX1_setShift_32 : decode cX1_setShift 32 = .ok (.ireturn, 1) := by decide +kernel
set_option maxRecDepth 20000 in
theorem ggX1_isPass_X1_isPerson : GoodIn wsX1_isPass wsX1_isPerson := goodIn_r _ [6, 7, 8, 9, 5, 10, 14, 15, 16, 17, 18, 19, 20, 21, 22, 23, 24, 25, 26, 27, 28, 29, 30, 31] (by decide +kernel) (by decide +kernel)
set_option maxRecDepth 20000 in
theorem gX1_isPass_X1_isPerson : GoodIn wsX1_isPass (wsV RX1 107 RX1 yX1_isPerson wsX1_isPerson) := goodIn_app (goodIn_of _ (by decide +kernel)) ggX1_isPass_X1_isPerson
set_option maxRecDepth 20000 in
theorem ggX1_isPass_X1_isColour : GoodIn wsX1_isPass wsX1_isColour := goodIn_r _ [13, 8, 9, 5, 10] (by decide +kernel) (by decide +kernel)
set_option maxRecDepth 20000 in
theorem gX1_isPass_X1_isColour : GoodIn wsX1_isPass (va_wsS RX1 98 yX1_isColour wsX1_isColour) := goodIn_app (goodIn_of _ (by decide +kernel)) ggX1_isPass_X1_isColour
theorem dX1_isPass_0 : decode cX1_isPass 0 = .ok (.aload_n 0, 1) := by decide +kernel
theorem dX1_isPass_1 : decode cX1_isPass 1 = .ok (.aload_n 0, 1) := by decide +kernel
theorem dX1_isPass_2 : decode cX1_isPass 2 = .ok (.iload_n 1, 1) := by decide +kernel
theorem dX1_isPass_3 : decode cX1_isPass 3 = .ok (.invokevirtual 107, 3) := by decide +kernel
theorem dX1_isPass_6 : decode cX1_isPass 6 = .ok (.ifCond .eq 14, 3) := by decide +kernel
theorem dX1_isPass_9 : decode cX1_isPass 9 = .ok (.iload_n 2, 1) := by decide +kernel
theorem dX1_isPass_10 : decode cX1_isPass 10 = .ok (.invokestatic 98, 3) := by decide +kernel
theorem dX1_isPass_13 : decode cX1_isPass 13 = .ok (.ifCond .eq 7, 3) := by decide +kernel
theorem dX1_isPass_16 : decode cX1_isPass 16 = .ok (.iconst 0, 1) := by decide +kernel
theorem dX1_isPass_17 : decode cX1_isPass 17 = .ok (.goto 4, 3) := by decide +kernel
theorem dX1_isPass_20 : decode cX1_isPass 20 = .ok (.iconst 1, 1) := by decide +kernel
theorem dX1_isPass_21 : decode cX1_isPass 21 = .ok (.putfield 47, 3) := by decide +kernel
theorem dX1_isPass_24 : decode cX1_isPass 24 = .ok (.aload_n 0, 1) := by decide +kernel
theorem dX1_isPass_25 : decode cX1_isPass 25 = .ok (.getfield 47, 3) := by decide +kernel
theorem dX1_isPass_28 : decode cX1_isPass 28 = .ok (.ifCond .ne 7, 3) := by decide +kernel
theorem dX1_isPass_31 : decode cX1_isPass 31 = .ok (.iconst 1, 1) := by decide +kernel
theorem dX1_isPass_32 : decode cX1_isPass 32 = .ok (.goto 4, 3) := by decide +kernel
theorem dX1_isPass_35 : decode cX1_isPass 35 = .ok (.iconst 0, 1) := by decide +kernel
theorem dX1_isPass_36 : decode cX1_isPass 36 = .ok (.ireturn, 1) := by decide +kernel
set_option maxRecDepth 20000 in
theorem ggX1_givePass_X1_isPass : GoodIn wsX1_givePass wsX1_isPass := goodIn_r _ [10, 11, 12, 13, 14, 9, 15, 16, 17, 18, 19, 20, 21, 22, 27, 28, 29, 30, 31, 32, 33, 34, 35, 36, 37, 38, 39, 40, 41, 42, 43, 44] (by decide +kernel) (by decide +kernel)
set_option maxRecDepth 20000 in
theorem gX1_givePass_X1_isPass : GoodIn wsX1_givePass (wsV RX1 110 RX1 yX1_isPass wsX1_isPass) := goodIn_app (goodIn_of _ (by decide +kernel)) ggX1_givePass_X1_isPass
set_option maxRecDepth 20000 in
theorem ggX1_givePass_X1_isIn : GoodIn wsX1_givePass wsX1_isIn := goodIn_r _ [19] (by decide +kernel) (by decide +kernel)
set_option maxRecDepth 20000 in
theorem gX1_givePass_X1_isIn : GoodIn wsX1_givePass (va_wsS RX1 54 yX1_isIn wsX1_isIn) := goodIn_app (goodIn_of _ (by decide +kernel)) ggX1_givePass_X1_isIn
set_option maxRecDepth 20000 in
theorem ggX1_givePass_X1_fail : GoodIn wsX1_givePass wsX1_fail := goodIn_r _ [26, 11, 27, 28, 29, 30, 31, 32, 33, 34, 35, 36, 37, 38, 39, 40, 41, 42, 43, 44] (by decide +kernel) (by decide +kernel)
set_option maxRecDepth 20000 in
theorem gX1_givePass_X1_fail : GoodIn wsX1_givePass (wsV RX1 88 RX1 yX1_fail wsX1_fail) := goodIn_app (goodIn_of _ (by decide +kernel)) ggX1_givePass_X1_fail
theorem dX1_givePass_0 : decode cX1_givePass 0 = .ok (.aload_n 0, 1) := by decide +kernel
theorem dX1_givePass_1 : decode cX1_givePass 1 = .ok (.iload_n 1, 1) := by decide +kernel
theorem dX1_givePass_2 : decode cX1_givePass 2 = .ok (.iload_n 2, 1) := by decide +kernel
theorem dX1_givePass_3 : decode cX1_givePass 3 = .ok (.invokevirtual 110, 3) := by decide +kernel
theorem dX1_givePass_6 : decode cX1_givePass 6 = .ok (.ifCond .ne 5, 3) := by decide +kernel
theorem dX1_givePass_9 : decode cX1_givePass 9 = .ok (.iconst 0, 1) := by decide +kernel
theorem dX1_givePass_10 : decode cX1_givePass 10 = .ok (.ireturn, 1) := by decide +kernel
theorem dX1_givePass_11 : decode cX1_givePass 11 = .ok (.iload_n 3, 1) := by decide +kernel
theorem dX1_givePass_12 : decode cX1_givePass 12 = .ok (.iconst 1, 1) := by decide +kernel
theorem dX1_givePass_13 : decode cX1_givePass 13 = .ok (.bipush 9, 2) := by decide +kernel
theorem dX1_givePass_15 : decode cX1_givePass 15 = .ok (.invokestatic 54, 3) := by decide +kernel
theorem dX1_givePass_18 : decode cX1_givePass 18 = .ok (.ifCond .ne 9, 3) := by decide +kernel
theorem dX1_givePass_21 : decode cX1_givePass 21 = .ok (.aload_n 0, 1) := by decide +kernel
theorem dX1_givePass_22 : decode cX1_givePass 22 = .ok (.iconst 2, 1) := by decide +kernel
theorem dX1_givePass_23 : decode cX1_givePass 23 = .ok (.invokevirtual 88, 3) := by decide +kernel
theorem dX1_givePass_26 : decode cX1_givePass 26 = .ok (.ireturn, 1) := by decide +kernel
theorem dX1_givePass_27 : decode cX1_givePass 27 = .ok (.iconst 4, 1) := by decide +kernel
theorem dX1_givePass_28 : decode cX1_givePass 28 = .ok (.iload_n 1, 1) := by decide +kernel
theorem dX1_givePass_29 : decode cX1_givePass 29 = .ok (.imul, 1) := by decide +kernel
theorem dX1_givePass_30 : decode cX1_givePass 30 = .ok (.iload_n 2, 1) := by decide +kernel
theorem dX1_givePass_31 : decode cX1_givePass 31 = .ok (.iadd, 1) := by decide +kernel
theorem dX1_givePass_32 : decode cX1_givePass 32 = .ok (.istore 4, 2) := by decide +kernel
theorem dX1_givePass_34 : decode cX1_givePass 34 = .ok (.aload_n 0, 1) := by decide +kernel
theorem dX1_givePass_35 : decode cX1_givePass 35 = .ok (.getfield 38, 3) := by decide +kernel
theorem dX1_givePass_38 : decode cX1_givePass 38 = .ok (.iload 4, 2) := by decide +kernel
theorem dX1_givePass_40 : decode cX1_givePass 40 = .ok (.bipush 9, 2) := by decide +kernel
theorem dX1_givePass_42 : decode cX1_givePass 42 = .ok (.aload_n 0, 1) := by decide +kernel
theorem dX1_givePass_43 : decode cX1_givePass 43 = .ok (.getfield 38, 3) := by decide +kernel
theorem dX1_givePass_46 : decode cX1_givePass 46 = .ok (.iload 4, 2) := by decide +kernel
theorem dX1_givePass_48 : decode cX1_givePass 48 = .ok (.iaload, 1) := by decide +kernel
theorem dX1_givePass_49 : decode cX1_givePass 49 = .ok (.iload_n 3, 1) := by decide +kernel
theorem dX1_givePass_50 : decode cX1_givePass 50 = .ok (.iadd, 1) := by decide +kernel
theorem dX1_givePass_51 : decode cX1_givePass 51 = .ok (.invokestatic 113, 3) := by decide +kernel
theorem dX1_givePass_54 : decode cX1_givePass 54 = .ok (.iastore, 1) := by decide +kernel
theorem dX1_givePass_55 : decode cX1_givePass 55 = .ok (.aload_n 0, 1) := by decide +kernel
theorem dX1_givePass_56 : decode cX1_givePass 56 = .ok (.getfield 38, 3) := by decide +kernel
theorem dX1_givePass_59 : decode cX1_givePass 59 = .ok (.iload 4, 2) := by decide +kernel
theorem dX1_givePass_61 : decode cX1_givePass 61 = .ok (.iaload, 1) := by decide +kernel
theorem dX1_givePass_62 : decode cX1_givePass 62 = .ok (.ireturn, 1) := by decide +kernel
set_option maxRecDepth 20000 in
theorem ggX1_takePass_X1_isPass : GoodIn wsX1_takePass wsX1_isPass := goodIn_r _ [6, 7, 8, 9, 10, 5, 11, 12, 13, 14, 15, 16, 17, 18, 19, 20, 21, 22, 23, 24, 25, 26, 27, 28, 29, 30, 31, 32, 33, 34, 35, 36] (by decide +kernel) (by decide +kernel)
set_option maxRecDepth 20000 in
theorem gX1_takePass_X1_isPass : GoodIn wsX1_takePass (wsV RX1 110 RX1 yX1_isPass wsX1_isPass) := goodIn_app (goodIn_of _ (by decide +kernel)) ggX1_takePass_X1_isPass
theorem dX1_takePass_0 : decode cX1_takePass 0 = .ok (.aload_n 0, 1) := by decide +kernel
theorem dX1_takePass_1 : decode cX1_takePass 1 = .ok (.iload_n 1, 1) := by decide +kernel
theorem dX1_takePass_2 : decode cX1_takePass 2 = .ok (.iload_n 2, 1) := by decide +kernel
theorem dX1_takePass_3 : decode cX1_takePass 3 = .ok (.invokevirtual 110, 3) := by decide +kernel
theorem dX1_takePass_6 : decode cX1_takePass 6 = .ok (.ifCond .ne 5, 3) := by decide +kernel
theorem dX1_takePass_9 : decode cX1_takePass 9 = .ok (.iconst 0, 1) := by decide +kernel
theorem dX1_takePass_10 : decode cX1_takePass 10 = .ok (.ireturn, 1) := by decide +kernel
theorem dX1_takePass_11 : decode cX1_takePass 11 = .ok (.aload_n 0, 1) := by decide +kernel
theorem dX1_takePass_12 : decode cX1_takePass 12 = .ok (.getfield 38, 3) := by decide +kernel
theorem dX1_takePass_15 : decode cX1_takePass 15 = .ok (.iconst 4, 1) := by decide +kernel
theorem dX1_takePass_16 : decode cX1_takePass 16 = .ok (.iload_n 1, 1) := by decide +kernel
theorem dX1_takePass_17 : decode cX1_takePass 17 = .ok (.imul, 1) := by decide +kernel
theorem dX1_takePass_18 : decode cX1_takePass 18 = .ok (.iload_n 2, 1) := by decide +kernel
theorem dX1_takePass_19 : decode cX1_takePass 19 = .ok (.iadd, 1) := by decide +kernel
theorem dX1_takePass_20 : decode cX1_takePass 20 = .ok (.iaload, 1) := by decide +kernel
theorem dX1_takePass_21 : decode cX1_takePass 21 = .ok (.istore_n 3, 1) := by decide +kernel
theorem dX1_takePass_22 : decode cX1_takePass 22 = .ok (.aload_n 0, 1) := by decide +kernel
theorem dX1_takePass_23 : decode cX1_takePass 23 = .ok (.getfield 38, 3) := by decide +kernel
theorem dX1_takePass_26 : decode cX1_takePass 26 = .ok (.iconst 4, 1) := by decide +kernel
theorem dX1_takePass_27 : decode cX1_takePass 27 = .ok (.iload_n 1, 1) := by decide +kernel
theorem dX1_takePass_28 : decode cX1_takePass 28 = .ok (.imul, 1) := by decide +kernel
theorem dX1_takePass_29 : decode cX1_takePass 29 = .ok (.iload_n 2, 1) := by decide +kernel
theorem dX1_takePass_30 : decode cX1_takePass 30 = .ok (.iadd, 1) := by decide +kernel
theorem dX1_takePass_31 : decode cX1_takePass 31 = .ok (.iconst 0, 1) := by decide +kernel
theorem dX1_takePass_32 : decode cX1_takePass 32 = .ok (.iastore, 1) := by decide +kernel
theorem dX1_takePass_33 : decode cX1_takePass 33 = .ok (.iload_n 3, 1) := by decide +kernel
theorem dX1_takePass_34 : decode cX1_takePass 34 = .ok (.ireturn, 1) := by decide +kernel
set_option maxRecDepth 20000 in
theorem ggX1_isPair_X1_isPerson : GoodIn wsX1_isPair wsX1_isPerson := goodIn_r _ [6, 7, 8, 9, 5, 10, 16, 17, 18, 19, 20, 21, 22, 23, 24, 25, 26, 27, 28, 29, 30, 31, 32, 33] (by decide +kernel) (by decide +kernel)
set_option maxRecDepth 20000 in
theorem gX1_isPair_X1_isPerson : GoodIn wsX1_isPair (wsV RX1 107 RX1 yX1_isPerson wsX1_isPerson) := goodIn_app (goodIn_of _ (by decide +kernel)) ggX1_isPair_X1_isPerson
set_option maxRecDepth 20000 in
theorem ggX1_isPair_X1_isQuarter : GoodIn wsX1_isPair wsX1_isQuarter := goodIn_r _ [14, 15, 8, 9, 5, 10, 16, 17, 18, 19, 20, 21, 22, 23, 24, 25, 26, 27, 28, 29, 30, 31, 32, 33] (by decide +kernel) (by decide +kernel)
set_option maxRecDepth 20000 in
theorem gX1_isPair_X1_isQuarter : GoodIn wsX1_isPair (wsV RX1 95 RX1 yX1_isQuarter wsX1_isQuarter) := goodIn_app (goodIn_of _ (by decide +kernel)) ggX1_isPair_X1_isQuarter
theorem dX1_isPair_0 : decode cX1_isPair 0 = .ok (.aload_n 0, 1) := by decide +kernel
theorem dX1_isPair_1 : decode cX1_isPair 1 = .ok (.aload_n 0, 1) := by decide +kernel
theorem dX1_isPair_2 : decode cX1_isPair 2 = .ok (.iload_n 1, 1) := by decide +kernel
theorem dX1_isPair_3 : decode cX1_isPair 3 = .ok (.invokevirtual 107, 3) := by decide +kernel
theorem dX1_isPair_6 : decode cX1_isPair 6 = .ok (.ifCond .eq 15, 3) := by decide +kernel
theorem dX1_isPair_9 : decode cX1_isPair 9 = .ok (.aload_n 0, 1) := by decide +kernel
theorem dX1_isPair_10 : decode cX1_isPair 10 = .ok (.iload_n 2, 1) := by decide +kernel
theorem dX1_isPair_11 : decode cX1_isPair 11 = .ok (.invokevirtual 95, 3) := by decide +kernel
theorem dX1_isPair_14 : decode cX1_isPair 14 = .ok (.ifCond .eq 7, 3) := by decide +kernel
theorem dX1_isPair_17 : decode cX1_isPair 17 = .ok (.iconst 0, 1) := by decide +kernel
theorem dX1_isPair_18 : decode cX1_isPair 18 = .ok (.goto 4, 3) := by decide +kernel
theorem dX1_isPair_21 : decode cX1_isPair 21 = .ok (.iconst 1, 1) := by decide +kernel
theorem dX1_isPair_22 : decode cX1_isPair 22 = .ok (.putfield 47, 3) := by decide +kernel
theorem dX1_isPair_25 : decode cX1_isPair 25 = .ok (.aload_n 0, 1) := by decide +kernel
theorem dX1_isPair_26 : decode cX1_isPair 26 = .ok (.getfield 47, 3) := by decide +kernel
theorem dX1_isPair_29 : decode cX1_isPair 29 = .ok (.ifCond .ne 7, 3) := by decide +kernel
theorem dX1_isPair_32 : decode cX1_isPair 32 = .ok (.iconst 1, 1) := by decide +kernel
theorem dX1_isPair_33 : decode cX1_isPair 33 = .ok (.goto 4, 3) := by decide +kernel
theorem dX1_isPair_36 : decode cX1_isPair 36 = .ok (.iconst 0, 1) := by decide +kernel
theorem dX1_isPair_37 : decode cX1_isPair 37 = .ok (.ireturn, 1) := by decide +kernel
set_option maxRecDepth 20000 in
theorem ggX1_goOut_X1_isPair : GoodIn wsX1_goOut wsX1_isPair := goodIn_r _ [12, 13, 14, 15, 16, 11, 17, 18, 19, 20, 21, 22, 23, 24, 25, 26, 56, 57, 58, 59, 60, 61, 62, 63, 64, 65, 66, 67, 68, 69, 70, 71, 72, 73] (by decide +kernel) (by decide +kernel)
set_option maxRecDepth 20000 in
theorem gX1_goOut_X1_isPair : GoodIn wsX1_goOut (wsV RX1 119 RX1 yX1_isPair wsX1_isPair) := goodIn_app (goodIn_of _ (by decide +kernel)) ggX1_goOut_X1_isPair
set_option maxRecDepth 20000 in
theorem ggX1_goOut_X1_barsAt : GoodIn wsX1_goOut wsX1_barsAt := goodIn_r _ [30, 31, 32, 33, 34, 35, 36, 11, 37, 38, 39, 40, 41, 42, 43, 44, 45, 46, 47, 48, 49, 50, 51, 52, 53, 54, 55, 56, 57, 58, 59, 60, 61, 62, 63, 64, 65, 66, 67, 68, 69, 70, 71, 72, 73] (by decide +kernel) (by decide +kernel)
set_option maxRecDepth 20000 in
theorem gX1_goOut_X1_barsAt : GoodIn wsX1_goOut (wsV RX1 84 RX1 yX1_barsAt wsX1_barsAt) := goodIn_app (goodIn_of _ (by decide +kernel)) ggX1_goOut_X1_barsAt
theorem dX1_goOut_0 : decode cX1_goOut 0 = .ok (.aload_n 0, 1) := by decide +kernel
theorem dX1_goOut_1 : decode cX1_goOut 1 = .ok (.iload_n 1, 1) := by decide +kernel
theorem dX1_goOut_2 : decode cX1_goOut 2 = .ok (.iload_n 2, 1) := by decide +kernel
theorem dX1_goOut_3 : decode cX1_goOut 3 = .ok (.invokevirtual 119, 3) := by decide +kernel
theorem dX1_goOut_6 : decode cX1_goOut 6 = .ok (.ifCond .ne 5, 3) := by decide +kernel
theorem dX1_goOut_9 : decode cX1_goOut 9 = .ok (.iconst 0, 1) := by decide +kernel
theorem dX1_goOut_10 : decode cX1_goOut 10 = .ok (.ireturn, 1) := by decide +kernel
theorem dX1_goOut_11 : decode cX1_goOut 11 = .ok (.iconst 0, 1) := by decide +kernel
theorem dX1_goOut_12 : decode cX1_goOut 12 = .ok (.istore_n 3, 1) := by decide +kernel
theorem dX1_goOut_13 : decode cX1_goOut 13 = .ok (.iconst 0, 1) := by decide +kernel
theorem dX1_goOut_14 : decode cX1_goOut 14 = .ok (.istore 4, 2) := by decide +kernel
theorem dX1_goOut_16 : decode cX1_goOut 16 = .ok (.iload 4, 2) := by decide +kernel
theorem dX1_goOut_18 : decode cX1_goOut 18 = .ok (.aload_n 0, 1) := by decide +kernel
theorem dX1_goOut_19 : decode cX1_goOut 19 = .ok (.getfield 58, 3) := by decide +kernel
theorem dX1_goOut_22 : decode cX1_goOut 22 = .ok (.if_icmp .ge 82, 3) := by decide +kernel
theorem dX1_goOut_25 : decode cX1_goOut 25 = .ok (.aload_n 0, 1) := by decide +kernel
theorem dX1_goOut_26 : decode cX1_goOut 26 = .ok (.iload 4, 2) := by decide +kernel
theorem dX1_goOut_28 : decode cX1_goOut 28 = .ok (.iload_n 1, 1) := by decide +kernel
theorem dX1_goOut_29 : decode cX1_goOut 29 = .ok (.iload_n 2, 1) := by decide +kernel
theorem dX1_goOut_30 : decode cX1_goOut 30 = .ok (.aload_n 0, 1) := by decide +kernel
theorem dX1_goOut_31 : decode cX1_goOut 31 = .ok (.getfield 122, 3) := by decide +kernel
theorem dX1_goOut_34 : decode cX1_goOut 34 = .ok (.invokevirtual 84, 3) := by decide +kernel
theorem dX1_goOut_37 : decode cX1_goOut 37 = .ok (.ifCond .ne 6, 3) := by decide +kernel
theorem dX1_goOut_40 : decode cX1_goOut 40 = .ok (.goto 58, 3) := by decide +kernel
theorem dX1_goOut_43 : decode cX1_goOut 43 = .ok (.iconst 4, 1) := by decide +kernel
theorem dX1_goOut_44 : decode cX1_goOut 44 = .ok (.iload_n 1, 1) := by decide +kernel
theorem dX1_goOut_45 : decode cX1_goOut 45 = .ok (.imul, 1) := by decide +kernel
theorem dX1_goOut_46 : decode cX1_goOut 46 = .ok (.aload_n 0, 1) := by decide +kernel
theorem dX1_goOut_47 : decode cX1_goOut 47 = .ok (.getfield 19, 3) := by decide +kernel
theorem dX1_goOut_50 : decode cX1_goOut 50 = .ok (.iload 4, 2) := by decide +kernel
theorem dX1_goOut_52 : decode cX1_goOut 52 = .ok (.iaload, 1) := by decide +kernel
theorem dX1_goOut_53 : decode cX1_goOut 53 = .ok (.iadd, 1) := by decide +kernel
theorem dX1_goOut_54 : decode cX1_goOut 54 = .ok (.istore 5, 2) := by decide +kernel
theorem dX1_goOut_56 : decode cX1_goOut 56 = .ok (.aload_n 0, 1) := by decide +kernel
theorem dX1_goOut_57 : decode cX1_goOut 57 = .ok (.getfield 38, 3) := by decide +kernel
theorem dX1_goOut_60 : decode cX1_goOut 60 = .ok (.iload 5, 2) := by decide +kernel
theorem dX1_goOut_62 : decode cX1_goOut 62 = .ok (.iaload, 1) := by decide +kernel
theorem dX1_goOut_63 : decode cX1_goOut 63 = .ok (.ifCond .ne 8, 3) := by decide +kernel
theorem dX1_goOut_66 : decode cX1_goOut 66 = .ok (.iconst 1, 1) := by decide +kernel
theorem dX1_goOut_67 : decode cX1_goOut 67 = .ok (.istore_n 3, 1) := by decide +kernel
theorem dX1_goOut_68 : decode cX1_goOut 68 = .ok (.goto 30, 3) := by decide +kernel
theorem dX1_goOut_71 : decode cX1_goOut 71 = .ok (.aload_n 0, 1) := by decide +kernel
theorem dX1_goOut_72 : decode cX1_goOut 72 = .ok (.getfield 38, 3) := by decide +kernel
theorem dX1_goOut_75 : decode cX1_goOut 75 = .ok (.iload 5, 2) := by decide +kernel
theorem dX1_goOut_77 : decode cX1_goOut 77 = .ok (.dup2, 1) := by decide +kernel
theorem dX1_goOut_78 : decode cX1_goOut 78 = .ok (.iaload, 1) := by decide +kernel
theorem dX1_goOut_79 : decode cX1_goOut 79 = .ok (.iconst 1, 1) := by decide +kernel
theorem dX1_goOut_80 : decode cX1_goOut 80 = .ok (.isub, 1) := by decide +kernel
theorem dX1_goOut_81 : decode cX1_goOut 81 = .ok (.iastore, 1) := by decide +kernel
theorem dX1_goOut_82 : decode cX1_goOut 82 = .ok (.aload_n 0, 1) := by decide +kernel
theorem dX1_goOut_83 : decode cX1_goOut 83 = .ok (.getfield 41, 3) := by decide +kernel
theorem dX1_goOut_86 : decode cX1_goOut 86 = .ok (.aload_n 0, 1) := by decide +kernel
theorem dX1_goOut_87 : decode cX1_goOut 87 = .ok (.getfield 19, 3) := by decide +kernel
theorem dX1_goOut_90 : decode cX1_goOut 90 = .ok (.iload 4, 2) := by decide +kernel
theorem dX1_goOut_92 : decode cX1_goOut 92 = .ok (.iaload, 1) := by decide +kernel
theorem dX1_goOut_93 : decode cX1_goOut 93 = .ok (.dup2, 1) := by decide +kernel
theorem dX1_goOut_94 : decode cX1_goOut 94 = .ok (.iaload, 1) := by decide +kernel
theorem dX1_goOut_95 : decode cX1_goOut 95 = .ok (.iconst 1, 1) := by decide +kernel
theorem dX1_goOut_96 : decode cX1_goOut 96 = .ok (.iadd, 1) := by decide +kernel
theorem dX1_goOut_97 : decode cX1_goOut 97 = .ok (.iastore, 1) := by decide +kernel
theorem dX1_goOut_98 : decode cX1_goOut 98 = .ok (.iinc 4 1, 3) := by decide +kernel
theorem dX1_goOut_101 : decode cX1_goOut 101 = .ok (.goto (-85), 3) := by decide +kernel
theorem dX1_goOut_104 : decode cX1_goOut 104 = .ok (.iload_n 3, 1) := by decide +kernel
theorem dX1_goOut_105 : decode cX1_goOut 105 = .ok (.ifCond .ne 5, 3) := by decide +kernel
theorem dX1_goOut_108 : decode cX1_goOut 108 = .ok (.iconst 0, 1) := by decide +kernel
theorem dX1_goOut_109 : decode cX1_goOut 109 = .ok (.ireturn, 1) := by decide +kernel
theorem dX1_goOut_110 : decode cX1_goOut 110 = .ok (.aload_n 0, 1) := by decide +kernel
theorem dX1_goOut_111 : decode cX1_goOut 111 = .ok (.getfield 32, 3) := by decide +kernel
theorem dX1_goOut_114 : decode cX1_goOut 114 = .ok (.iload_n 1, 1) := by decide +kernel
theorem dX1_goOut_115 : decode cX1_goOut 115 = .ok (.dup2, 1) := by decide +kernel
theorem dX1_goOut_116 : decode cX1_goOut 116 = .ok (.iaload, 1) := by decide +kernel
theorem dX1_goOut_117 : decode cX1_goOut 117 = .ok (.iconst 1, 1) := by decide +kernel
theorem dX1_goOut_118 : decode cX1_goOut 118 = .ok (.iadd, 1) := by decide +kernel
theorem dX1_goOut_119 : decode cX1_goOut 119 = .ok (.iastore, 1) := by decide +kernel
theorem dX1_goOut_120 : decode cX1_goOut 120 = .ok (.aload_n 0, 1) := by decide +kernel
theorem dX1_goOut_121 : decode cX1_goOut 121 = .ok (.getfield 35, 3) := by decide +kernel
theorem dX1_goOut_124 : decode cX1_goOut 124 = .ok (.iload_n 1, 1) := by decide +kernel
theorem dX1_goOut_125 : decode cX1_goOut 125 = .ok (.dup2, 1) := by decide +kernel
theorem dX1_goOut_126 : decode cX1_goOut 126 = .ok (.iaload, 1) := by decide +kernel
theorem dX1_goOut_127 : decode cX1_goOut 127 = .ok (.bipush 10, 2) := by decide +kernel
theorem dX1_goOut_129 : decode cX1_goOut 129 = .ok (.aload_n 0, 1) := by decide +kernel
theorem dX1_goOut_130 : decode cX1_goOut 130 = .ok (.getfield 32, 3) := by decide +kernel
theorem dX1_goOut_133 : decode cX1_goOut 133 = .ok (.iload_n 1, 1) := by decide +kernel
theorem dX1_goOut_134 : decode cX1_goOut 134 = .ok (.iaload, 1) := by decide +kernel
theorem dX1_goOut_135 : decode cX1_goOut 135 = .ok (.imul, 1) := by decide +kernel
theorem dX1_goOut_136 : decode cX1_goOut 136 = .ok (.iadd, 1) := by decide +kernel
theorem dX1_goOut_137 : decode cX1_goOut 137 = .ok (.iastore, 1) := by decide +kernel
theorem dX1_goOut_138 : decode cX1_goOut 138 = .ok (.bipush 10, 2) := by decide +kernel
theorem dX1_goOut_140 : decode cX1_goOut 140 = .ok (.aload_n 0, 1) := by decide +kernel
theorem dX1_goOut_141 : decode cX1_goOut 141 = .ok (.getfield 32, 3) := by decide +kernel
theorem dX1_goOut_144 : decode cX1_goOut 144 = .ok (.iload_n 1, 1) := by decide +kernel
theorem dX1_goOut_145 : decode cX1_goOut 145 = .ok (.iaload, 1) := by decide +kernel
theorem dX1_goOut_146 : decode cX1_goOut 146 = .ok (.imul, 1) := by decide +kernel
theorem dX1_goOut_147 : decode cX1_goOut 147 = .ok (.ireturn, 1) := by decide +kernel
set_option maxRecDepth 20000 in
theorem ggX1_pass_X1_isIn : GoodIn wsX1_pass wsX1_isIn := goodIn_r _ [7] (by decide +kernel) (by decide +kernel)
set_option maxRecDepth 20000 in
theorem gX1_pass_X1_isIn : GoodIn wsX1_pass (va_wsS RX1 54 yX1_isIn wsX1_isIn) := goodIn_app (goodIn_of _ (by decide +kernel)) ggX1_pass_X1_isIn
set_option maxRecDepth 20000 in
theorem ggX1_pass_X1_fail : GoodIn wsX1_pass wsX1_fail := goodIn_r _ [11, 1, 34, 35, 36, 37, 38, 39, 40, 41, 42, 43, 44, 45, 46, 47, 48, 49, 50, 51] (by decide +kernel) (by decide +kernel)
set_option maxRecDepth 20000 in
theorem gX1_pass_X1_fail : GoodIn wsX1_pass (wsV RX1 88 RX1 yX1_fail wsX1_fail) := goodIn_app (goodIn_of _ (by decide +kernel)) ggX1_pass_X1_fail
set_option maxRecDepth 20000 in
theorem ggX1_pass_X1_onAt : GoodIn wsX1_pass wsX1_onAt := goodIn_r _ [15, 16, 17, 18, 19, 6, 20, 21, 22, 23, 24, 25, 26, 27, 28, 29, 30, 31, 32, 33, 34, 35, 36, 37, 38, 39, 40, 41, 42, 43, 44, 45, 46, 47, 48, 49, 50, 51] (by decide +kernel) (by decide +kernel)
set_option maxRecDepth 20000 in
theorem gX1_pass_X1_onAt : GoodIn wsX1_pass (wsV RX1 81 RX1 yX1_onAt wsX1_onAt) := goodIn_app (goodIn_of _ (by decide +kernel)) ggX1_pass_X1_onAt
theorem dX1_pass_0 : decode cX1_pass 0 = .ok (.aload_n 0, 1) := by decide +kernel
theorem dX1_pass_1 : decode cX1_pass 1 = .ok (.iconst 0, 1) := by decide +kernel
theorem dX1_pass_2 : decode cX1_pass 2 = .ok (.putfield 47, 3) := by decide +kernel
theorem dX1_pass_5 : decode cX1_pass 5 = .ok (.iload_n 1, 1) := by decide +kernel
theorem dX1_pass_6 : decode cX1_pass 6 = .ok (.iconst 1, 1) := by decide +kernel
theorem dX1_pass_7 : decode cX1_pass 7 = .ok (.sipush 200, 3) := by decide +kernel
theorem dX1_pass_10 : decode cX1_pass 10 = .ok (.invokestatic 54, 3) := by decide +kernel
theorem dX1_pass_13 : decode cX1_pass 13 = .ok (.ifCond .ne 9, 3) := by decide +kernel
theorem dX1_pass_16 : decode cX1_pass 16 = .ok (.aload_n 0, 1) := by decide +kernel
theorem dX1_pass_17 : decode cX1_pass 17 = .ok (.iconst 1, 1) := by decide +kernel
theorem dX1_pass_18 : decode cX1_pass 18 = .ok (.invokevirtual 88, 3) := by decide +kernel
theorem dX1_pass_21 : decode cX1_pass 21 = .ok (.ireturn, 1) := by decide +kernel
theorem dX1_pass_22 : decode cX1_pass 22 = .ok (.iconst 0, 1) := by decide +kernel
theorem dX1_pass_23 : decode cX1_pass 23 = .ok (.istore_n 2, 1) := by decide +kernel
theorem dX1_pass_24 : decode cX1_pass 24 = .ok (.iconst 0, 1) := by decide +kernel
theorem dX1_pass_25 : decode cX1_pass 25 = .ok (.istore_n 3, 1) := by decide +kernel
theorem dX1_pass_26 : decode cX1_pass 26 = .ok (.iload_n 3, 1) := by decide +kernel
theorem dX1_pass_27 : decode cX1_pass 27 = .ok (.iload_n 1, 1) := by decide +kernel
theorem dX1_pass_28 : decode cX1_pass 28 = .ok (.if_icmp .ge 73, 3) := by decide +kernel
theorem dX1_pass_31 : decode cX1_pass 31 = .ok (.iconst 0, 1) := by decide +kernel
theorem dX1_pass_32 : decode cX1_pass 32 = .ok (.istore 4, 2) := by decide +kernel
theorem dX1_pass_34 : decode cX1_pass 34 = .ok (.iload 4, 2) := by decide +kernel
theorem dX1_pass_36 : decode cX1_pass 36 = .ok (.aload_n 0, 1) := by decide +kernel
theorem dX1_pass_37 : decode cX1_pass 37 = .ok (.getfield 58, 3) := by decide +kernel
theorem dX1_pass_40 : decode cX1_pass 40 = .ok (.if_icmp .ge 45, 3) := by decide +kernel
theorem dX1_pass_43 : decode cX1_pass 43 = .ok (.iload_n 2, 1) := by decide +kernel
theorem dX1_pass_44 : decode cX1_pass 44 = .ok (.aload_n 0, 1) := by decide +kernel
theorem dX1_pass_45 : decode cX1_pass 45 = .ok (.iload 4, 2) := by decide +kernel
theorem dX1_pass_47 : decode cX1_pass 47 = .ok (.aload_n 0, 1) := by decide +kernel
theorem dX1_pass_48 : decode cX1_pass 48 = .ok (.getfield 122, 3) := by decide +kernel
theorem dX1_pass_51 : decode cX1_pass 51 = .ok (.iconst 1, 1) := by decide +kernel
theorem dX1_pass_52 : decode cX1_pass 52 = .ok (.iadd, 1) := by decide +kernel
theorem dX1_pass_53 : decode cX1_pass 53 = .ok (.invokevirtual 81, 3) := by decide +kernel
theorem dX1_pass_56 : decode cX1_pass 56 = .ok (.ifCond .eq 20, 3) := by decide +kernel
theorem dX1_pass_59 : decode cX1_pass 59 = .ok (.aload_n 0, 1) := by decide +kernel
theorem dX1_pass_60 : decode cX1_pass 60 = .ok (.iload 4, 2) := by decide +kernel
theorem dX1_pass_62 : decode cX1_pass 62 = .ok (.aload_n 0, 1) := by decide +kernel
theorem dX1_pass_63 : decode cX1_pass 63 = .ok (.getfield 122, 3) := by decide +kernel
theorem dX1_pass_66 : decode cX1_pass 66 = .ok (.invokevirtual 81, 3) := by decide +kernel
theorem dX1_pass_69 : decode cX1_pass 69 = .ok (.ifCond .ne 7, 3) := by decide +kernel
theorem dX1_pass_72 : decode cX1_pass 72 = .ok (.iconst 1, 1) := by decide +kernel
theorem dX1_pass_73 : decode cX1_pass 73 = .ok (.goto 4, 3) := by decide +kernel
theorem dX1_pass_76 : decode cX1_pass 76 = .ok (.iconst 0, 1) := by decide +kernel
theorem dX1_pass_77 : decode cX1_pass 77 = .ok (.iadd, 1) := by decide +kernel
theorem dX1_pass_78 : decode cX1_pass 78 = .ok (.istore_n 2, 1) := by decide +kernel
theorem dX1_pass_79 : decode cX1_pass 79 = .ok (.iinc 4 1, 3) := by decide +kernel
theorem dX1_pass_82 : decode cX1_pass 82 = .ok (.goto (-48), 3) := by decide +kernel
theorem dX1_pass_85 : decode cX1_pass 85 = .ok (.aload_n 0, 1) := by decide +kernel
theorem dX1_pass_86 : decode cX1_pass 86 = .ok (.dup, 1) := by decide +kernel
theorem dX1_pass_87 : decode cX1_pass 87 = .ok (.getfield 122, 3) := by decide +kernel
theorem dX1_pass_90 : decode cX1_pass 90 = .ok (.iconst 1, 1) := by decide +kernel
theorem dX1_pass_91 : decode cX1_pass 91 = .ok (.iadd, 1) := by decide +kernel
theorem dX1_pass_92 : decode cX1_pass 92 = .ok (.putfield 122, 3) := by decide +kernel
theorem dX1_pass_95 : decode cX1_pass 95 = .ok (.iinc 3 1, 3) := by decide +kernel
theorem dX1_pass_98 : decode cX1_pass 98 = .ok (.goto (-72), 3) := by decide +kernel
theorem dX1_pass_101 : decode cX1_pass 101 = .ok (.iload_n 2, 1) := by decide +kernel
theorem dX1_pass_102 : decode cX1_pass 102 = .ok (.ireturn, 1) := by decide +kernel
theorem dX1_day_0 : decode cX1_day 0 = .ok (.aload_n 0, 1) := by decide +kernel
theorem dX1_day_1 : decode cX1_day 1 = .ok (.iconst 0, 1) := by decide +kernel
theorem dX1_day_2 : decode cX1_day 2 = .ok (.putfield 47, 3) := by decide +kernel
theorem dX1_day_5 : decode cX1_day 5 = .ok (.aload_n 0, 1) := by decide +kernel
theorem dX1_day_6 : decode cX1_day 6 = .ok (.getfield 122, 3) := by decide +kernel
theorem dX1_day_9 : decode cX1_day 9 = .ok (.bipush 48, 2) := by decide +kernel
theorem dX1_day_11 : decode cX1_day 11 = .ok (.idiv, 1) := by decide +kernel
theorem dX1_day_12 : decode cX1_day 12 = .ok (.ireturn, 1) := by decide +kernel
theorem dX1_halfHour_0 : decode cX1_halfHour 0 = .ok (.aload_n 0, 1) := by decide +kernel
theorem dX1_halfHour_1 : decode cX1_halfHour 1 = .ok (.iconst 0, 1) := by decide +kernel
theorem dX1_halfHour_2 : decode cX1_halfHour 2 = .ok (.putfield 47, 3) := by decide +kernel
theorem dX1_halfHour_5 : decode cX1_halfHour 5 = .ok (.aload_n 0, 1) := by decide +kernel
theorem dX1_halfHour_6 : decode cX1_halfHour 6 = .ok (.getfield 122, 3) := by decide +kernel
theorem dX1_halfHour_9 : decode cX1_halfHour 9 = .ok (.bipush 48, 2) := by decide +kernel
theorem dX1_halfHour_11 : decode cX1_halfHour 11 = .ok (.irem, 1) := by decide +kernel
theorem dX1_halfHour_12 : decode cX1_halfHour 12 = .ok (.ireturn, 1) := by decide +kernel
set_option maxRecDepth 20000 in
theorem ggX1_duskIn_X1_isIn : GoodIn wsX1_duskIn wsX1_isIn := goodIn_r _ [6] (by decide +kernel) (by decide +kernel)
set_option maxRecDepth 20000 in
theorem gX1_duskIn_X1_isIn : GoodIn wsX1_duskIn (va_wsS RX1 54 yX1_isIn wsX1_isIn) := goodIn_app (goodIn_of _ (by decide +kernel)) ggX1_duskIn_X1_isIn
set_option maxRecDepth 20000 in
theorem ggX1_duskIn_X1_dusk : GoodIn wsX1_duskIn wsX1_dusk := goodIn_r _ [10, 11, 12, 13, 5, 14, 19, 20, 21, 22, 23, 24, 25, 26, 27, 28, 29, 30, 31, 32, 33, 34, 35, 36] (by decide +kernel) (by decide +kernel)
set_option maxRecDepth 20000 in
theorem gX1_duskIn_X1_dusk : GoodIn wsX1_duskIn (wsV RX1 71 RX1 yX1_dusk wsX1_dusk) := goodIn_app (goodIn_of _ (by decide +kernel)) ggX1_duskIn_X1_dusk
set_option maxRecDepth 20000 in
theorem ggX1_duskIn_X1_fail : GoodIn wsX1_duskIn wsX1_fail := goodIn_r _ [18, 1, 19, 20, 21, 22, 23, 24, 25, 26, 27, 28, 29, 30, 31, 32, 33, 34, 35, 36] (by decide +kernel) (by decide +kernel)
set_option maxRecDepth 20000 in
theorem gX1_duskIn_X1_fail : GoodIn wsX1_duskIn (wsV RX1 88 RX1 yX1_fail wsX1_fail) := goodIn_app (goodIn_of _ (by decide +kernel)) ggX1_duskIn_X1_fail
theorem dX1_duskIn_0 : decode cX1_duskIn 0 = .ok (.aload_n 0, 1) := by decide +kernel
theorem dX1_duskIn_1 : decode cX1_duskIn 1 = .ok (.iconst 0, 1) := by decide +kernel
theorem dX1_duskIn_2 : decode cX1_duskIn 2 = .ok (.putfield 47, 3) := by decide +kernel
theorem dX1_duskIn_5 : decode cX1_duskIn 5 = .ok (.iload_n 1, 1) := by decide +kernel
theorem dX1_duskIn_6 : decode cX1_duskIn 6 = .ok (.iconst 0, 1) := by decide +kernel
theorem dX1_duskIn_7 : decode cX1_duskIn 7 = .ok (.bipush 99, 2) := by decide +kernel
theorem dX1_duskIn_9 : decode cX1_duskIn 9 = .ok (.invokestatic 54, 3) := by decide +kernel
theorem dX1_duskIn_12 : decode cX1_duskIn 12 = .ok (.ifCond .eq 19, 3) := by decide +kernel
theorem dX1_duskIn_15 : decode cX1_duskIn 15 = .ok (.aload_n 0, 1) := by decide +kernel
theorem dX1_duskIn_16 : decode cX1_duskIn 16 = .ok (.aload_n 0, 1) := by decide +kernel
theorem dX1_duskIn_17 : decode cX1_duskIn 17 = .ok (.getfield 122, 3) := by decide +kernel
theorem dX1_duskIn_20 : decode cX1_duskIn 20 = .ok (.bipush 48, 2) := by decide +kernel
theorem dX1_duskIn_22 : decode cX1_duskIn 22 = .ok (.idiv, 1) := by decide +kernel
theorem dX1_duskIn_23 : decode cX1_duskIn 23 = .ok (.iload_n 1, 1) := by decide +kernel
theorem dX1_duskIn_24 : decode cX1_duskIn 24 = .ok (.iadd, 1) := by decide +kernel
theorem dX1_duskIn_25 : decode cX1_duskIn 25 = .ok (.invokevirtual 71, 3) := by decide +kernel
theorem dX1_duskIn_28 : decode cX1_duskIn 28 = .ok (.goto 8, 3) := by decide +kernel
theorem dX1_duskIn_31 : decode cX1_duskIn 31 = .ok (.aload_n 0, 1) := by decide +kernel
theorem dX1_duskIn_32 : decode cX1_duskIn 32 = .ok (.iconst 1, 1) := by decide +kernel
theorem dX1_duskIn_33 : decode cX1_duskIn 33 = .ok (.invokevirtual 88, 3) := by decide +kernel
theorem dX1_duskIn_36 : decode cX1_duskIn 36 = .ok (.ireturn, 1) := by decide +kernel
set_option maxRecDepth 20000 in
theorem ggX1_dawnIn_X1_isIn : GoodIn wsX1_dawnIn wsX1_isIn := goodIn_r _ [6] (by decide +kernel) (by decide +kernel)
set_option maxRecDepth 20000 in
theorem gX1_dawnIn_X1_isIn : GoodIn wsX1_dawnIn (va_wsS RX1 54 yX1_isIn wsX1_isIn) := goodIn_app (goodIn_of _ (by decide +kernel)) ggX1_dawnIn_X1_isIn
set_option maxRecDepth 20000 in
theorem ggX1_dawnIn_X1_dawn : GoodIn wsX1_dawnIn wsX1_dawn := goodIn_r _ [9, 10, 11, 5, 12] (by decide +kernel) (by decide +kernel)
set_option maxRecDepth 20000 in
theorem gX1_dawnIn_X1_dawn : GoodIn wsX1_dawnIn (va_wsS RX1 74 yX1_dawn wsX1_dawn) := goodIn_app (goodIn_of _ (by decide +kernel)) ggX1_dawnIn_X1_dawn
set_option maxRecDepth 20000 in
theorem ggX1_dawnIn_X1_fail : GoodIn wsX1_dawnIn wsX1_fail := goodIn_r _ [16, 1, 17, 18, 19, 20, 21, 22, 23, 24, 25, 26, 27, 28, 29, 30, 31, 32, 33, 34] (by decide +kernel) (by decide +kernel)
set_option maxRecDepth 20000 in
theorem gX1_dawnIn_X1_fail : GoodIn wsX1_dawnIn (wsV RX1 88 RX1 yX1_fail wsX1_fail) := goodIn_app (goodIn_of _ (by decide +kernel)) ggX1_dawnIn_X1_fail
theorem dX1_dawnIn_0 : decode cX1_dawnIn 0 = .ok (.aload_n 0, 1) := by decide +kernel
theorem dX1_dawnIn_1 : decode cX1_dawnIn 1 = .ok (.iconst 0, 1) := by decide +kernel
theorem dX1_dawnIn_2 : decode cX1_dawnIn 2 = .ok (.putfield 47, 3) := by decide +kernel
theorem dX1_dawnIn_5 : decode cX1_dawnIn 5 = .ok (.iload_n 1, 1) := by decide +kernel
theorem dX1_dawnIn_6 : decode cX1_dawnIn 6 = .ok (.iconst 0, 1) := by decide +kernel
theorem dX1_dawnIn_7 : decode cX1_dawnIn 7 = .ok (.bipush 99, 2) := by decide +kernel
theorem dX1_dawnIn_9 : decode cX1_dawnIn 9 = .ok (.invokestatic 54, 3) := by decide +kernel
theorem dX1_dawnIn_12 : decode cX1_dawnIn 12 = .ok (.ifCond .eq 18, 3) := by decide +kernel
theorem dX1_dawnIn_15 : decode cX1_dawnIn 15 = .ok (.aload_n 0, 1) := by decide +kernel
theorem dX1_dawnIn_16 : decode cX1_dawnIn 16 = .ok (.getfield 122, 3) := by decide +kernel
theorem dX1_dawnIn_19 : decode cX1_dawnIn 19 = .ok (.bipush 48, 2) := by decide +kernel
theorem dX1_dawnIn_21 : decode cX1_dawnIn 21 = .ok (.idiv, 1) := by decide +kernel
theorem dX1_dawnIn_22 : decode cX1_dawnIn 22 = .ok (.iload_n 1, 1) := by decide +kernel
theorem dX1_dawnIn_23 : decode cX1_dawnIn 23 = .ok (.iadd, 1) := by decide +kernel
theorem dX1_dawnIn_24 : decode cX1_dawnIn 24 = .ok (.invokestatic 74, 3) := by decide +kernel
theorem dX1_dawnIn_27 : decode cX1_dawnIn 27 = .ok (.goto 8, 3) := by decide +kernel
theorem dX1_dawnIn_30 : decode cX1_dawnIn 30 = .ok (.aload_n 0, 1) := by decide +kernel
theorem dX1_dawnIn_31 : decode cX1_dawnIn 31 = .ok (.iconst 1, 1) := by decide +kernel
theorem dX1_dawnIn_32 : decode cX1_dawnIn 32 = .ok (.invokevirtual 88, 3) := by decide +kernel
theorem dX1_dawnIn_35 : decode cX1_dawnIn 35 = .ok (.ireturn, 1) := by decide +kernel
set_option maxRecDepth 20000 in
theorem ggX1_quarterOf_X1_isOrder : GoodIn wsX1_quarterOf wsX1_isOrder := goodIn_r _ [7, 8, 9, 10, 6, 11, 16, 17, 18, 19, 20, 21, 22, 23, 24, 25, 26, 27, 28, 29, 30, 31, 32, 33] (by decide +kernel) (by decide +kernel)
set_option maxRecDepth 20000 in
theorem gX1_quarterOf_X1_isOrder : GoodIn wsX1_quarterOf (wsV RX1 101 RX1 yX1_isOrder wsX1_isOrder) := goodIn_app (goodIn_of _ (by decide +kernel)) ggX1_quarterOf_X1_isOrder
set_option maxRecDepth 20000 in
theorem ggX1_quarterOf_X1_fail : GoodIn wsX1_quarterOf wsX1_fail := goodIn_r _ [15, 1, 16, 17, 18, 19, 20, 21, 22, 23, 24, 25, 26, 27, 28, 29, 30, 31, 32, 33] (by decide +kernel) (by decide +kernel)
set_option maxRecDepth 20000 in
theorem gX1_quarterOf_X1_fail : GoodIn wsX1_quarterOf (wsV RX1 88 RX1 yX1_fail wsX1_fail) := goodIn_app (goodIn_of _ (by decide +kernel)) ggX1_quarterOf_X1_fail
theorem dX1_quarterOf_0 : decode cX1_quarterOf 0 = .ok (.aload_n 0, 1) := by decide +kernel
theorem dX1_quarterOf_1 : decode cX1_quarterOf 1 = .ok (.iconst 0, 1) := by decide +kernel
theorem dX1_quarterOf_2 : decode cX1_quarterOf 2 = .ok (.putfield 47, 3) := by decide +kernel
theorem dX1_quarterOf_5 : decode cX1_quarterOf 5 = .ok (.aload_n 0, 1) := by decide +kernel
theorem dX1_quarterOf_6 : decode cX1_quarterOf 6 = .ok (.iload_n 1, 1) := by decide +kernel
theorem dX1_quarterOf_7 : decode cX1_quarterOf 7 = .ok (.invokevirtual 101, 3) := by decide +kernel
theorem dX1_quarterOf_10 : decode cX1_quarterOf 10 = .ok (.ifCond .eq 12, 3) := by decide +kernel
theorem dX1_quarterOf_13 : decode cX1_quarterOf 13 = .ok (.aload_n 0, 1) := by decide +kernel
theorem dX1_quarterOf_14 : decode cX1_quarterOf 14 = .ok (.getfield 9, 3) := by decide +kernel
theorem dX1_quarterOf_17 : decode cX1_quarterOf 17 = .ok (.iload_n 1, 1) := by decide +kernel
theorem dX1_quarterOf_18 : decode cX1_quarterOf 18 = .ok (.iaload, 1) := by decide +kernel
theorem dX1_quarterOf_19 : decode cX1_quarterOf 19 = .ok (.goto 8, 3) := by decide +kernel
theorem dX1_quarterOf_22 : decode cX1_quarterOf 22 = .ok (.aload_n 0, 1) := by decide +kernel
theorem dX1_quarterOf_23 : decode cX1_quarterOf 23 = .ok (.iconst 1, 1) := by decide +kernel
theorem dX1_quarterOf_24 : decode cX1_quarterOf 24 = .ok (.invokevirtual 88, 3) := by decide +kernel
theorem dX1_quarterOf_27 : decode cX1_quarterOf 27 = .ok (.ireturn, 1) := by decide +kernel
set_option maxRecDepth 20000 in
theorem ggX1_colourOf_X1_isOrder : GoodIn wsX1_colourOf wsX1_isOrder := goodIn_r _ [7, 8, 9, 10, 6, 11, 16, 17, 18, 19, 20, 21, 22, 23, 24, 25, 26, 27, 28, 29, 30, 31, 32, 33] (by decide +kernel) (by decide +kernel)
set_option maxRecDepth 20000 in
theorem gX1_colourOf_X1_isOrder : GoodIn wsX1_colourOf (wsV RX1 101 RX1 yX1_isOrder wsX1_isOrder) := goodIn_app (goodIn_of _ (by decide +kernel)) ggX1_colourOf_X1_isOrder
set_option maxRecDepth 20000 in
theorem ggX1_colourOf_X1_fail : GoodIn wsX1_colourOf wsX1_fail := goodIn_r _ [15, 1, 16, 17, 18, 19, 20, 21, 22, 23, 24, 25, 26, 27, 28, 29, 30, 31, 32, 33] (by decide +kernel) (by decide +kernel)
set_option maxRecDepth 20000 in
theorem gX1_colourOf_X1_fail : GoodIn wsX1_colourOf (wsV RX1 88 RX1 yX1_fail wsX1_fail) := goodIn_app (goodIn_of _ (by decide +kernel)) ggX1_colourOf_X1_fail
theorem dX1_colourOf_0 : decode cX1_colourOf 0 = .ok (.aload_n 0, 1) := by decide +kernel
theorem dX1_colourOf_1 : decode cX1_colourOf 1 = .ok (.iconst 0, 1) := by decide +kernel
theorem dX1_colourOf_2 : decode cX1_colourOf 2 = .ok (.putfield 47, 3) := by decide +kernel
theorem dX1_colourOf_5 : decode cX1_colourOf 5 = .ok (.aload_n 0, 1) := by decide +kernel
theorem dX1_colourOf_6 : decode cX1_colourOf 6 = .ok (.iload_n 1, 1) := by decide +kernel
theorem dX1_colourOf_7 : decode cX1_colourOf 7 = .ok (.invokevirtual 101, 3) := by decide +kernel
theorem dX1_colourOf_10 : decode cX1_colourOf 10 = .ok (.ifCond .eq 12, 3) := by decide +kernel
theorem dX1_colourOf_13 : decode cX1_colourOf 13 = .ok (.aload_n 0, 1) := by decide +kernel
theorem dX1_colourOf_14 : decode cX1_colourOf 14 = .ok (.getfield 19, 3) := by decide +kernel
theorem dX1_colourOf_17 : decode cX1_colourOf 17 = .ok (.iload_n 1, 1) := by decide +kernel
theorem dX1_colourOf_18 : decode cX1_colourOf 18 = .ok (.iaload, 1) := by decide +kernel
theorem dX1_colourOf_19 : decode cX1_colourOf 19 = .ok (.goto 8, 3) := by decide +kernel
theorem dX1_colourOf_22 : decode cX1_colourOf 22 = .ok (.aload_n 0, 1) := by decide +kernel
theorem dX1_colourOf_23 : decode cX1_colourOf 23 = .ok (.iconst 1, 1) := by decide +kernel
theorem dX1_colourOf_24 : decode cX1_colourOf 24 = .ok (.invokevirtual 88, 3) := by decide +kernel
theorem dX1_colourOf_27 : decode cX1_colourOf 27 = .ok (.ireturn, 1) := by decide +kernel
set_option maxRecDepth 20000 in
theorem ggX1_isInForce_X1_isOrder : GoodIn wsX1_isInForce wsX1_isOrder := goodIn_r _ [7, 8, 9, 10, 6, 11, 16, 17, 18, 19, 20, 21, 22, 23, 24, 25, 26, 27, 28, 29, 30, 31, 32, 33] (by decide +kernel) (by decide +kernel)
set_option maxRecDepth 20000 in
theorem gX1_isInForce_X1_isOrder : GoodIn wsX1_isInForce (wsV RX1 101 RX1 yX1_isOrder wsX1_isOrder) := goodIn_app (goodIn_of _ (by decide +kernel)) ggX1_isInForce_X1_isOrder
set_option maxRecDepth 20000 in
theorem ggX1_isInForce_X1_failed : GoodIn wsX1_isInForce wsX1_failed := goodIn_r _ [15, 1, 16, 17, 18, 19, 20, 21, 22, 23, 24, 25, 26, 27, 28, 29, 30, 31, 32, 33] (by decide +kernel) (by decide +kernel)
set_option maxRecDepth 20000 in
theorem gX1_isInForce_X1_failed : GoodIn wsX1_isInForce (wsV RX1 104 RX1 yX1_failed wsX1_failed) := goodIn_app (goodIn_of _ (by decide +kernel)) ggX1_isInForce_X1_failed
theorem dX1_isInForce_0 : decode cX1_isInForce 0 = .ok (.aload_n 0, 1) := by decide +kernel
theorem dX1_isInForce_1 : decode cX1_isInForce 1 = .ok (.iconst 0, 1) := by decide +kernel
theorem dX1_isInForce_2 : decode cX1_isInForce 2 = .ok (.putfield 47, 3) := by decide +kernel
theorem dX1_isInForce_5 : decode cX1_isInForce 5 = .ok (.aload_n 0, 1) := by decide +kernel
theorem dX1_isInForce_6 : decode cX1_isInForce 6 = .ok (.iload_n 1, 1) := by decide +kernel
theorem dX1_isInForce_7 : decode cX1_isInForce 7 = .ok (.invokevirtual 101, 3) := by decide +kernel
theorem dX1_isInForce_10 : decode cX1_isInForce 10 = .ok (.ifCond .eq 12, 3) := by decide +kernel
theorem dX1_isInForce_13 : decode cX1_isInForce 13 = .ok (.aload_n 0, 1) := by decide +kernel
theorem dX1_isInForce_14 : decode cX1_isInForce 14 = .ok (.getfield 25, 3) := by decide +kernel
theorem dX1_isInForce_17 : decode cX1_isInForce 17 = .ok (.iload_n 1, 1) := by decide +kernel
theorem dX1_isInForce_18 : decode cX1_isInForce 18 = .ok (.baload, 1) := by decide +kernel
theorem dX1_isInForce_19 : decode cX1_isInForce 19 = .ok (.goto 8, 3) := by decide +kernel
theorem dX1_isInForce_22 : decode cX1_isInForce 22 = .ok (.aload_n 0, 1) := by decide +kernel
theorem dX1_isInForce_23 : decode cX1_isInForce 23 = .ok (.iconst 1, 1) := by decide +kernel
theorem dX1_isInForce_24 : decode cX1_isInForce 24 = .ok (.invokevirtual 104, 3) := by decide +kernel
theorem dX1_isInForce_27 : decode cX1_isInForce 27 = .ok (.ireturn, 1) := by decide +kernel
set_option maxRecDepth 20000 in
theorem ggX1_isOn_X1_isOrder : GoodIn wsX1_isOn wsX1_isOrder := goodIn_r _ [7, 8, 9, 10, 6, 11, 38, 39, 40, 41, 42, 43, 44, 45, 46, 47, 48, 49, 50, 51, 52, 53, 54, 55] (by decide +kernel) (by decide +kernel)
set_option maxRecDepth 20000 in
theorem gX1_isOn_X1_isOrder : GoodIn wsX1_isOn (wsV RX1 101 RX1 yX1_isOrder wsX1_isOrder) := goodIn_app (goodIn_of _ (by decide +kernel)) ggX1_isOn_X1_isOrder
set_option maxRecDepth 20000 in
theorem ggX1_isOn_X1_onAt : GoodIn wsX1_isOn wsX1_onAt := goodIn_r _ [15, 16, 17, 18, 19, 6, 20, 21, 22, 23, 24, 25, 26, 27, 28, 29, 30, 31, 32, 33, 38, 39, 40, 41, 42, 43, 44, 45, 46, 47, 48, 49, 50, 51, 52, 53, 54, 55] (by decide +kernel) (by decide +kernel)
set_option maxRecDepth 20000 in
theorem gX1_isOn_X1_onAt : GoodIn wsX1_isOn (wsV RX1 81 RX1 yX1_onAt wsX1_onAt) := goodIn_app (goodIn_of _ (by decide +kernel)) ggX1_isOn_X1_onAt
set_option maxRecDepth 20000 in
theorem ggX1_isOn_X1_failed : GoodIn wsX1_isOn wsX1_failed := goodIn_r _ [37, 1, 38, 39, 40, 41, 42, 43, 44, 45, 46, 47, 48, 49, 50, 51, 52, 53, 54, 55] (by decide +kernel) (by decide +kernel)
set_option maxRecDepth 20000 in
theorem gX1_isOn_X1_failed : GoodIn wsX1_isOn (wsV RX1 104 RX1 yX1_failed wsX1_failed) := goodIn_app (goodIn_of _ (by decide +kernel)) ggX1_isOn_X1_failed
theorem dX1_isOn_0 : decode cX1_isOn 0 = .ok (.aload_n 0, 1) := by decide +kernel
theorem dX1_isOn_1 : decode cX1_isOn 1 = .ok (.iconst 0, 1) := by decide +kernel
theorem dX1_isOn_2 : decode cX1_isOn 2 = .ok (.putfield 47, 3) := by decide +kernel
theorem dX1_isOn_5 : decode cX1_isOn 5 = .ok (.aload_n 0, 1) := by decide +kernel
theorem dX1_isOn_6 : decode cX1_isOn 6 = .ok (.iload_n 1, 1) := by decide +kernel
theorem dX1_isOn_7 : decode cX1_isOn 7 = .ok (.invokevirtual 101, 3) := by decide +kernel
theorem dX1_isOn_10 : decode cX1_isOn 10 = .ok (.ifCond .eq 15, 3) := by decide +kernel
theorem dX1_isOn_13 : decode cX1_isOn 13 = .ok (.aload_n 0, 1) := by decide +kernel
theorem dX1_isOn_14 : decode cX1_isOn 14 = .ok (.iload_n 1, 1) := by decide +kernel
theorem dX1_isOn_15 : decode cX1_isOn 15 = .ok (.aload_n 0, 1) := by decide +kernel
theorem dX1_isOn_16 : decode cX1_isOn 16 = .ok (.getfield 122, 3) := by decide +kernel
theorem dX1_isOn_19 : decode cX1_isOn 19 = .ok (.invokevirtual 81, 3) := by decide +kernel
theorem dX1_isOn_22 : decode cX1_isOn 22 = .ok (.goto 8, 3) := by decide +kernel
theorem dX1_isOn_25 : decode cX1_isOn 25 = .ok (.aload_n 0, 1) := by decide +kernel
theorem dX1_isOn_26 : decode cX1_isOn 26 = .ok (.iconst 1, 1) := by decide +kernel
theorem dX1_isOn_27 : decode cX1_isOn 27 = .ok (.invokevirtual 104, 3) := by decide +kernel
theorem dX1_isOn_30 : decode cX1_isOn 30 = .ok (.ireturn, 1) := by decide +kernel
set_option maxRecDepth 20000 in
theorem ggX1_isExempt_X1_isOrder : GoodIn wsX1_isExempt wsX1_isOrder := goodIn_r _ [7, 8, 9, 10, 6, 11, 19, 20, 21, 22, 23, 24, 25, 26, 27, 28, 29, 30, 31, 32, 33, 34, 35, 36] (by decide +kernel) (by decide +kernel)
set_option maxRecDepth 20000 in
theorem gX1_isExempt_X1_isOrder : GoodIn wsX1_isExempt (wsV RX1 101 RX1 yX1_isOrder wsX1_isOrder) := goodIn_app (goodIn_of _ (by decide +kernel)) ggX1_isExempt_X1_isOrder
set_option maxRecDepth 20000 in
theorem ggX1_isExempt_X1_isTrade : GoodIn wsX1_isExempt wsX1_isTrade := goodIn_r _ [14, 9, 10, 6, 11] (by decide +kernel) (by decide +kernel)
set_option maxRecDepth 20000 in
theorem gX1_isExempt_X1_isTrade : GoodIn wsX1_isExempt (va_wsS RX1 91 yX1_isTrade wsX1_isTrade) := goodIn_app (goodIn_of _ (by decide +kernel)) ggX1_isExempt_X1_isTrade
set_option maxRecDepth 20000 in
theorem ggX1_isExempt_X1_failed : GoodIn wsX1_isExempt wsX1_failed := goodIn_r _ [18, 1, 19, 20, 21, 22, 23, 24, 25, 26, 27, 28, 29, 30, 31, 32, 33, 34, 35, 36] (by decide +kernel) (by decide +kernel)
set_option maxRecDepth 20000 in
theorem gX1_isExempt_X1_failed : GoodIn wsX1_isExempt (wsV RX1 104 RX1 yX1_failed wsX1_failed) := goodIn_app (goodIn_of _ (by decide +kernel)) ggX1_isExempt_X1_failed
theorem dX1_isExempt_0 : decode cX1_isExempt 0 = .ok (.aload_n 0, 1) := by decide +kernel
theorem dX1_isExempt_1 : decode cX1_isExempt 1 = .ok (.iconst 0, 1) := by decide +kernel
theorem dX1_isExempt_2 : decode cX1_isExempt 2 = .ok (.putfield 47, 3) := by decide +kernel
theorem dX1_isExempt_5 : decode cX1_isExempt 5 = .ok (.aload_n 0, 1) := by decide +kernel
theorem dX1_isExempt_6 : decode cX1_isExempt 6 = .ok (.iload_n 1, 1) := by decide +kernel
theorem dX1_isExempt_7 : decode cX1_isExempt 7 = .ok (.invokevirtual 101, 3) := by decide +kernel
theorem dX1_isExempt_10 : decode cX1_isExempt 10 = .ok (.ifCond .eq 32, 3) := by decide +kernel
theorem dX1_isExempt_13 : decode cX1_isExempt 13 = .ok (.iload_n 2, 1) := by decide +kernel
theorem dX1_isExempt_14 : decode cX1_isExempt 14 = .ok (.invokestatic 91, 3) := by decide +kernel
theorem dX1_isExempt_17 : decode cX1_isExempt 17 = .ok (.ifCond .eq 25, 3) := by decide +kernel
theorem dX1_isExempt_20 : decode cX1_isExempt 20 = .ok (.aload_n 0, 1) := by decide +kernel
theorem dX1_isExempt_21 : decode cX1_isExempt 21 = .ok (.getfield 22, 3) := by decide +kernel
theorem dX1_isExempt_24 : decode cX1_isExempt 24 = .ok (.iload_n 1, 1) := by decide +kernel
theorem dX1_isExempt_25 : decode cX1_isExempt 25 = .ok (.iaload, 1) := by decide +kernel
theorem dX1_isExempt_26 : decode cX1_isExempt 26 = .ok (.iload_n 2, 1) := by decide +kernel
theorem dX1_isExempt_27 : decode cX1_isExempt 27 = .ok (.ishr, 1) := by decide +kernel
theorem dX1_isExempt_28 : decode cX1_isExempt 28 = .ok (.iconst 1, 1) := by decide +kernel
theorem dX1_isExempt_29 : decode cX1_isExempt 29 = .ok (.iand, 1) := by decide +kernel
theorem dX1_isExempt_30 : decode cX1_isExempt 30 = .ok (.iconst 1, 1) := by decide +kernel
theorem dX1_isExempt_31 : decode cX1_isExempt 31 = .ok (.if_icmp .ne 7, 3) := by decide +kernel
theorem dX1_isExempt_34 : decode cX1_isExempt 34 = .ok (.iconst 1, 1) := by decide +kernel
theorem dX1_isExempt_35 : decode cX1_isExempt 35 = .ok (.goto 12, 3) := by decide +kernel
theorem dX1_isExempt_38 : decode cX1_isExempt 38 = .ok (.iconst 0, 1) := by decide +kernel
theorem dX1_isExempt_39 : decode cX1_isExempt 39 = .ok (.goto 8, 3) := by decide +kernel
theorem dX1_isExempt_42 : decode cX1_isExempt 42 = .ok (.aload_n 0, 1) := by decide +kernel
theorem dX1_isExempt_43 : decode cX1_isExempt 43 = .ok (.iconst 1, 1) := by decide +kernel
theorem dX1_isExempt_44 : decode cX1_isExempt 44 = .ok (.invokevirtual 104, 3) := by decide +kernel
theorem dX1_isExempt_47 : decode cX1_isExempt 47 = .ok (.ireturn, 1) := by decide +kernel
set_option maxRecDepth 20000 in
theorem ggX1_barred_X1_barsAt : GoodIn wsX1_barred wsX1_barsAt := goodIn_r _ [8, 2, 9, 10, 11, 12, 13, 7, 14, 15, 16, 17, 18, 19, 20, 21, 22, 23, 24, 25, 26, 27, 28, 29, 30, 31, 32, 33, 34, 35, 36, 37, 38, 39, 40, 41, 42, 43, 44, 45, 46, 47, 48, 49, 50] (by decide +kernel) (by decide +kernel)
set_option maxRecDepth 20000 in
theorem gX1_barred_X1_barsAt : GoodIn wsX1_barred (wsV RX1 84 RX1 yX1_barsAt wsX1_barsAt) := goodIn_app (goodIn_of _ (by decide +kernel)) ggX1_barred_X1_barsAt
theorem dX1_barred_0 : decode cX1_barred 0 = .ok (.iconst 0, 1) := by decide +kernel
theorem dX1_barred_1 : decode cX1_barred 1 = .ok (.istore_n 2, 1) := by decide +kernel
theorem dX1_barred_2 : decode cX1_barred 2 = .ok (.iconst 0, 1) := by decide +kernel
theorem dX1_barred_3 : decode cX1_barred 3 = .ok (.istore_n 3, 1) := by decide +kernel
theorem dX1_barred_4 : decode cX1_barred 4 = .ok (.iload_n 3, 1) := by decide +kernel
theorem dX1_barred_5 : decode cX1_barred 5 = .ok (.aload_n 0, 1) := by decide +kernel
theorem dX1_barred_6 : decode cX1_barred 6 = .ok (.getfield 61, 3) := by decide +kernel
theorem dX1_barred_9 : decode cX1_barred 9 = .ok (.if_icmp .ge 36, 3) := by decide +kernel
theorem dX1_barred_12 : decode cX1_barred 12 = .ok (.iload_n 2, 1) := by decide +kernel
theorem dX1_barred_13 : decode cX1_barred 13 = .ok (.aload_n 0, 1) := by decide +kernel
theorem dX1_barred_14 : decode cX1_barred 14 = .ok (.iload_n 1, 1) := by decide +kernel
theorem dX1_barred_15 : decode cX1_barred 15 = .ok (.iload_n 3, 1) := by decide +kernel
theorem dX1_barred_16 : decode cX1_barred 16 = .ok (.aload_n 0, 1) := by decide +kernel
theorem dX1_barred_17 : decode cX1_barred 17 = .ok (.getfield 9, 3) := by decide +kernel
theorem dX1_barred_20 : decode cX1_barred 20 = .ok (.iload_n 1, 1) := by decide +kernel
theorem dX1_barred_21 : decode cX1_barred 21 = .ok (.iaload, 1) := by decide +kernel
theorem dX1_barred_22 : decode cX1_barred 22 = .ok (.aload_n 0, 1) := by decide +kernel
theorem dX1_barred_23 : decode cX1_barred 23 = .ok (.getfield 122, 3) := by decide +kernel
theorem dX1_barred_26 : decode cX1_barred 26 = .ok (.invokevirtual 84, 3) := by decide +kernel
theorem dX1_barred_29 : decode cX1_barred 29 = .ok (.ifCond .eq 7, 3) := by decide +kernel
theorem dX1_barred_32 : decode cX1_barred 32 = .ok (.iconst 1, 1) := by decide +kernel
theorem dX1_barred_33 : decode cX1_barred 33 = .ok (.goto 4, 3) := by decide +kernel
theorem dX1_barred_36 : decode cX1_barred 36 = .ok (.iconst 0, 1) := by decide +kernel
theorem dX1_barred_37 : decode cX1_barred 37 = .ok (.iadd, 1) := by decide +kernel
theorem dX1_barred_38 : decode cX1_barred 38 = .ok (.istore_n 2, 1) := by decide +kernel
theorem dX1_barred_39 : decode cX1_barred 39 = .ok (.iinc 3 1, 3) := by decide +kernel
theorem dX1_barred_42 : decode cX1_barred 42 = .ok (.goto (-38), 3) := by decide +kernel
theorem dX1_barred_45 : decode cX1_barred 45 = .ok (.iload_n 2, 1) := by decide +kernel
theorem dX1_barred_46 : decode cX1_barred 46 = .ok (.ireturn, 1) := by decide +kernel
set_option maxRecDepth 20000 in
theorem ggX1_barredBy_X1_isOrder : GoodIn wsX1_barredBy wsX1_isOrder := goodIn_r _ [6, 7, 8, 9, 5, 10, 50, 51, 52, 53, 54, 55, 56, 57, 58, 59, 60, 61, 62, 63, 64, 65, 66, 67] (by decide +kernel) (by decide +kernel)
set_option maxRecDepth 20000 in
theorem gX1_barredBy_X1_isOrder : GoodIn wsX1_barredBy (wsV RX1 101 RX1 yX1_isOrder wsX1_isOrder) := goodIn_app (goodIn_of _ (by decide +kernel)) ggX1_barredBy_X1_isOrder
set_option maxRecDepth 20000 in
theorem ggX1_barredBy_X1_barred : GoodIn wsX1_barredBy wsX1_barred := goodIn_r _ [14, 15, 16, 17, 18, 19, 20, 5, 21, 22, 23, 24, 25, 26, 27, 28, 29, 30, 31, 32, 33, 34, 35, 36, 37, 38, 39, 40, 41, 42, 43, 44, 45, 50, 51, 52, 53, 54, 55, 56, 57, 58, 59, 60, 61, 62, 63, 64, 65, 66, 67] (by decide +kernel) (by decide +kernel)
set_option maxRecDepth 20000 in
theorem gX1_barredBy_X1_barred : GoodIn wsX1_barredBy (wsV RX1 125 RX1 yX1_barred wsX1_barred) := goodIn_app (goodIn_of _ (by decide +kernel)) ggX1_barredBy_X1_barred
set_option maxRecDepth 20000 in
theorem ggX1_barredBy_X1_fail : GoodIn wsX1_barredBy wsX1_fail := goodIn_r _ [49, 1, 50, 51, 52, 53, 54, 55, 56, 57, 58, 59, 60, 61, 62, 63, 64, 65, 66, 67] (by decide +kernel) (by decide +kernel)
set_option maxRecDepth 20000 in
theorem gX1_barredBy_X1_fail : GoodIn wsX1_barredBy (wsV RX1 88 RX1 yX1_fail wsX1_fail) := goodIn_app (goodIn_of _ (by decide +kernel)) ggX1_barredBy_X1_fail
theorem dX1_barredBy_0 : decode cX1_barredBy 0 = .ok (.aload_n 0, 1) := by decide +kernel
theorem dX1_barredBy_1 : decode cX1_barredBy 1 = .ok (.iconst 0, 1) := by decide +kernel
theorem dX1_barredBy_2 : decode cX1_barredBy 2 = .ok (.putfield 47, 3) := by decide +kernel
theorem dX1_barredBy_5 : decode cX1_barredBy 5 = .ok (.aload_n 0, 1) := by decide +kernel
theorem dX1_barredBy_6 : decode cX1_barredBy 6 = .ok (.iload_n 1, 1) := by decide +kernel
theorem dX1_barredBy_7 : decode cX1_barredBy 7 = .ok (.invokevirtual 101, 3) := by decide +kernel
theorem dX1_barredBy_10 : decode cX1_barredBy 10 = .ok (.ifCond .eq 11, 3) := by decide +kernel
theorem dX1_barredBy_13 : decode cX1_barredBy 13 = .ok (.aload_n 0, 1) := by decide +kernel
theorem dX1_barredBy_14 : decode cX1_barredBy 14 = .ok (.iload_n 1, 1) := by decide +kernel
theorem dX1_barredBy_15 : decode cX1_barredBy 15 = .ok (.invokevirtual 125, 3) := by decide +kernel
theorem dX1_barredBy_18 : decode cX1_barredBy 18 = .ok (.goto 8, 3) := by decide +kernel
theorem dX1_barredBy_21 : decode cX1_barredBy 21 = .ok (.aload_n 0, 1) := by decide +kernel
theorem dX1_barredBy_22 : decode cX1_barredBy 22 = .ok (.iconst 1, 1) := by decide +kernel
theorem dX1_barredBy_23 : decode cX1_barredBy 23 = .ok (.invokevirtual 88, 3) := by decide +kernel
theorem dX1_barredBy_26 : decode cX1_barredBy 26 = .ok (.ireturn, 1) := by decide +kernel
set_option maxRecDepth 20000 in
theorem ggX1_tradeOf_X1_isPerson : GoodIn wsX1_tradeOf wsX1_isPerson := goodIn_r _ [7, 8, 9, 10, 6, 11, 16, 17, 18, 19, 20, 21, 22, 23, 24, 25, 26, 27, 28, 29, 30, 31, 32, 33] (by decide +kernel) (by decide +kernel)
set_option maxRecDepth 20000 in
theorem gX1_tradeOf_X1_isPerson : GoodIn wsX1_tradeOf (wsV RX1 107 RX1 yX1_isPerson wsX1_isPerson) := goodIn_app (goodIn_of _ (by decide +kernel)) ggX1_tradeOf_X1_isPerson
set_option maxRecDepth 20000 in
theorem ggX1_tradeOf_X1_fail : GoodIn wsX1_tradeOf wsX1_fail := goodIn_r _ [15, 1, 16, 17, 18, 19, 20, 21, 22, 23, 24, 25, 26, 27, 28, 29, 30, 31, 32, 33] (by decide +kernel) (by decide +kernel)
set_option maxRecDepth 20000 in
theorem gX1_tradeOf_X1_fail : GoodIn wsX1_tradeOf (wsV RX1 88 RX1 yX1_fail wsX1_fail) := goodIn_app (goodIn_of _ (by decide +kernel)) ggX1_tradeOf_X1_fail
theorem dX1_tradeOf_0 : decode cX1_tradeOf 0 = .ok (.aload_n 0, 1) := by decide +kernel
theorem dX1_tradeOf_1 : decode cX1_tradeOf 1 = .ok (.iconst 0, 1) := by decide +kernel
theorem dX1_tradeOf_2 : decode cX1_tradeOf 2 = .ok (.putfield 47, 3) := by decide +kernel
theorem dX1_tradeOf_5 : decode cX1_tradeOf 5 = .ok (.aload_n 0, 1) := by decide +kernel
theorem dX1_tradeOf_6 : decode cX1_tradeOf 6 = .ok (.iload_n 1, 1) := by decide +kernel
theorem dX1_tradeOf_7 : decode cX1_tradeOf 7 = .ok (.invokevirtual 107, 3) := by decide +kernel
theorem dX1_tradeOf_10 : decode cX1_tradeOf 10 = .ok (.ifCond .eq 12, 3) := by decide +kernel
theorem dX1_tradeOf_13 : decode cX1_tradeOf 13 = .ok (.aload_n 0, 1) := by decide +kernel
theorem dX1_tradeOf_14 : decode cX1_tradeOf 14 = .ok (.getfield 29, 3) := by decide +kernel
theorem dX1_tradeOf_17 : decode cX1_tradeOf 17 = .ok (.iload_n 1, 1) := by decide +kernel
theorem dX1_tradeOf_18 : decode cX1_tradeOf 18 = .ok (.iaload, 1) := by decide +kernel
theorem dX1_tradeOf_19 : decode cX1_tradeOf 19 = .ok (.goto 8, 3) := by decide +kernel
theorem dX1_tradeOf_22 : decode cX1_tradeOf 22 = .ok (.aload_n 0, 1) := by decide +kernel
theorem dX1_tradeOf_23 : decode cX1_tradeOf 23 = .ok (.iconst 1, 1) := by decide +kernel
theorem dX1_tradeOf_24 : decode cX1_tradeOf 24 = .ok (.invokevirtual 88, 3) := by decide +kernel
theorem dX1_tradeOf_27 : decode cX1_tradeOf 27 = .ok (.ireturn, 1) := by decide +kernel
set_option maxRecDepth 20000 in
theorem ggX1_stampsOf_X1_isPass : GoodIn wsX1_stampsOf wsX1_isPass := goodIn_r _ [6, 7, 8, 9, 10, 5, 11, 12, 13, 14, 15, 16, 17, 18, 19, 20, 21, 22, 23, 24, 25, 26, 27, 28, 29, 30, 31, 32, 33, 34, 35, 36] (by decide +kernel) (by decide +kernel)
set_option maxRecDepth 20000 in
theorem gX1_stampsOf_X1_isPass : GoodIn wsX1_stampsOf (wsV RX1 110 RX1 yX1_isPass wsX1_isPass) := goodIn_app (goodIn_of _ (by decide +kernel)) ggX1_stampsOf_X1_isPass
theorem dX1_stampsOf_0 : decode cX1_stampsOf 0 = .ok (.aload_n 0, 1) := by decide +kernel
theorem dX1_stampsOf_1 : decode cX1_stampsOf 1 = .ok (.iload_n 1, 1) := by decide +kernel
theorem dX1_stampsOf_2 : decode cX1_stampsOf 2 = .ok (.iload_n 2, 1) := by decide +kernel
theorem dX1_stampsOf_3 : decode cX1_stampsOf 3 = .ok (.invokevirtual 110, 3) := by decide +kernel
theorem dX1_stampsOf_6 : decode cX1_stampsOf 6 = .ok (.ifCond .eq 16, 3) := by decide +kernel
theorem dX1_stampsOf_9 : decode cX1_stampsOf 9 = .ok (.aload_n 0, 1) := by decide +kernel
theorem dX1_stampsOf_10 : decode cX1_stampsOf 10 = .ok (.getfield 38, 3) := by decide +kernel
theorem dX1_stampsOf_13 : decode cX1_stampsOf 13 = .ok (.iconst 4, 1) := by decide +kernel
theorem dX1_stampsOf_14 : decode cX1_stampsOf 14 = .ok (.iload_n 1, 1) := by decide +kernel
theorem dX1_stampsOf_15 : decode cX1_stampsOf 15 = .ok (.imul, 1) := by decide +kernel
theorem dX1_stampsOf_16 : decode cX1_stampsOf 16 = .ok (.iload_n 2, 1) := by decide +kernel
theorem dX1_stampsOf_17 : decode cX1_stampsOf 17 = .ok (.iadd, 1) := by decide +kernel
theorem dX1_stampsOf_18 : decode cX1_stampsOf 18 = .ok (.iaload, 1) := by decide +kernel
theorem dX1_stampsOf_19 : decode cX1_stampsOf 19 = .ok (.goto 4, 3) := by decide +kernel
theorem dX1_stampsOf_22 : decode cX1_stampsOf 22 = .ok (.iconst 0, 1) := by decide +kernel
theorem dX1_stampsOf_23 : decode cX1_stampsOf 23 = .ok (.ireturn, 1) := by decide +kernel
set_option maxRecDepth 20000 in
theorem ggX1_owes_X1_isPerson : GoodIn wsX1_owes wsX1_isPerson := goodIn_r _ [7, 8, 9, 10, 6, 11, 16, 17, 18, 19, 20, 21, 22, 23, 24, 25, 26, 27, 28, 29, 30, 31, 32, 33] (by decide +kernel) (by decide +kernel)
set_option maxRecDepth 20000 in
theorem gX1_owes_X1_isPerson : GoodIn wsX1_owes (wsV RX1 107 RX1 yX1_isPerson wsX1_isPerson) := goodIn_app (goodIn_of _ (by decide +kernel)) ggX1_owes_X1_isPerson
set_option maxRecDepth 20000 in
theorem ggX1_owes_X1_fail : GoodIn wsX1_owes wsX1_fail := goodIn_r _ [15, 1, 16, 17, 18, 19, 20, 21, 22, 23, 24, 25, 26, 27, 28, 29, 30, 31, 32, 33] (by decide +kernel) (by decide +kernel)
set_option maxRecDepth 20000 in
theorem gX1_owes_X1_fail : GoodIn wsX1_owes (wsV RX1 88 RX1 yX1_fail wsX1_fail) := goodIn_app (goodIn_of _ (by decide +kernel)) ggX1_owes_X1_fail
theorem dX1_owes_0 : decode cX1_owes 0 = .ok (.aload_n 0, 1) := by decide +kernel
theorem dX1_owes_1 : decode cX1_owes 1 = .ok (.iconst 0, 1) := by decide +kernel
theorem dX1_owes_2 : decode cX1_owes 2 = .ok (.putfield 47, 3) := by decide +kernel
theorem dX1_owes_5 : decode cX1_owes 5 = .ok (.aload_n 0, 1) := by decide +kernel
theorem dX1_owes_6 : decode cX1_owes 6 = .ok (.iload_n 1, 1) := by decide +kernel
theorem dX1_owes_7 : decode cX1_owes 7 = .ok (.invokevirtual 107, 3) := by decide +kernel
theorem dX1_owes_10 : decode cX1_owes 10 = .ok (.ifCond .eq 12, 3) := by decide +kernel
theorem dX1_owes_13 : decode cX1_owes 13 = .ok (.aload_n 0, 1) := by decide +kernel
theorem dX1_owes_14 : decode cX1_owes 14 = .ok (.getfield 35, 3) := by decide +kernel
theorem dX1_owes_17 : decode cX1_owes 17 = .ok (.iload_n 1, 1) := by decide +kernel
theorem dX1_owes_18 : decode cX1_owes 18 = .ok (.iaload, 1) := by decide +kernel
theorem dX1_owes_19 : decode cX1_owes 19 = .ok (.goto 8, 3) := by decide +kernel
theorem dX1_owes_22 : decode cX1_owes 22 = .ok (.aload_n 0, 1) := by decide +kernel
theorem dX1_owes_23 : decode cX1_owes 23 = .ok (.iconst 1, 1) := by decide +kernel
theorem dX1_owes_24 : decode cX1_owes 24 = .ok (.invokevirtual 88, 3) := by decide +kernel
theorem dX1_owes_27 : decode cX1_owes 27 = .ok (.ireturn, 1) := by decide +kernel
set_option maxRecDepth 20000 in
theorem ggX1_timesFined_X1_isPerson : GoodIn wsX1_timesFined wsX1_isPerson := goodIn_r _ [7, 8, 9, 10, 6, 11, 16, 17, 18, 19, 20, 21, 22, 23, 24, 25, 26, 27, 28, 29, 30, 31, 32, 33] (by decide +kernel) (by decide +kernel)
set_option maxRecDepth 20000 in
theorem gX1_timesFined_X1_isPerson : GoodIn wsX1_timesFined (wsV RX1 107 RX1 yX1_isPerson wsX1_isPerson) := goodIn_app (goodIn_of _ (by decide +kernel)) ggX1_timesFined_X1_isPerson
set_option maxRecDepth 20000 in
theorem ggX1_timesFined_X1_fail : GoodIn wsX1_timesFined wsX1_fail := goodIn_r _ [15, 1, 16, 17, 18, 19, 20, 21, 22, 23, 24, 25, 26, 27, 28, 29, 30, 31, 32, 33] (by decide +kernel) (by decide +kernel)
set_option maxRecDepth 20000 in
theorem gX1_timesFined_X1_fail : GoodIn wsX1_timesFined (wsV RX1 88 RX1 yX1_fail wsX1_fail) := goodIn_app (goodIn_of _ (by decide +kernel)) ggX1_timesFined_X1_fail
theorem dX1_timesFined_0 : decode cX1_timesFined 0 = .ok (.aload_n 0, 1) := by decide +kernel
theorem dX1_timesFined_1 : decode cX1_timesFined 1 = .ok (.iconst 0, 1) := by decide +kernel
theorem dX1_timesFined_2 : decode cX1_timesFined 2 = .ok (.putfield 47, 3) := by decide +kernel
theorem dX1_timesFined_5 : decode cX1_timesFined 5 = .ok (.aload_n 0, 1) := by decide +kernel
theorem dX1_timesFined_6 : decode cX1_timesFined 6 = .ok (.iload_n 1, 1) := by decide +kernel
theorem dX1_timesFined_7 : decode cX1_timesFined 7 = .ok (.invokevirtual 107, 3) := by decide +kernel
theorem dX1_timesFined_10 : decode cX1_timesFined 10 = .ok (.ifCond .eq 12, 3) := by decide +kernel
theorem dX1_timesFined_13 : decode cX1_timesFined 13 = .ok (.aload_n 0, 1) := by decide +kernel
theorem dX1_timesFined_14 : decode cX1_timesFined 14 = .ok (.getfield 32, 3) := by decide +kernel
theorem dX1_timesFined_17 : decode cX1_timesFined 17 = .ok (.iload_n 1, 1) := by decide +kernel
theorem dX1_timesFined_18 : decode cX1_timesFined 18 = .ok (.iaload, 1) := by decide +kernel
theorem dX1_timesFined_19 : decode cX1_timesFined 19 = .ok (.goto 8, 3) := by decide +kernel
theorem dX1_timesFined_22 : decode cX1_timesFined 22 = .ok (.aload_n 0, 1) := by decide +kernel
theorem dX1_timesFined_23 : decode cX1_timesFined 23 = .ok (.iconst 1, 1) := by decide +kernel
theorem dX1_timesFined_24 : decode cX1_timesFined 24 = .ok (.invokevirtual 88, 3) := by decide +kernel
theorem dX1_timesFined_27 : decode cX1_timesFined 27 = .ok (.ireturn, 1) := by decide +kernel
set_option maxRecDepth 20000 in
theorem ggX1_ordersAgainst_X1_isPair : GoodIn wsX1_ordersAgainst wsX1_isPair := goodIn_r _ [6, 7, 8, 9, 10, 5, 11, 12, 13, 14, 15, 16, 17, 18, 19, 20, 55, 56, 57, 58, 59, 60, 61, 62, 63, 64, 65, 66, 67, 68, 69, 70, 71, 72] (by decide +kernel) (by decide +kernel)
set_option maxRecDepth 20000 in
theorem gX1_ordersAgainst_X1_isPair : GoodIn wsX1_ordersAgainst (wsV RX1 119 RX1 yX1_isPair wsX1_isPair) := goodIn_app (goodIn_of _ (by decide +kernel)) ggX1_ordersAgainst_X1_isPair
set_option maxRecDepth 20000 in
theorem ggX1_ordersAgainst_X1_against : GoodIn wsX1_ordersAgainst wsX1_against := goodIn_r _ [24, 25, 26, 27, 28, 5, 29, 30, 31, 32, 33, 34, 35, 36, 37, 38, 39, 40, 41, 42, 43, 44, 45, 46, 47, 48, 49, 50, 51, 52, 53, 54, 55, 56, 57, 58, 59, 60, 61, 62, 63, 64, 65, 66, 67, 68, 69, 70, 71, 72] (by decide +kernel) (by decide +kernel)
set_option maxRecDepth 20000 in
theorem gX1_ordersAgainst_X1_against : GoodIn wsX1_ordersAgainst (wsV RX1 128 RX1 yX1_against wsX1_against) := goodIn_app (goodIn_of _ (by decide +kernel)) ggX1_ordersAgainst_X1_against
theorem dX1_ordersAgainst_0 : decode cX1_ordersAgainst 0 = .ok (.aload_n 0, 1) := by decide +kernel
theorem dX1_ordersAgainst_1 : decode cX1_ordersAgainst 1 = .ok (.iload_n 1, 1) := by decide +kernel
theorem dX1_ordersAgainst_2 : decode cX1_ordersAgainst 2 = .ok (.iload_n 2, 1) := by decide +kernel
theorem dX1_ordersAgainst_3 : decode cX1_ordersAgainst 3 = .ok (.invokevirtual 119, 3) := by decide +kernel
theorem dX1_ordersAgainst_6 : decode cX1_ordersAgainst 6 = .ok (.ifCond .eq 16, 3) := by decide +kernel
theorem dX1_ordersAgainst_9 : decode cX1_ordersAgainst 9 = .ok (.aload_n 0, 1) := by decide +kernel
theorem dX1_ordersAgainst_10 : decode cX1_ordersAgainst 10 = .ok (.iload_n 1, 1) := by decide +kernel
theorem dX1_ordersAgainst_11 : decode cX1_ordersAgainst 11 = .ok (.iload_n 2, 1) := by decide +kernel
theorem dX1_ordersAgainst_12 : decode cX1_ordersAgainst 12 = .ok (.aload_n 0, 1) := by decide +kernel
theorem dX1_ordersAgainst_13 : decode cX1_ordersAgainst 13 = .ok (.getfield 122, 3) := by decide +kernel
theorem dX1_ordersAgainst_16 : decode cX1_ordersAgainst 16 = .ok (.invokevirtual 128, 3) := by decide +kernel
theorem dX1_ordersAgainst_19 : decode cX1_ordersAgainst 19 = .ok (.goto 4, 3) := by decide +kernel
theorem dX1_ordersAgainst_22 : decode cX1_ordersAgainst 22 = .ok (.iconst 0, 1) := by decide +kernel
theorem dX1_ordersAgainst_23 : decode cX1_ordersAgainst 23 = .ok (.ireturn, 1) := by decide +kernel
set_option maxRecDepth 20000 in
theorem ggX1_missing_X1_barsAt : GoodIn wsX1_missing wsX1_barsAt := goodIn_r _ [14, 15, 16, 17, 18, 19, 20, 13, 21, 22, 23, 24, 25, 26, 27, 28, 29, 30, 31, 32, 33, 34, 35, 36, 37, 38, 39, 40, 41, 42, 43, 44, 45, 46, 47, 48, 49, 50, 51, 52, 53, 54, 55, 56, 57] (by decide +kernel) (by decide +kernel)
set_option maxRecDepth 20000 in
theorem gX1_missing_X1_barsAt : GoodIn wsX1_missing (wsV RX1 84 RX1 yX1_barsAt wsX1_barsAt) := goodIn_app (goodIn_of _ (by decide +kernel)) ggX1_missing_X1_barsAt
theorem dX1_missing_0 : decode cX1_missing 0 = .ok (.iconst 0, 1) := by decide +kernel
theorem dX1_missing_1 : decode cX1_missing 1 = .ok (.istore_n 3, 1) := by decide +kernel
theorem dX1_missing_2 : decode cX1_missing 2 = .ok (.iload_n 3, 1) := by decide +kernel
theorem dX1_missing_3 : decode cX1_missing 3 = .ok (.iconst 4, 1) := by decide +kernel
theorem dX1_missing_4 : decode cX1_missing 4 = .ok (.if_icmp .ge 26, 3) := by decide +kernel
theorem dX1_missing_7 : decode cX1_missing 7 = .ok (.aload_n 0, 1) := by decide +kernel
theorem dX1_missing_8 : decode cX1_missing 8 = .ok (.getfield 44, 3) := by decide +kernel
theorem dX1_missing_11 : decode cX1_missing 11 = .ok (.iload_n 3, 1) := by decide +kernel
theorem dX1_missing_12 : decode cX1_missing 12 = .ok (.aload_n 0, 1) := by decide +kernel
theorem dX1_missing_13 : decode cX1_missing 13 = .ok (.getfield 38, 3) := by decide +kernel
theorem dX1_missing_16 : decode cX1_missing 16 = .ok (.iconst 4, 1) := by decide +kernel
theorem dX1_missing_17 : decode cX1_missing 17 = .ok (.iload_n 1, 1) := by decide +kernel
theorem dX1_missing_18 : decode cX1_missing 18 = .ok (.imul, 1) := by decide +kernel
theorem dX1_missing_19 : decode cX1_missing 19 = .ok (.iload_n 3, 1) := by decide +kernel
theorem dX1_missing_20 : decode cX1_missing 20 = .ok (.iadd, 1) := by decide +kernel
theorem dX1_missing_21 : decode cX1_missing 21 = .ok (.iaload, 1) := by decide +kernel
theorem dX1_missing_22 : decode cX1_missing 22 = .ok (.ineg, 1) := by decide +kernel
theorem dX1_missing_23 : decode cX1_missing 23 = .ok (.iastore, 1) := by decide +kernel
theorem dX1_missing_24 : decode cX1_missing 24 = .ok (.iinc 3 1, 3) := by decide +kernel
theorem dX1_missing_27 : decode cX1_missing 27 = .ok (.goto (-25), 3) := by decide +kernel
theorem dX1_missing_30 : decode cX1_missing 30 = .ok (.iconst 0, 1) := by decide +kernel
theorem dX1_missing_31 : decode cX1_missing 31 = .ok (.istore_n 3, 1) := by decide +kernel
theorem dX1_missing_32 : decode cX1_missing 32 = .ok (.iload_n 3, 1) := by decide +kernel
theorem dX1_missing_33 : decode cX1_missing 33 = .ok (.aload_n 0, 1) := by decide +kernel
theorem dX1_missing_34 : decode cX1_missing 34 = .ok (.getfield 58, 3) := by decide +kernel
theorem dX1_missing_37 : decode cX1_missing 37 = .ok (.if_icmp .ge 38, 3) := by decide +kernel
theorem dX1_missing_40 : decode cX1_missing 40 = .ok (.aload_n 0, 1) := by decide +kernel
theorem dX1_missing_41 : decode cX1_missing 41 = .ok (.iload_n 3, 1) := by decide +kernel
theorem dX1_missing_42 : decode cX1_missing 42 = .ok (.iload_n 1, 1) := by decide +kernel
theorem dX1_missing_43 : decode cX1_missing 43 = .ok (.iload_n 2, 1) := by decide +kernel
theorem dX1_missing_44 : decode cX1_missing 44 = .ok (.aload_n 0, 1) := by decide +kernel
theorem dX1_missing_45 : decode cX1_missing 45 = .ok (.getfield 122, 3) := by decide +kernel
theorem dX1_missing_48 : decode cX1_missing 48 = .ok (.invokevirtual 84, 3) := by decide +kernel
theorem dX1_missing_51 : decode cX1_missing 51 = .ok (.ifCond .eq 18, 3) := by decide +kernel
theorem dX1_missing_54 : decode cX1_missing 54 = .ok (.aload_n 0, 1) := by decide +kernel
theorem dX1_missing_55 : decode cX1_missing 55 = .ok (.getfield 44, 3) := by decide +kernel
theorem dX1_missing_58 : decode cX1_missing 58 = .ok (.aload_n 0, 1) := by decide +kernel
theorem dX1_missing_59 : decode cX1_missing 59 = .ok (.getfield 19, 3) := by decide +kernel
theorem dX1_missing_62 : decode cX1_missing 62 = .ok (.iload_n 3, 1) := by decide +kernel
theorem dX1_missing_63 : decode cX1_missing 63 = .ok (.iaload, 1) := by decide +kernel
theorem dX1_missing_64 : decode cX1_missing 64 = .ok (.dup2, 1) := by decide +kernel
theorem dX1_missing_65 : decode cX1_missing 65 = .ok (.iaload, 1) := by decide +kernel
theorem dX1_missing_66 : decode cX1_missing 66 = .ok (.iconst 1, 1) := by decide +kernel
theorem dX1_missing_67 : decode cX1_missing 67 = .ok (.iadd, 1) := by decide +kernel
theorem dX1_missing_68 : decode cX1_missing 68 = .ok (.iastore, 1) := by decide +kernel
theorem dX1_missing_69 : decode cX1_missing 69 = .ok (.iinc 3 1, 3) := by decide +kernel
theorem dX1_missing_72 : decode cX1_missing 72 = .ok (.goto (-40), 3) := by decide +kernel
theorem dX1_missing_75 : decode cX1_missing 75 = .ok (.iconst 0, 1) := by decide +kernel
theorem dX1_missing_76 : decode cX1_missing 76 = .ok (.istore_n 3, 1) := by decide +kernel
theorem dX1_missing_77 : decode cX1_missing 77 = .ok (.iconst 0, 1) := by decide +kernel
theorem dX1_missing_78 : decode cX1_missing 78 = .ok (.istore 4, 2) := by decide +kernel
theorem dX1_missing_80 : decode cX1_missing 80 = .ok (.iload 4, 2) := by decide +kernel
theorem dX1_missing_82 : decode cX1_missing 82 = .ok (.iconst 4, 1) := by decide +kernel
theorem dX1_missing_83 : decode cX1_missing 83 = .ok (.if_icmp .ge 23, 3) := by decide +kernel
theorem dX1_missing_86 : decode cX1_missing 86 = .ok (.iload_n 3, 1) := by decide +kernel
theorem dX1_missing_87 : decode cX1_missing 87 = .ok (.iconst 0, 1) := by decide +kernel
theorem dX1_missing_88 : decode cX1_missing 88 = .ok (.aload_n 0, 1) := by decide +kernel
theorem dX1_missing_89 : decode cX1_missing 89 = .ok (.getfield 44, 3) := by decide +kernel
theorem dX1_missing_92 : decode cX1_missing 92 = .ok (.iload 4, 2) := by decide +kernel
theorem dX1_missing_94 : decode cX1_missing 94 = .ok (.iaload, 1) := by decide +kernel
theorem dX1_missing_95 : decode cX1_missing 95 = .ok (.invokestatic 132, 3) := by decide +kernel
theorem dX1_missing_98 : decode cX1_missing 98 = .ok (.iadd, 1) := by decide +kernel
theorem dX1_missing_99 : decode cX1_missing 99 = .ok (.istore_n 3, 1) := by decide +kernel
theorem dX1_missing_100 : decode cX1_missing 100 = .ok (.iinc 4 1, 3) := by decide +kernel
theorem dX1_missing_103 : decode cX1_missing 103 = .ok (.goto (-23), 3) := by decide +kernel
theorem dX1_missing_106 : decode cX1_missing 106 = .ok (.iload_n 3, 1) := by decide +kernel
theorem dX1_missing_107 : decode cX1_missing 107 = .ok (.ireturn, 1) := by decide +kernel
set_option maxRecDepth 20000 in
theorem ggX1_mayGo_X1_isPair : GoodIn wsX1_mayGo wsX1_isPair := goodIn_r _ [5, 6, 7, 8, 9, 4, 10, 11, 12, 13, 14, 15, 16, 17, 18, 19, 62, 63, 64, 65, 66, 67, 68, 69, 70, 71, 72, 73, 74, 75, 76, 77, 78, 79] (by decide +kernel) (by decide +kernel)
set_option maxRecDepth 20000 in
theorem gX1_mayGo_X1_isPair : GoodIn wsX1_mayGo (wsV RX1 119 RX1 yX1_isPair wsX1_isPair) := goodIn_app (goodIn_of _ (by decide +kernel)) ggX1_mayGo_X1_isPair
set_option maxRecDepth 20000 in
theorem ggX1_mayGo_X1_missing : GoodIn wsX1_mayGo wsX1_missing := goodIn_r _ [23, 24, 25, 26, 27, 28, 29, 30, 31, 32, 33, 34, 35, 4, 36, 37, 38, 39, 40, 41, 42, 43, 44, 45, 46, 47, 48, 49, 50, 51, 52, 53, 54, 55, 56, 57, 58, 59, 60, 61, 62, 63, 64, 65, 66, 67, 68, 69, 70, 71, 72, 73, 74, 75, 76, 77, 78, 79] (by decide +kernel) (by decide +kernel)
set_option maxRecDepth 20000 in
theorem gX1_mayGo_X1_missing : GoodIn wsX1_mayGo (wsV RX1 135 RX1 yX1_missing wsX1_missing) := goodIn_app (goodIn_of _ (by decide +kernel)) ggX1_mayGo_X1_missing
theorem dX1_mayGo_0 : decode cX1_mayGo 0 = .ok (.aload_n 0, 1) := by decide +kernel
theorem dX1_mayGo_1 : decode cX1_mayGo 1 = .ok (.iload_n 1, 1) := by decide +kernel
theorem dX1_mayGo_2 : decode cX1_mayGo 2 = .ok (.iload_n 2, 1) := by decide +kernel
theorem dX1_mayGo_3 : decode cX1_mayGo 3 = .ok (.invokevirtual 119, 3) := by decide +kernel
theorem dX1_mayGo_6 : decode cX1_mayGo 6 = .ok (.ifCond .eq 16, 3) := by decide +kernel
theorem dX1_mayGo_9 : decode cX1_mayGo 9 = .ok (.aload_n 0, 1) := by decide +kernel
theorem dX1_mayGo_10 : decode cX1_mayGo 10 = .ok (.iload_n 1, 1) := by decide +kernel
theorem dX1_mayGo_11 : decode cX1_mayGo 11 = .ok (.iload_n 2, 1) := by decide +kernel
theorem dX1_mayGo_12 : decode cX1_mayGo 12 = .ok (.invokevirtual 135, 3) := by decide +kernel
theorem dX1_mayGo_15 : decode cX1_mayGo 15 = .ok (.ifCond .ne 7, 3) := by decide +kernel
theorem dX1_mayGo_18 : decode cX1_mayGo 18 = .ok (.iconst 1, 1) := by decide +kernel
theorem dX1_mayGo_19 : decode cX1_mayGo 19 = .ok (.goto 4, 3) := by decide +kernel
theorem dX1_mayGo_22 : decode cX1_mayGo 22 = .ok (.iconst 0, 1) := by decide +kernel
theorem dX1_mayGo_23 : decode cX1_mayGo 23 = .ok (.ireturn, 1) := by decide +kernel
set_option maxRecDepth 20000 in
theorem ggX1_stampsMissing_X1_isPair : GoodIn wsX1_stampsMissing wsX1_isPair := goodIn_r _ [5, 6, 7, 8, 9, 4, 10, 11, 12, 13, 14, 15, 16, 17, 18, 19, 62, 63, 64, 65, 66, 67, 68, 69, 70, 71, 72, 73, 74, 75, 76, 77, 78, 79] (by decide +kernel) (by decide +kernel)
set_option maxRecDepth 20000 in
theorem gX1_stampsMissing_X1_isPair : GoodIn wsX1_stampsMissing (wsV RX1 119 RX1 yX1_isPair wsX1_isPair) := goodIn_app (goodIn_of _ (by decide +kernel)) ggX1_stampsMissing_X1_isPair
set_option maxRecDepth 20000 in
theorem ggX1_stampsMissing_X1_missing : GoodIn wsX1_stampsMissing wsX1_missing := goodIn_r _ [23, 24, 25, 26, 27, 28, 29, 30, 31, 32, 33, 34, 35, 4, 36, 37, 38, 39, 40, 41, 42, 43, 44, 45, 46, 47, 48, 49, 50, 51, 52, 53, 54, 55, 56, 57, 58, 59, 60, 61, 62, 63, 64, 65, 66, 67, 68, 69, 70, 71, 72, 73, 74, 75, 76, 77, 78, 79] (by decide +kernel) (by decide +kernel)
set_option maxRecDepth 20000 in
theorem gX1_stampsMissing_X1_missing : GoodIn wsX1_stampsMissing (wsV RX1 135 RX1 yX1_missing wsX1_missing) := goodIn_app (goodIn_of _ (by decide +kernel)) ggX1_stampsMissing_X1_missing
theorem dX1_stampsMissing_0 : decode cX1_stampsMissing 0 = .ok (.aload_n 0, 1) := by decide +kernel
theorem dX1_stampsMissing_1 : decode cX1_stampsMissing 1 = .ok (.iload_n 1, 1) := by decide +kernel
theorem dX1_stampsMissing_2 : decode cX1_stampsMissing 2 = .ok (.iload_n 2, 1) := by decide +kernel
theorem dX1_stampsMissing_3 : decode cX1_stampsMissing 3 = .ok (.invokevirtual 119, 3) := by decide +kernel
theorem dX1_stampsMissing_6 : decode cX1_stampsMissing 6 = .ok (.ifCond .eq 12, 3) := by decide +kernel
theorem dX1_stampsMissing_9 : decode cX1_stampsMissing 9 = .ok (.aload_n 0, 1) := by decide +kernel
theorem dX1_stampsMissing_10 : decode cX1_stampsMissing 10 = .ok (.iload_n 1, 1) := by decide +kernel
theorem dX1_stampsMissing_11 : decode cX1_stampsMissing 11 = .ok (.iload_n 2, 1) := by decide +kernel
theorem dX1_stampsMissing_12 : decode cX1_stampsMissing 12 = .ok (.invokevirtual 135, 3) := by decide +kernel
theorem dX1_stampsMissing_15 : decode cX1_stampsMissing 15 = .ok (.goto 4, 3) := by decide +kernel
theorem dX1_stampsMissing_18 : decode cX1_stampsMissing 18 = .ok (.iconst 0, 1) := by decide +kernel
theorem dX1_stampsMissing_19 : decode cX1_stampsMissing 19 = .ok (.ireturn, 1) := by decide +kernel
theorem dX1_quarters_0 : decode cX1_quarters 0 = .ok (.aload_n 0, 1) := by decide +kernel
theorem dX1_quarters_1 : decode cX1_quarters 1 = .ok (.iconst 0, 1) := by decide +kernel
theorem dX1_quarters_2 : decode cX1_quarters 2 = .ok (.putfield 47, 3) := by decide +kernel
theorem dX1_quarters_5 : decode cX1_quarters 5 = .ok (.aload_n 0, 1) := by decide +kernel
theorem dX1_quarters_6 : decode cX1_quarters 6 = .ok (.getfield 51, 3) := by decide +kernel
theorem dX1_quarters_9 : decode cX1_quarters 9 = .ok (.ireturn, 1) := by decide +kernel
theorem dX1_orders_0 : decode cX1_orders 0 = .ok (.aload_n 0, 1) := by decide +kernel
theorem dX1_orders_1 : decode cX1_orders 1 = .ok (.iconst 0, 1) := by decide +kernel
theorem dX1_orders_2 : decode cX1_orders 2 = .ok (.putfield 47, 3) := by decide +kernel
theorem dX1_orders_5 : decode cX1_orders 5 = .ok (.aload_n 0, 1) := by decide +kernel
theorem dX1_orders_6 : decode cX1_orders 6 = .ok (.getfield 58, 3) := by decide +kernel
theorem dX1_orders_9 : decode cX1_orders 9 = .ok (.ireturn, 1) := by decide +kernel
theorem dX1_people_0 : decode cX1_people 0 = .ok (.aload_n 0, 1) := by decide +kernel
theorem dX1_people_1 : decode cX1_people 1 = .ok (.iconst 0, 1) := by decide +kernel
theorem dX1_people_2 : decode cX1_people 2 = .ok (.putfield 47, 3) := by decide +kernel
theorem dX1_people_5 : decode cX1_people 5 = .ok (.aload_n 0, 1) := by decide +kernel
theorem dX1_people_6 : decode cX1_people 6 = .ok (.getfield 61, 3) := by decide +kernel
theorem dX1_people_9 : decode cX1_people 9 = .ok (.ireturn, 1) := by decide +kernel
set_option maxRecDepth 20000 in
theorem ggX1_manyOn_X1_onAt : GoodIn wsX1_manyOn wsX1_onAt := goodIn_r _ [7, 8, 9, 10, 11, 6, 12, 13, 14, 15, 16, 17, 18, 19, 20, 21, 22, 23, 24, 25, 26, 27, 28, 29, 30, 31, 32, 33, 34, 35, 36, 37, 38, 39, 40, 41, 42, 43] (by decide +kernel) (by decide +kernel)
set_option maxRecDepth 20000 in
theorem gX1_manyOn_X1_onAt : GoodIn wsX1_manyOn (wsV RX1 81 RX1 yX1_onAt wsX1_onAt) := goodIn_app (goodIn_of _ (by decide +kernel)) ggX1_manyOn_X1_onAt
theorem dX1_manyOn_0 : decode cX1_manyOn 0 = .ok (.iconst 0, 1) := by decide +kernel
theorem dX1_manyOn_1 : decode cX1_manyOn 1 = .ok (.istore_n 1, 1) := by decide +kernel
theorem dX1_manyOn_2 : decode cX1_manyOn 2 = .ok (.iconst 0, 1) := by decide +kernel
theorem dX1_manyOn_3 : decode cX1_manyOn 3 = .ok (.istore_n 2, 1) := by decide +kernel
theorem dX1_manyOn_4 : decode cX1_manyOn 4 = .ok (.iload_n 2, 1) := by decide +kernel
theorem dX1_manyOn_5 : decode cX1_manyOn 5 = .ok (.aload_n 0, 1) := by decide +kernel
theorem dX1_manyOn_6 : decode cX1_manyOn 6 = .ok (.getfield 58, 3) := by decide +kernel
theorem dX1_manyOn_9 : decode cX1_manyOn 9 = .ok (.if_icmp .ge 29, 3) := by decide +kernel
theorem dX1_manyOn_12 : decode cX1_manyOn 12 = .ok (.iload_n 1, 1) := by decide +kernel
theorem dX1_manyOn_13 : decode cX1_manyOn 13 = .ok (.aload_n 0, 1) := by decide +kernel
theorem dX1_manyOn_14 : decode cX1_manyOn 14 = .ok (.iload_n 2, 1) := by decide +kernel
theorem dX1_manyOn_15 : decode cX1_manyOn 15 = .ok (.aload_n 0, 1) := by decide +kernel
theorem dX1_manyOn_16 : decode cX1_manyOn 16 = .ok (.getfield 122, 3) := by decide +kernel
theorem dX1_manyOn_19 : decode cX1_manyOn 19 = .ok (.invokevirtual 81, 3) := by decide +kernel
theorem dX1_manyOn_22 : decode cX1_manyOn 22 = .ok (.ifCond .eq 7, 3) := by decide +kernel
theorem dX1_manyOn_25 : decode cX1_manyOn 25 = .ok (.iconst 1, 1) := by decide +kernel
theorem dX1_manyOn_26 : decode cX1_manyOn 26 = .ok (.goto 4, 3) := by decide +kernel
theorem dX1_manyOn_29 : decode cX1_manyOn 29 = .ok (.iconst 0, 1) := by decide +kernel
theorem dX1_manyOn_30 : decode cX1_manyOn 30 = .ok (.iadd, 1) := by decide +kernel
theorem dX1_manyOn_31 : decode cX1_manyOn 31 = .ok (.istore_n 1, 1) := by decide +kernel
theorem dX1_manyOn_32 : decode cX1_manyOn 32 = .ok (.iinc 2 1, 3) := by decide +kernel
theorem dX1_manyOn_35 : decode cX1_manyOn 35 = .ok (.goto (-31), 3) := by decide +kernel
theorem dX1_manyOn_38 : decode cX1_manyOn 38 = .ok (.iload_n 1, 1) := by decide +kernel
theorem dX1_manyOn_39 : decode cX1_manyOn 39 = .ok (.ireturn, 1) := by decide +kernel
set_option maxRecDepth 20000 in
theorem ggX1_ordersOn_X1_manyOn : GoodIn wsX1_ordersOn wsX1_manyOn := goodIn_r _ [6, 7, 8, 9, 10, 11, 5, 12, 13, 14, 15, 16, 17, 18, 19, 20, 21, 22, 23, 24, 25, 26, 27, 28, 29, 30, 31, 32, 33, 34, 35, 36, 37, 38, 39, 40, 41, 42, 43, 44, 45, 46, 47, 48] (by decide +kernel) (by decide +kernel)
set_option maxRecDepth 20000 in
theorem gX1_ordersOn_X1_manyOn : GoodIn wsX1_ordersOn (wsV RX1 138 RX1 yX1_manyOn wsX1_manyOn) := goodIn_app (goodIn_of _ (by decide +kernel)) ggX1_ordersOn_X1_manyOn
theorem dX1_ordersOn_0 : decode cX1_ordersOn 0 = .ok (.aload_n 0, 1) := by decide +kernel
theorem dX1_ordersOn_1 : decode cX1_ordersOn 1 = .ok (.iconst 0, 1) := by decide +kernel
theorem dX1_ordersOn_2 : decode cX1_ordersOn 2 = .ok (.putfield 47, 3) := by decide +kernel
theorem dX1_ordersOn_5 : decode cX1_ordersOn 5 = .ok (.aload_n 0, 1) := by decide +kernel
theorem dX1_ordersOn_6 : decode cX1_ordersOn 6 = .ok (.invokevirtual 138, 3) := by decide +kernel
theorem dX1_ordersOn_9 : decode cX1_ordersOn 9 = .ok (.ireturn, 1) := by decide +kernel
theorem dX1_shift_0 : decode cX1_shift 0 = .ok (.aload_n 0, 1) := by decide +kernel
theorem dX1_shift_1 : decode cX1_shift 1 = .ok (.iconst 0, 1) := by decide +kernel
theorem dX1_shift_2 : decode cX1_shift 2 = .ok (.putfield 47, 3) := by decide +kernel
theorem dX1_shift_5 : decode cX1_shift 5 = .ok (.aload_n 0, 1) := by decide +kernel
theorem dX1_shift_6 : decode cX1_shift 6 = .ok (.getfield 68, 3) := by decide +kernel
theorem dX1_shift_9 : decode cX1_shift 9 = .ok (.ireturn, 1) := by decide +kernel
theorem dX1_all_0 : decode cX1_all 0 = .ok (.iconst 0, 1) := by decide +kernel
theorem dX1_all_1 : decode cX1_all 1 = .ok (.istore_n 1, 1) := by decide +kernel
theorem dX1_all_2 : decode cX1_all 2 = .ok (.iconst 0, 1) := by decide +kernel
theorem dX1_all_3 : decode cX1_all 3 = .ok (.istore_n 2, 1) := by decide +kernel
theorem dX1_all_4 : decode cX1_all 4 = .ok (.iload_n 2, 1) := by decide +kernel
theorem dX1_all_5 : decode cX1_all 5 = .ok (.aload_n 0, 1) := by decide +kernel
theorem dX1_all_6 : decode cX1_all 6 = .ok (.getfield 61, 3) := by decide +kernel
theorem dX1_all_9 : decode cX1_all 9 = .ok (.if_icmp .ge 18, 3) := by decide +kernel
theorem dX1_all_12 : decode cX1_all 12 = .ok (.iload_n 1, 1) := by decide +kernel
theorem dX1_all_13 : decode cX1_all 13 = .ok (.aload_n 0, 1) := by decide +kernel
theorem dX1_all_14 : decode cX1_all 14 = .ok (.getfield 35, 3) := by decide +kernel
theorem dX1_all_17 : decode cX1_all 17 = .ok (.iload_n 2, 1) := by decide +kernel
theorem dX1_all_18 : decode cX1_all 18 = .ok (.iaload, 1) := by decide +kernel
theorem dX1_all_19 : decode cX1_all 19 = .ok (.iadd, 1) := by decide +kernel
theorem dX1_all_20 : decode cX1_all 20 = .ok (.istore_n 1, 1) := by decide +kernel
theorem dX1_all_21 : decode cX1_all 21 = .ok (.iinc 2 1, 3) := by decide +kernel
theorem dX1_all_24 : decode cX1_all 24 = .ok (.goto (-20), 3) := by decide +kernel
theorem dX1_all_27 : decode cX1_all 27 = .ok (.iload_n 1, 1) := by decide +kernel
theorem dX1_all_28 : decode cX1_all 28 = .ok (.ireturn, 1) := by decide +kernel
set_option maxRecDepth 20000 in
theorem ggX1_allOwe_X1_all : GoodIn wsX1_allOwe wsX1_all := goodIn_r _ [6, 7, 8, 9, 10, 11, 12, 13, 14, 15, 16, 17, 18, 19, 20, 21, 22, 23, 24, 25, 26] (by decide +kernel) (by decide +kernel)
set_option maxRecDepth 20000 in
theorem gX1_allOwe_X1_all : GoodIn wsX1_allOwe (wsV RX1 142 RX1 yX1_all wsX1_all) := goodIn_app (goodIn_of _ (by decide +kernel)) ggX1_allOwe_X1_all
theorem dX1_allOwe_0 : decode cX1_allOwe 0 = .ok (.aload_n 0, 1) := by decide +kernel
theorem dX1_allOwe_1 : decode cX1_allOwe 1 = .ok (.iconst 0, 1) := by decide +kernel
theorem dX1_allOwe_2 : decode cX1_allOwe 2 = .ok (.putfield 47, 3) := by decide +kernel
theorem dX1_allOwe_5 : decode cX1_allOwe 5 = .ok (.aload_n 0, 1) := by decide +kernel
theorem dX1_allOwe_6 : decode cX1_allOwe 6 = .ok (.invokevirtual 142, 3) := by decide +kernel
theorem dX1_allOwe_9 : decode cX1_allOwe 9 = .ok (.ireturn, 1) := by decide +kernel
set_option maxRecDepth 20000 in
theorem ggX1_stampsUsed_X1_isColour : GoodIn wsX1_stampsUsed wsX1_isColour := goodIn_r _ [6, 7, 8, 5, 9] (by decide +kernel) (by decide +kernel)
set_option maxRecDepth 20000 in
theorem gX1_stampsUsed_X1_isColour : GoodIn wsX1_stampsUsed (va_wsS RX1 98 yX1_isColour wsX1_isColour) := goodIn_app (goodIn_of _ (by decide +kernel)) ggX1_stampsUsed_X1_isColour
set_option maxRecDepth 20000 in
theorem ggX1_stampsUsed_X1_fail : GoodIn wsX1_stampsUsed wsX1_fail := goodIn_r _ [13, 1, 14, 15, 16, 17, 18, 19, 20, 21, 22, 23, 24, 25, 26, 27, 28, 29, 30, 31] (by decide +kernel) (by decide +kernel)
set_option maxRecDepth 20000 in
theorem gX1_stampsUsed_X1_fail : GoodIn wsX1_stampsUsed (wsV RX1 88 RX1 yX1_fail wsX1_fail) := goodIn_app (goodIn_of _ (by decide +kernel)) ggX1_stampsUsed_X1_fail
theorem dX1_stampsUsed_0 : decode cX1_stampsUsed 0 = .ok (.aload_n 0, 1) := by decide +kernel
theorem dX1_stampsUsed_1 : decode cX1_stampsUsed 1 = .ok (.iconst 0, 1) := by decide +kernel
theorem dX1_stampsUsed_2 : decode cX1_stampsUsed 2 = .ok (.putfield 47, 3) := by decide +kernel
theorem dX1_stampsUsed_5 : decode cX1_stampsUsed 5 = .ok (.iload_n 1, 1) := by decide +kernel
theorem dX1_stampsUsed_6 : decode cX1_stampsUsed 6 = .ok (.invokestatic 98, 3) := by decide +kernel
theorem dX1_stampsUsed_9 : decode cX1_stampsUsed 9 = .ok (.ifCond .eq 12, 3) := by decide +kernel
theorem dX1_stampsUsed_12 : decode cX1_stampsUsed 12 = .ok (.aload_n 0, 1) := by decide +kernel
theorem dX1_stampsUsed_13 : decode cX1_stampsUsed 13 = .ok (.getfield 41, 3) := by decide +kernel
theorem dX1_stampsUsed_16 : decode cX1_stampsUsed 16 = .ok (.iload_n 1, 1) := by decide +kernel
theorem dX1_stampsUsed_17 : decode cX1_stampsUsed 17 = .ok (.iaload, 1) := by decide +kernel
theorem dX1_stampsUsed_18 : decode cX1_stampsUsed 18 = .ok (.goto 8, 3) := by decide +kernel
theorem dX1_stampsUsed_21 : decode cX1_stampsUsed 21 = .ok (.aload_n 0, 1) := by decide +kernel
theorem dX1_stampsUsed_22 : decode cX1_stampsUsed 22 = .ok (.iconst 1, 1) := by decide +kernel
theorem dX1_stampsUsed_23 : decode cX1_stampsUsed 23 = .ok (.invokevirtual 88, 3) := by decide +kernel
theorem dX1_stampsUsed_26 : decode cX1_stampsUsed 26 = .ok (.ireturn, 1) := by decide +kernel
set_option maxRecDepth 20000 in
theorem ggX1_halfHoursUntilFree_X1_isPair : GoodIn wsX1_halfHoursUntilFree wsX1_isPair := goodIn_r _ [6, 7, 8, 9, 10, 5, 11, 12, 13, 14, 15, 16, 17, 18, 19, 20, 55, 56, 57, 58, 59, 60, 61, 62, 63, 64, 65, 66, 67, 68, 69, 70, 71, 72] (by decide +kernel) (by decide +kernel)
set_option maxRecDepth 20000 in
theorem gX1_halfHoursUntilFree_X1_isPair : GoodIn wsX1_halfHoursUntilFree (wsV RX1 119 RX1 yX1_isPair wsX1_isPair) := goodIn_app (goodIn_of _ (by decide +kernel)) ggX1_halfHoursUntilFree_X1_isPair
set_option maxRecDepth 20000 in
theorem ggX1_halfHoursUntilFree_X1_against : GoodIn wsX1_halfHoursUntilFree wsX1_against := goodIn_r _ [24, 25, 26, 27, 28, 5, 29, 30, 31, 32, 33, 34, 35, 36, 37, 38, 39, 40, 41, 42, 43, 44, 45, 46, 47, 48, 49, 50, 51, 52, 53, 54, 55, 56, 57, 58, 59, 60, 61, 62, 63, 64, 65, 66, 67, 68, 69, 70, 71, 72] (by decide +kernel) (by decide +kernel)
set_option maxRecDepth 20000 in
theorem gX1_halfHoursUntilFree_X1_against : GoodIn wsX1_halfHoursUntilFree (wsV RX1 128 RX1 yX1_against wsX1_against) := goodIn_app (goodIn_of _ (by decide +kernel)) ggX1_halfHoursUntilFree_X1_against
theorem dX1_halfHoursUntilFree_0 : decode cX1_halfHoursUntilFree 0 = .ok (.aload_n 0, 1) := by decide +kernel
theorem dX1_halfHoursUntilFree_1 : decode cX1_halfHoursUntilFree 1 = .ok (.iload_n 1, 1) := by decide +kernel
theorem dX1_halfHoursUntilFree_2 : decode cX1_halfHoursUntilFree 2 = .ok (.iload_n 2, 1) := by decide +kernel
theorem dX1_halfHoursUntilFree_3 : decode cX1_halfHoursUntilFree 3 = .ok (.invokevirtual 119, 3) := by decide +kernel
theorem dX1_halfHoursUntilFree_6 : decode cX1_halfHoursUntilFree 6 = .ok (.ifCond .ne 5, 3) := by decide +kernel
theorem dX1_halfHoursUntilFree_9 : decode cX1_halfHoursUntilFree 9 = .ok (.iconst 0, 1) := by decide +kernel
theorem dX1_halfHoursUntilFree_10 : decode cX1_halfHoursUntilFree 10 = .ok (.ireturn, 1) := by decide +kernel
theorem dX1_halfHoursUntilFree_11 : decode cX1_halfHoursUntilFree 11 = .ok (.iconst 0, 1) := by decide +kernel
theorem dX1_halfHoursUntilFree_12 : decode cX1_halfHoursUntilFree 12 = .ok (.istore_n 3, 1) := by decide +kernel
theorem dX1_halfHoursUntilFree_13 : decode cX1_halfHoursUntilFree 13 = .ok (.iload_n 3, 1) := by decide +kernel
theorem dX1_halfHoursUntilFree_14 : decode cX1_halfHoursUntilFree 14 = .ok (.bipush 48, 2) := by decide +kernel
theorem dX1_halfHoursUntilFree_16 : decode cX1_halfHoursUntilFree 16 = .ok (.if_icmp .gt 26, 3) := by decide +kernel
theorem dX1_halfHoursUntilFree_19 : decode cX1_halfHoursUntilFree 19 = .ok (.aload_n 0, 1) := by decide +kernel
theorem dX1_halfHoursUntilFree_20 : decode cX1_halfHoursUntilFree 20 = .ok (.iload_n 1, 1) := by decide +kernel
theorem dX1_halfHoursUntilFree_21 : decode cX1_halfHoursUntilFree 21 = .ok (.iload_n 2, 1) := by decide +kernel
theorem dX1_halfHoursUntilFree_22 : decode cX1_halfHoursUntilFree 22 = .ok (.aload_n 0, 1) := by decide +kernel
theorem dX1_halfHoursUntilFree_23 : decode cX1_halfHoursUntilFree 23 = .ok (.getfield 122, 3) := by decide +kernel
theorem dX1_halfHoursUntilFree_26 : decode cX1_halfHoursUntilFree 26 = .ok (.iload_n 3, 1) := by decide +kernel
theorem dX1_halfHoursUntilFree_27 : decode cX1_halfHoursUntilFree 27 = .ok (.iadd, 1) := by decide +kernel
theorem dX1_halfHoursUntilFree_28 : decode cX1_halfHoursUntilFree 28 = .ok (.invokevirtual 128, 3) := by decide +kernel
theorem dX1_halfHoursUntilFree_31 : decode cX1_halfHoursUntilFree 31 = .ok (.ifCond .ne 5, 3) := by decide +kernel
theorem dX1_halfHoursUntilFree_34 : decode cX1_halfHoursUntilFree 34 = .ok (.iload_n 3, 1) := by decide +kernel
theorem dX1_halfHoursUntilFree_35 : decode cX1_halfHoursUntilFree 35 = .ok (.ireturn, 1) := by decide +kernel
theorem dX1_halfHoursUntilFree_36 : decode cX1_halfHoursUntilFree 36 = .ok (.iinc 3 1, 3) := by decide +kernel
theorem dX1_halfHoursUntilFree_39 : decode cX1_halfHoursUntilFree 39 = .ok (.goto (-26), 3) := by decide +kernel
theorem dX1_halfHoursUntilFree_42 : decode cX1_halfHoursUntilFree 42 = .ok (.iconst (-1), 1) := by decide +kernel
theorem dX1_halfHoursUntilFree_43 : decode cX1_halfHoursUntilFree 43 = .ok (.ireturn, 1) := by decide +kernel
set_option maxRecDepth 20000 in
theorem ggX1_halfHoursOn_X1_isOrder : GoodIn wsX1_halfHoursOn wsX1_isOrder := goodIn_r _ [7, 8, 9, 10, 6, 11, 33, 34, 35, 36, 37, 38, 39, 40, 41, 42, 43, 44, 45, 46, 47, 48, 49, 50] (by decide +kernel) (by decide +kernel)
set_option maxRecDepth 20000 in
theorem gX1_halfHoursOn_X1_isOrder : GoodIn wsX1_halfHoursOn (wsV RX1 101 RX1 yX1_isOrder wsX1_isOrder) := goodIn_app (goodIn_of _ (by decide +kernel)) ggX1_halfHoursOn_X1_isOrder
set_option maxRecDepth 20000 in
theorem ggX1_halfHoursOn_X1_fail : GoodIn wsX1_halfHoursOn wsX1_fail := goodIn_r _ [15, 1, 33, 34, 35, 36, 37, 38, 39, 40, 41, 42, 43, 44, 45, 46, 47, 48, 49, 50] (by decide +kernel) (by decide +kernel)
set_option maxRecDepth 20000 in
theorem gX1_halfHoursOn_X1_fail : GoodIn wsX1_halfHoursOn (wsV RX1 88 RX1 yX1_fail wsX1_fail) := goodIn_app (goodIn_of _ (by decide +kernel)) ggX1_halfHoursOn_X1_fail
set_option maxRecDepth 20000 in
theorem ggX1_halfHoursOn_X1_isAt : GoodIn wsX1_halfHoursOn wsX1_isAt := goodIn_r _ [19, 20, 21, 22, 23, 24, 6, 25, 26, 27, 28, 29, 30, 31, 32, 33, 34, 35, 36, 37, 38, 39, 40, 41, 42, 43, 44, 45, 46, 47, 48, 49, 50] (by decide +kernel) (by decide +kernel)
set_option maxRecDepth 20000 in
theorem gX1_halfHoursOn_X1_isAt : GoodIn wsX1_halfHoursOn (wsV RX1 77 RX1 yX1_isAt wsX1_isAt) := goodIn_app (goodIn_of _ (by decide +kernel)) ggX1_halfHoursOn_X1_isAt
theorem dX1_halfHoursOn_0 : decode cX1_halfHoursOn 0 = .ok (.aload_n 0, 1) := by decide +kernel
theorem dX1_halfHoursOn_1 : decode cX1_halfHoursOn 1 = .ok (.iconst 0, 1) := by decide +kernel
theorem dX1_halfHoursOn_2 : decode cX1_halfHoursOn 2 = .ok (.putfield 47, 3) := by decide +kernel
theorem dX1_halfHoursOn_5 : decode cX1_halfHoursOn 5 = .ok (.aload_n 0, 1) := by decide +kernel
theorem dX1_halfHoursOn_6 : decode cX1_halfHoursOn 6 = .ok (.iload_n 1, 1) := by decide +kernel
theorem dX1_halfHoursOn_7 : decode cX1_halfHoursOn 7 = .ok (.invokevirtual 101, 3) := by decide +kernel
theorem dX1_halfHoursOn_10 : decode cX1_halfHoursOn 10 = .ok (.ifCond .ne 9, 3) := by decide +kernel
theorem dX1_halfHoursOn_13 : decode cX1_halfHoursOn 13 = .ok (.aload_n 0, 1) := by decide +kernel
theorem dX1_halfHoursOn_14 : decode cX1_halfHoursOn 14 = .ok (.iconst 1, 1) := by decide +kernel
theorem dX1_halfHoursOn_15 : decode cX1_halfHoursOn 15 = .ok (.invokevirtual 88, 3) := by decide +kernel
theorem dX1_halfHoursOn_18 : decode cX1_halfHoursOn 18 = .ok (.ireturn, 1) := by decide +kernel
theorem dX1_halfHoursOn_19 : decode cX1_halfHoursOn 19 = .ok (.iconst 0, 1) := by decide +kernel
theorem dX1_halfHoursOn_20 : decode cX1_halfHoursOn 20 = .ok (.istore_n 2, 1) := by decide +kernel
theorem dX1_halfHoursOn_21 : decode cX1_halfHoursOn 21 = .ok (.iconst 0, 1) := by decide +kernel
theorem dX1_halfHoursOn_22 : decode cX1_halfHoursOn 22 = .ok (.istore_n 3, 1) := by decide +kernel
theorem dX1_halfHoursOn_23 : decode cX1_halfHoursOn 23 = .ok (.iload_n 3, 1) := by decide +kernel
theorem dX1_halfHoursOn_24 : decode cX1_halfHoursOn 24 = .ok (.bipush 48, 2) := by decide +kernel
theorem dX1_halfHoursOn_26 : decode cX1_halfHoursOn 26 = .ok (.if_icmp .ge 31, 3) := by decide +kernel
theorem dX1_halfHoursOn_29 : decode cX1_halfHoursOn 29 = .ok (.iload_n 2, 1) := by decide +kernel
theorem dX1_halfHoursOn_30 : decode cX1_halfHoursOn 30 = .ok (.aload_n 0, 1) := by decide +kernel
theorem dX1_halfHoursOn_31 : decode cX1_halfHoursOn 31 = .ok (.iload_n 1, 1) := by decide +kernel
theorem dX1_halfHoursOn_32 : decode cX1_halfHoursOn 32 = .ok (.aload_n 0, 1) := by decide +kernel
theorem dX1_halfHoursOn_33 : decode cX1_halfHoursOn 33 = .ok (.getfield 122, 3) := by decide +kernel
theorem dX1_halfHoursOn_36 : decode cX1_halfHoursOn 36 = .ok (.iload_n 3, 1) := by decide +kernel
theorem dX1_halfHoursOn_37 : decode cX1_halfHoursOn 37 = .ok (.iadd, 1) := by decide +kernel
theorem dX1_halfHoursOn_38 : decode cX1_halfHoursOn 38 = .ok (.invokevirtual 77, 3) := by decide +kernel
theorem dX1_halfHoursOn_41 : decode cX1_halfHoursOn 41 = .ok (.ifCond .eq 7, 3) := by decide +kernel
theorem dX1_halfHoursOn_44 : decode cX1_halfHoursOn 44 = .ok (.iconst 1, 1) := by decide +kernel
theorem dX1_halfHoursOn_45 : decode cX1_halfHoursOn 45 = .ok (.goto 4, 3) := by decide +kernel
theorem dX1_halfHoursOn_48 : decode cX1_halfHoursOn 48 = .ok (.iconst 0, 1) := by decide +kernel
theorem dX1_halfHoursOn_49 : decode cX1_halfHoursOn 49 = .ok (.iadd, 1) := by decide +kernel
theorem dX1_halfHoursOn_50 : decode cX1_halfHoursOn 50 = .ok (.istore_n 2, 1) := by decide +kernel
theorem dX1_halfHoursOn_51 : decode cX1_halfHoursOn 51 = .ok (.iinc 3 1, 3) := by decide +kernel
theorem dX1_halfHoursOn_54 : decode cX1_halfHoursOn 54 = .ok (.goto (-31), 3) := by decide +kernel
theorem dX1_halfHoursOn_57 : decode cX1_halfHoursOn 57 = .ok (.iload_n 2, 1) := by decide +kernel
theorem dX1_halfHoursOn_58 : decode cX1_halfHoursOn 58 = .ok (.ireturn, 1) := by decide +kernel
set_option maxRecDepth 20000 in
theorem ggX1_pairs_X1_missing : GoodIn wsX1_pairs wsX1_missing := goodIn_r _ [7, 8, 9, 10, 11, 12, 13, 14, 15, 16, 17, 18, 19, 6, 20, 21, 22, 23, 24, 25, 26, 27, 28, 29, 30, 31, 32, 33, 34, 35, 36, 37, 38, 39, 40, 41, 42, 43, 44, 45, 46, 47, 48, 49, 50, 51, 52, 53, 54, 55, 56, 57, 58, 59, 60, 61, 62, 63] (by decide +kernel) (by decide +kernel)
set_option maxRecDepth 20000 in
theorem gX1_pairs_X1_missing : GoodIn wsX1_pairs (wsV RX1 135 RX1 yX1_missing wsX1_missing) := goodIn_app (goodIn_of _ (by decide +kernel)) ggX1_pairs_X1_missing
theorem dX1_pairs_0 : decode cX1_pairs 0 = .ok (.iconst 0, 1) := by decide +kernel
theorem dX1_pairs_1 : decode cX1_pairs 1 = .ok (.istore_n 1, 1) := by decide +kernel
theorem dX1_pairs_2 : decode cX1_pairs 2 = .ok (.iconst 0, 1) := by decide +kernel
theorem dX1_pairs_3 : decode cX1_pairs 3 = .ok (.istore_n 2, 1) := by decide +kernel
theorem dX1_pairs_4 : decode cX1_pairs 4 = .ok (.iload_n 2, 1) := by decide +kernel
theorem dX1_pairs_5 : decode cX1_pairs 5 = .ok (.aload_n 0, 1) := by decide +kernel
theorem dX1_pairs_6 : decode cX1_pairs 6 = .ok (.getfield 61, 3) := by decide +kernel
theorem dX1_pairs_9 : decode cX1_pairs 9 = .ok (.if_icmp .ge 42, 3) := by decide +kernel
theorem dX1_pairs_12 : decode cX1_pairs 12 = .ok (.iconst 0, 1) := by decide +kernel
theorem dX1_pairs_13 : decode cX1_pairs 13 = .ok (.istore_n 3, 1) := by decide +kernel
theorem dX1_pairs_14 : decode cX1_pairs 14 = .ok (.iload_n 3, 1) := by decide +kernel
theorem dX1_pairs_15 : decode cX1_pairs 15 = .ok (.aload_n 0, 1) := by decide +kernel
theorem dX1_pairs_16 : decode cX1_pairs 16 = .ok (.getfield 51, 3) := by decide +kernel
theorem dX1_pairs_19 : decode cX1_pairs 19 = .ok (.if_icmp .ge 26, 3) := by decide +kernel
theorem dX1_pairs_22 : decode cX1_pairs 22 = .ok (.iload_n 1, 1) := by decide +kernel
theorem dX1_pairs_23 : decode cX1_pairs 23 = .ok (.aload_n 0, 1) := by decide +kernel
theorem dX1_pairs_24 : decode cX1_pairs 24 = .ok (.iload_n 2, 1) := by decide +kernel
theorem dX1_pairs_25 : decode cX1_pairs 25 = .ok (.iload_n 3, 1) := by decide +kernel
theorem dX1_pairs_26 : decode cX1_pairs 26 = .ok (.invokevirtual 135, 3) := by decide +kernel
theorem dX1_pairs_29 : decode cX1_pairs 29 = .ok (.ifCond .ne 7, 3) := by decide +kernel
theorem dX1_pairs_32 : decode cX1_pairs 32 = .ok (.iconst 1, 1) := by decide +kernel
theorem dX1_pairs_33 : decode cX1_pairs 33 = .ok (.goto 4, 3) := by decide +kernel
theorem dX1_pairs_36 : decode cX1_pairs 36 = .ok (.iconst 0, 1) := by decide +kernel
theorem dX1_pairs_37 : decode cX1_pairs 37 = .ok (.iadd, 1) := by decide +kernel
theorem dX1_pairs_38 : decode cX1_pairs 38 = .ok (.istore_n 1, 1) := by decide +kernel
theorem dX1_pairs_39 : decode cX1_pairs 39 = .ok (.iinc 3 1, 3) := by decide +kernel
theorem dX1_pairs_42 : decode cX1_pairs 42 = .ok (.goto (-28), 3) := by decide +kernel
theorem dX1_pairs_45 : decode cX1_pairs 45 = .ok (.iinc 2 1, 3) := by decide +kernel
theorem dX1_pairs_48 : decode cX1_pairs 48 = .ok (.goto (-44), 3) := by decide +kernel
theorem dX1_pairs_51 : decode cX1_pairs 51 = .ok (.iload_n 1, 1) := by decide +kernel
theorem dX1_pairs_52 : decode cX1_pairs 52 = .ok (.ireturn, 1) := by decide +kernel
set_option maxRecDepth 20000 in
theorem ggX1_bestLift_X1_pairs : GoodIn wsX1_bestLift wsX1_pairs := goodIn_r _ [8, 9, 10, 11, 12, 13, 7, 14, 15, 16, 2, 17, 18, 19, 20, 21, 22, 23, 24, 25, 26, 27, 28, 29, 30, 31, 32, 33, 3, 34, 35, 36, 37, 38, 39, 40, 41, 42, 43, 44, 45, 46, 47, 48, 49, 50, 51, 52, 53, 54, 55, 56, 57, 58, 59, 60, 61, 62, 63, 64, 65, 66, 67, 68] (by decide +kernel) (by decide +kernel)
set_option maxRecDepth 20000 in
theorem gX1_bestLift_X1_pairs : GoodIn wsX1_bestLift (wsV RX1 145 RX1 yX1_pairs wsX1_pairs) := goodIn_app (goodIn_of _ (by decide +kernel)) ggX1_bestLift_X1_pairs
theorem dX1_bestLift_0 : decode cX1_bestLift 0 = .ok (.aload_n 0, 1) := by decide +kernel
theorem dX1_bestLift_1 : decode cX1_bestLift 1 = .ok (.iconst 0, 1) := by decide +kernel
theorem dX1_bestLift_2 : decode cX1_bestLift 2 = .ok (.putfield 47, 3) := by decide +kernel
theorem dX1_bestLift_5 : decode cX1_bestLift 5 = .ok (.iconst (-1), 1) := by decide +kernel
theorem dX1_bestLift_6 : decode cX1_bestLift 6 = .ok (.istore_n 1, 1) := by decide +kernel
theorem dX1_bestLift_7 : decode cX1_bestLift 7 = .ok (.aload_n 0, 1) := by decide +kernel
theorem dX1_bestLift_8 : decode cX1_bestLift 8 = .ok (.invokevirtual 145, 3) := by decide +kernel
theorem dX1_bestLift_11 : decode cX1_bestLift 11 = .ok (.istore_n 2, 1) := by decide +kernel
theorem dX1_bestLift_12 : decode cX1_bestLift 12 = .ok (.iconst 0, 1) := by decide +kernel
theorem dX1_bestLift_13 : decode cX1_bestLift 13 = .ok (.istore_n 3, 1) := by decide +kernel
theorem dX1_bestLift_14 : decode cX1_bestLift 14 = .ok (.iload_n 3, 1) := by decide +kernel
theorem dX1_bestLift_15 : decode cX1_bestLift 15 = .ok (.aload_n 0, 1) := by decide +kernel
theorem dX1_bestLift_16 : decode cX1_bestLift 16 = .ok (.getfield 58, 3) := by decide +kernel
theorem dX1_bestLift_19 : decode cX1_bestLift 19 = .ok (.if_icmp .ge 55, 3) := by decide +kernel
theorem dX1_bestLift_22 : decode cX1_bestLift 22 = .ok (.aload_n 0, 1) := by decide +kernel
theorem dX1_bestLift_23 : decode cX1_bestLift 23 = .ok (.getfield 25, 3) := by decide +kernel
theorem dX1_bestLift_26 : decode cX1_bestLift 26 = .ok (.iload_n 3, 1) := by decide +kernel
theorem dX1_bestLift_27 : decode cX1_bestLift 27 = .ok (.baload, 1) := by decide +kernel
theorem dX1_bestLift_28 : decode cX1_bestLift 28 = .ok (.ifCond .ne 6, 3) := by decide +kernel
theorem dX1_bestLift_31 : decode cX1_bestLift 31 = .ok (.goto 37, 3) := by decide +kernel
theorem dX1_bestLift_34 : decode cX1_bestLift 34 = .ok (.aload_n 0, 1) := by decide +kernel
theorem dX1_bestLift_35 : decode cX1_bestLift 35 = .ok (.getfield 25, 3) := by decide +kernel
theorem dX1_bestLift_38 : decode cX1_bestLift 38 = .ok (.iload_n 3, 1) := by decide +kernel
theorem dX1_bestLift_39 : decode cX1_bestLift 39 = .ok (.iconst 0, 1) := by decide +kernel
theorem dX1_bestLift_40 : decode cX1_bestLift 40 = .ok (.bastore, 1) := by decide +kernel
theorem dX1_bestLift_41 : decode cX1_bestLift 41 = .ok (.aload_n 0, 1) := by decide +kernel
theorem dX1_bestLift_42 : decode cX1_bestLift 42 = .ok (.invokevirtual 145, 3) := by decide +kernel
theorem dX1_bestLift_45 : decode cX1_bestLift 45 = .ok (.istore 4, 2) := by decide +kernel
theorem dX1_bestLift_47 : decode cX1_bestLift 47 = .ok (.aload_n 0, 1) := by decide +kernel
theorem dX1_bestLift_48 : decode cX1_bestLift 48 = .ok (.getfield 25, 3) := by decide +kernel
theorem dX1_bestLift_51 : decode cX1_bestLift 51 = .ok (.iload_n 3, 1) := by decide +kernel
theorem dX1_bestLift_52 : decode cX1_bestLift 52 = .ok (.iconst 1, 1) := by decide +kernel
theorem dX1_bestLift_53 : decode cX1_bestLift 53 = .ok (.bastore, 1) := by decide +kernel
theorem dX1_bestLift_54 : decode cX1_bestLift 54 = .ok (.iload 4, 2) := by decide +kernel
theorem dX1_bestLift_56 : decode cX1_bestLift 56 = .ok (.iload_n 2, 1) := by decide +kernel
theorem dX1_bestLift_57 : decode cX1_bestLift 57 = .ok (.if_icmp .gt 6, 3) := by decide +kernel
theorem dX1_bestLift_60 : decode cX1_bestLift 60 = .ok (.goto 8, 3) := by decide +kernel
theorem dX1_bestLift_63 : decode cX1_bestLift 63 = .ok (.iload_n 3, 1) := by decide +kernel
theorem dX1_bestLift_64 : decode cX1_bestLift 64 = .ok (.istore_n 1, 1) := by decide +kernel
theorem dX1_bestLift_65 : decode cX1_bestLift 65 = .ok (.iload 4, 2) := by decide +kernel
theorem dX1_bestLift_67 : decode cX1_bestLift 67 = .ok (.istore_n 2, 1) := by decide +kernel
theorem dX1_bestLift_68 : decode cX1_bestLift 68 = .ok (.iinc 3 1, 3) := by decide +kernel
theorem dX1_bestLift_71 : decode cX1_bestLift 71 = .ok (.goto (-57), 3) := by decide +kernel
theorem dX1_bestLift_74 : decode cX1_bestLift 74 = .ok (.iload_n 1, 1) := by decide +kernel
theorem dX1_bestLift_75 : decode cX1_bestLift 75 = .ok (.ireturn, 1) := by decide +kernel
set_option maxRecDepth 20000 in
theorem ggX1_meanDebt_X1_all : GoodIn wsX1_meanDebt wsX1_all := goodIn_r _ [7, 2, 8, 9, 10, 11, 12, 13, 14, 15, 16, 17, 18, 19, 20, 21, 22, 23, 24, 25, 26] (by decide +kernel) (by decide +kernel)
set_option maxRecDepth 20000 in
theorem gX1_meanDebt_X1_all : GoodIn wsX1_meanDebt (wsV RX1 142 RX1 yX1_all wsX1_all) := goodIn_app (goodIn_of _ (by decide +kernel)) ggX1_meanDebt_X1_all
theorem dX1_meanDebt_0 : decode cX1_meanDebt 0 = .ok (.aload_n 0, 1) := by decide +kernel
theorem dX1_meanDebt_1 : decode cX1_meanDebt 1 = .ok (.iconst 0, 1) := by decide +kernel
theorem dX1_meanDebt_2 : decode cX1_meanDebt 2 = .ok (.putfield 47, 3) := by decide +kernel
theorem dX1_meanDebt_5 : decode cX1_meanDebt 5 = .ok (.aload_n 0, 1) := by decide +kernel
theorem dX1_meanDebt_6 : decode cX1_meanDebt 6 = .ok (.getfield 61, 3) := by decide +kernel
theorem dX1_meanDebt_9 : decode cX1_meanDebt 9 = .ok (.ifCond .ne 7, 3) := by decide +kernel
theorem dX1_meanDebt_12 : decode cX1_meanDebt 12 = .ok (.dconst 0, 1) := by decide +kernel
theorem dX1_meanDebt_13 : decode cX1_meanDebt 13 = .ok (.goto 14, 3) := by decide +kernel
theorem dX1_meanDebt_16 : decode cX1_meanDebt 16 = .ok (.aload_n 0, 1) := by decide +kernel
theorem dX1_meanDebt_17 : decode cX1_meanDebt 17 = .ok (.invokevirtual 142, 3) := by decide +kernel
theorem dX1_meanDebt_20 : decode cX1_meanDebt 20 = .ok (.i2d, 1) := by decide +kernel
theorem dX1_meanDebt_21 : decode cX1_meanDebt 21 = .ok (.aload_n 0, 1) := by decide +kernel
theorem dX1_meanDebt_22 : decode cX1_meanDebt 22 = .ok (.getfield 61, 3) := by decide +kernel
theorem dX1_meanDebt_25 : decode cX1_meanDebt 25 = .ok (.i2d, 1) := by decide +kernel
theorem dX1_meanDebt_26 : decode cX1_meanDebt 26 = .ok (.ddiv, 1) := by decide +kernel
theorem dX1_meanDebt_27 : decode cX1_meanDebt 27 = .ok (.dreturn, 1) := by decide +kernel
set_option maxRecDepth 20000 in
theorem ggX1_digest_X1_dusk : GoodIn wsX1_digest wsX1_dusk := goodIn_r _ [23, 7, 24, 25, 22, 26, 56, 57, 58, 59, 60, 61, 62, 63, 64, 65, 66, 67, 68, 69, 70, 71, 72, 73] (by decide +kernel) (by decide +kernel)
set_option maxRecDepth 20000 in
theorem gX1_digest_X1_dusk : GoodIn wsX1_digest (wsV RX1 71 RX1 yX1_dusk wsX1_dusk) := goodIn_app (goodIn_of _ (by decide +kernel)) ggX1_digest_X1_dusk
set_option maxRecDepth 20000 in
theorem ggX1_digest_X1_dawn : GoodIn wsX1_digest wsX1_dawn := goodIn_r _ [29, 24, 25, 22, 26] (by decide +kernel) (by decide +kernel)
set_option maxRecDepth 20000 in
theorem gX1_digest_X1_dawn : GoodIn wsX1_digest (va_wsS RX1 74 yX1_dawn wsX1_dawn) := goodIn_app (goodIn_of _ (by decide +kernel)) ggX1_digest_X1_dawn
set_option maxRecDepth 20000 in
theorem ggX1_digest_X1_manyOn : GoodIn wsX1_digest wsX1_manyOn := goodIn_r _ [33, 5, 2, 34, 35, 36, 22, 37, 13, 38, 39, 40, 41, 42, 43, 19, 20, 21, 23, 7, 24, 25, 26, 27, 28, 29, 56, 57, 58, 59, 60, 61, 62, 63, 64, 65, 66, 67, 68, 69, 70, 71, 72, 73] (by decide +kernel) (by decide +kernel)
set_option maxRecDepth 20000 in
theorem gX1_digest_X1_manyOn : GoodIn wsX1_digest (wsV RX1 138 RX1 yX1_manyOn wsX1_manyOn) := goodIn_app (goodIn_of _ (by decide +kernel)) ggX1_digest_X1_manyOn
set_option maxRecDepth 20000 in
theorem ggX1_digest_X1_onAt : GoodIn wsX1_digest wsX1_onAt := goodIn_r _ [37, 13, 38, 39, 40, 22, 41, 42, 43, 19, 20, 21, 23, 7, 24, 25, 26, 27, 28, 29, 56, 57, 58, 59, 60, 61, 62, 63, 64, 65, 66, 67, 68, 69, 70, 71, 72, 73] (by decide +kernel) (by decide +kernel)
set_option maxRecDepth 20000 in
theorem gX1_digest_X1_onAt : GoodIn wsX1_digest (wsV RX1 81 RX1 yX1_onAt wsX1_onAt) := goodIn_app (goodIn_of _ (by decide +kernel)) ggX1_digest_X1_onAt
set_option maxRecDepth 20000 in
theorem ggX1_digest_X1_barred : GoodIn wsX1_digest wsX1_barred := goodIn_r _ [47, 6, 11, 2, 48, 49, 50, 22, 51, 14, 15, 34, 35, 36, 37, 13, 38, 39, 40, 41, 42, 43, 19, 20, 21, 23, 7, 24, 25, 26, 27, 28, 29, 56, 57, 58, 59, 60, 61, 62, 63, 64, 65, 66, 67, 68, 69, 70, 71, 72, 73] (by decide +kernel) (by decide +kernel)
set_option maxRecDepth 20000 in
theorem gX1_digest_X1_barred : GoodIn wsX1_digest (wsV RX1 125 RX1 yX1_barred wsX1_barred) := goodIn_app (goodIn_of _ (by decide +kernel)) ggX1_digest_X1_barred
set_option maxRecDepth 20000 in
theorem ggX1_digest_X1_against : GoodIn wsX1_digest wsX1_against := goodIn_r _ [55, 5, 48, 49, 50, 22, 51, 11, 14, 15, 34, 35, 36, 37, 13, 38, 39, 40, 41, 42, 43, 19, 20, 21, 23, 7, 24, 25, 26, 27, 28, 29, 56, 57, 58, 59, 60, 61, 62, 63, 64, 65, 66, 67, 68, 69, 70, 71, 72, 73] (by decide +kernel) (by decide +kernel)
set_option maxRecDepth 20000 in
theorem gX1_digest_X1_against : GoodIn wsX1_digest (wsV RX1 128 RX1 yX1_against wsX1_against) := goodIn_app (goodIn_of _ (by decide +kernel)) ggX1_digest_X1_against
theorem dX1_digest_0 : decode cX1_digest 0 = .ok (.aload_n 0, 1) := by decide +kernel
theorem dX1_digest_1 : decode cX1_digest 1 = .ok (.iconst 0, 1) := by decide +kernel
theorem dX1_digest_2 : decode cX1_digest 2 = .ok (.putfield 47, 3) := by decide +kernel
theorem dX1_digest_5 : decode cX1_digest 5 = .ok (.aload_n 0, 1) := by decide +kernel
theorem dX1_digest_6 : decode cX1_digest 6 = .ok (.getfield 122, 3) := by decide +kernel
theorem dX1_digest_9 : decode cX1_digest 9 = .ok (.bipush 48, 2) := by decide +kernel
theorem dX1_digest_11 : decode cX1_digest 11 = .ok (.idiv, 1) := by decide +kernel
theorem dX1_digest_12 : decode cX1_digest 12 = .ok (.istore_n 1, 1) := by decide +kernel
theorem dX1_digest_13 : decode cX1_digest 13 = .ok (.bipush 9, 2) := by decide +kernel
theorem dX1_digest_15 : decode cX1_digest 15 = .ok (.newarray .int, 2) := by decide +kernel
theorem dX1_digest_17 : decode cX1_digest 17 = .ok (.dup, 1) := by decide +kernel
theorem dX1_digest_18 : decode cX1_digest 18 = .ok (.iconst 0, 1) := by decide +kernel
theorem dX1_digest_19 : decode cX1_digest 19 = .ok (.iload_n 1, 1) := by decide +kernel
theorem dX1_digest_20 : decode cX1_digest 20 = .ok (.iastore, 1) := by decide +kernel
theorem dX1_digest_21 : decode cX1_digest 21 = .ok (.dup, 1) := by decide +kernel
theorem dX1_digest_22 : decode cX1_digest 22 = .ok (.iconst 1, 1) := by decide +kernel
theorem dX1_digest_23 : decode cX1_digest 23 = .ok (.aload_n 0, 1) := by decide +kernel
theorem dX1_digest_24 : decode cX1_digest 24 = .ok (.getfield 122, 3) := by decide +kernel
theorem dX1_digest_27 : decode cX1_digest 27 = .ok (.bipush 48, 2) := by decide +kernel
theorem dX1_digest_29 : decode cX1_digest 29 = .ok (.irem, 1) := by decide +kernel
theorem dX1_digest_30 : decode cX1_digest 30 = .ok (.iastore, 1) := by decide +kernel
theorem dX1_digest_31 : decode cX1_digest 31 = .ok (.dup, 1) := by decide +kernel
theorem dX1_digest_32 : decode cX1_digest 32 = .ok (.iconst 2, 1) := by decide +kernel
theorem dX1_digest_33 : decode cX1_digest 33 = .ok (.aload_n 0, 1) := by decide +kernel
theorem dX1_digest_34 : decode cX1_digest 34 = .ok (.iload_n 1, 1) := by decide +kernel
theorem dX1_digest_35 : decode cX1_digest 35 = .ok (.invokevirtual 71, 3) := by decide +kernel
theorem dX1_digest_38 : decode cX1_digest 38 = .ok (.iastore, 1) := by decide +kernel
theorem dX1_digest_39 : decode cX1_digest 39 = .ok (.dup, 1) := by decide +kernel
theorem dX1_digest_40 : decode cX1_digest 40 = .ok (.iconst 3, 1) := by decide +kernel
theorem dX1_digest_41 : decode cX1_digest 41 = .ok (.iload_n 1, 1) := by decide +kernel
theorem dX1_digest_42 : decode cX1_digest 42 = .ok (.invokestatic 74, 3) := by decide +kernel
theorem dX1_digest_45 : decode cX1_digest 45 = .ok (.iastore, 1) := by decide +kernel
theorem dX1_digest_46 : decode cX1_digest 46 = .ok (.dup, 1) := by decide +kernel
theorem dX1_digest_47 : decode cX1_digest 47 = .ok (.iconst 4, 1) := by decide +kernel
theorem dX1_digest_48 : decode cX1_digest 48 = .ok (.aload_n 0, 1) := by decide +kernel
theorem dX1_digest_49 : decode cX1_digest 49 = .ok (.getfield 51, 3) := by decide +kernel
theorem dX1_digest_52 : decode cX1_digest 52 = .ok (.iastore, 1) := by decide +kernel
theorem dX1_digest_53 : decode cX1_digest 53 = .ok (.dup, 1) := by decide +kernel
theorem dX1_digest_54 : decode cX1_digest 54 = .ok (.iconst 5, 1) := by decide +kernel
theorem dX1_digest_55 : decode cX1_digest 55 = .ok (.aload_n 0, 1) := by decide +kernel
theorem dX1_digest_56 : decode cX1_digest 56 = .ok (.getfield 58, 3) := by decide +kernel
theorem dX1_digest_59 : decode cX1_digest 59 = .ok (.iastore, 1) := by decide +kernel
theorem dX1_digest_60 : decode cX1_digest 60 = .ok (.dup, 1) := by decide +kernel
theorem dX1_digest_61 : decode cX1_digest 61 = .ok (.bipush 6, 2) := by decide +kernel
theorem dX1_digest_63 : decode cX1_digest 63 = .ok (.aload_n 0, 1) := by decide +kernel
theorem dX1_digest_64 : decode cX1_digest 64 = .ok (.getfield 61, 3) := by decide +kernel
theorem dX1_digest_67 : decode cX1_digest 67 = .ok (.iastore, 1) := by decide +kernel
theorem dX1_digest_68 : decode cX1_digest 68 = .ok (.dup, 1) := by decide +kernel
theorem dX1_digest_69 : decode cX1_digest 69 = .ok (.bipush 7, 2) := by decide +kernel
theorem dX1_digest_71 : decode cX1_digest 71 = .ok (.aload_n 0, 1) := by decide +kernel
theorem dX1_digest_72 : decode cX1_digest 72 = .ok (.invokevirtual 138, 3) := by decide +kernel
theorem dX1_digest_75 : decode cX1_digest 75 = .ok (.iastore, 1) := by decide +kernel
theorem dX1_digest_76 : decode cX1_digest 76 = .ok (.dup, 1) := by decide +kernel
theorem dX1_digest_77 : decode cX1_digest 77 = .ok (.bipush 8, 2) := by decide +kernel
theorem dX1_digest_79 : decode cX1_digest 79 = .ok (.aload_n 0, 1) := by decide +kernel
theorem dX1_digest_80 : decode cX1_digest 80 = .ok (.getfield 68, 3) := by decide +kernel
theorem dX1_digest_83 : decode cX1_digest 83 = .ok (.iastore, 1) := by decide +kernel
theorem dX1_digest_84 : decode cX1_digest 84 = .ok (.astore_n 2, 1) := by decide +kernel
theorem dX1_digest_85 : decode cX1_digest 85 = .ok (.ldc2_w 148, 3) := by decide +kernel
theorem dX1_digest_88 : decode cX1_digest 88 = .ok (.lstore_n 3, 1) := by decide +kernel
theorem dX1_digest_89 : decode cX1_digest 89 = .ok (.aload_n 2, 1) := by decide +kernel
theorem dX1_digest_90 : decode cX1_digest 90 = .ok (.astore 5, 2) := by decide +kernel
theorem dX1_digest_92 : decode cX1_digest 92 = .ok (.aload 5, 2) := by decide +kernel
theorem dX1_digest_94 : decode cX1_digest 94 = .ok (.arraylength, 1) := by decide +kernel
theorem dX1_digest_95 : decode cX1_digest 95 = .ok (.istore 6, 2) := by decide +kernel
theorem dX1_digest_97 : decode cX1_digest 97 = .ok (.iconst 0, 1) := by decide +kernel
theorem dX1_digest_98 : decode cX1_digest 98 = .ok (.istore 7, 2) := by decide +kernel
theorem dX1_digest_100 : decode cX1_digest 100 = .ok (.iload 7, 2) := by decide +kernel
theorem dX1_digest_102 : decode cX1_digest 102 = .ok (.iload 6, 2) := by decide +kernel
theorem dX1_digest_104 : decode cX1_digest 104 = .ok (.if_icmp .ge 26, 3) := by decide +kernel
theorem dX1_digest_107 : decode cX1_digest 107 = .ok (.aload 5, 2) := by decide +kernel
theorem dX1_digest_109 : decode cX1_digest 109 = .ok (.iload 7, 2) := by decide +kernel
theorem dX1_digest_111 : decode cX1_digest 111 = .ok (.iaload, 1) := by decide +kernel
theorem dX1_digest_112 : decode cX1_digest 112 = .ok (.istore 8, 2) := by decide +kernel
theorem dX1_digest_114 : decode cX1_digest 114 = .ok (.lload_n 3, 1) := by decide +kernel
theorem dX1_digest_115 : decode cX1_digest 115 = .ok (.ldc2_w 150, 3) := by decide +kernel
theorem dX1_digest_118 : decode cX1_digest 118 = .ok (.lmul, 1) := by decide +kernel
theorem dX1_digest_119 : decode cX1_digest 119 = .ok (.iload 8, 2) := by decide +kernel
theorem dX1_digest_121 : decode cX1_digest 121 = .ok (.i2l, 1) := by decide +kernel
theorem dX1_digest_122 : decode cX1_digest 122 = .ok (.ladd, 1) := by decide +kernel
theorem dX1_digest_123 : decode cX1_digest 123 = .ok (.lstore_n 3, 1) := by decide +kernel
theorem dX1_digest_124 : decode cX1_digest 124 = .ok (.iinc 7 1, 3) := by decide +kernel
theorem dX1_digest_127 : decode cX1_digest 127 = .ok (.goto (-27), 3) := by decide +kernel
theorem dX1_digest_130 : decode cX1_digest 130 = .ok (.iconst 0, 1) := by decide +kernel
theorem dX1_digest_131 : decode cX1_digest 131 = .ok (.istore 5, 2) := by decide +kernel
theorem dX1_digest_133 : decode cX1_digest 133 = .ok (.iload 5, 2) := by decide +kernel
theorem dX1_digest_135 : decode cX1_digest 135 = .ok (.iconst 4, 1) := by decide +kernel
theorem dX1_digest_136 : decode cX1_digest 136 = .ok (.if_icmp .ge 24, 3) := by decide +kernel
theorem dX1_digest_139 : decode cX1_digest 139 = .ok (.lload_n 3, 1) := by decide +kernel
theorem dX1_digest_140 : decode cX1_digest 140 = .ok (.ldc2_w 150, 3) := by decide +kernel
theorem dX1_digest_143 : decode cX1_digest 143 = .ok (.lmul, 1) := by decide +kernel
theorem dX1_digest_144 : decode cX1_digest 144 = .ok (.aload_n 0, 1) := by decide +kernel
theorem dX1_digest_145 : decode cX1_digest 145 = .ok (.getfield 41, 3) := by decide +kernel
theorem dX1_digest_148 : decode cX1_digest 148 = .ok (.iload 5, 2) := by decide +kernel
theorem dX1_digest_150 : decode cX1_digest 150 = .ok (.iaload, 1) := by decide +kernel
theorem dX1_digest_151 : decode cX1_digest 151 = .ok (.i2l, 1) := by decide +kernel
theorem dX1_digest_152 : decode cX1_digest 152 = .ok (.ladd, 1) := by decide +kernel
theorem dX1_digest_153 : decode cX1_digest 153 = .ok (.lstore_n 3, 1) := by decide +kernel
theorem dX1_digest_154 : decode cX1_digest 154 = .ok (.iinc 5 1, 3) := by decide +kernel
theorem dX1_digest_157 : decode cX1_digest 157 = .ok (.goto (-24), 3) := by decide +kernel
theorem dX1_digest_160 : decode cX1_digest 160 = .ok (.iconst 0, 1) := by decide +kernel
theorem dX1_digest_161 : decode cX1_digest 161 = .ok (.istore 5, 2) := by decide +kernel
theorem dX1_digest_163 : decode cX1_digest 163 = .ok (.iload 5, 2) := by decide +kernel
theorem dX1_digest_165 : decode cX1_digest 165 = .ok (.aload_n 0, 1) := by decide +kernel
theorem dX1_digest_166 : decode cX1_digest 166 = .ok (.getfield 58, 3) := by decide +kernel
theorem dX1_digest_169 : decode cX1_digest 169 = .ok (.if_icmp .ge 138, 3) := by decide +kernel
theorem dX1_digest_172 : decode cX1_digest 172 = .ok (.lload_n 3, 1) := by decide +kernel
theorem dX1_digest_173 : decode cX1_digest 173 = .ok (.ldc2_w 150, 3) := by decide +kernel
theorem dX1_digest_176 : decode cX1_digest 176 = .ok (.lmul, 1) := by decide +kernel
theorem dX1_digest_177 : decode cX1_digest 177 = .ok (.aload_n 0, 1) := by decide +kernel
theorem dX1_digest_178 : decode cX1_digest 178 = .ok (.getfield 9, 3) := by decide +kernel
theorem dX1_digest_181 : decode cX1_digest 181 = .ok (.iload 5, 2) := by decide +kernel
theorem dX1_digest_183 : decode cX1_digest 183 = .ok (.iaload, 1) := by decide +kernel
theorem dX1_digest_184 : decode cX1_digest 184 = .ok (.i2l, 1) := by decide +kernel
theorem dX1_digest_185 : decode cX1_digest 185 = .ok (.ladd, 1) := by decide +kernel
theorem dX1_digest_186 : decode cX1_digest 186 = .ok (.lstore_n 3, 1) := by decide +kernel
theorem dX1_digest_187 : decode cX1_digest 187 = .ok (.lload_n 3, 1) := by decide +kernel
theorem dX1_digest_188 : decode cX1_digest 188 = .ok (.ldc2_w 150, 3) := by decide +kernel
theorem dX1_digest_191 : decode cX1_digest 191 = .ok (.lmul, 1) := by decide +kernel
theorem dX1_digest_192 : decode cX1_digest 192 = .ok (.aload_n 0, 1) := by decide +kernel
theorem dX1_digest_193 : decode cX1_digest 193 = .ok (.getfield 19, 3) := by decide +kernel
theorem dX1_digest_196 : decode cX1_digest 196 = .ok (.iload 5, 2) := by decide +kernel
theorem dX1_digest_198 : decode cX1_digest 198 = .ok (.iaload, 1) := by decide +kernel
theorem dX1_digest_199 : decode cX1_digest 199 = .ok (.i2l, 1) := by decide +kernel
theorem dX1_digest_200 : decode cX1_digest 200 = .ok (.ladd, 1) := by decide +kernel
theorem dX1_digest_201 : decode cX1_digest 201 = .ok (.lstore_n 3, 1) := by decide +kernel
theorem dX1_digest_202 : decode cX1_digest 202 = .ok (.lload_n 3, 1) := by decide +kernel
theorem dX1_digest_203 : decode cX1_digest 203 = .ok (.ldc2_w 150, 3) := by decide +kernel
theorem dX1_digest_206 : decode cX1_digest 206 = .ok (.lmul, 1) := by decide +kernel
theorem dX1_digest_207 : decode cX1_digest 207 = .ok (.aload_n 0, 1) := by decide +kernel
theorem dX1_digest_208 : decode cX1_digest 208 = .ok (.getfield 25, 3) := by decide +kernel
theorem dX1_digest_211 : decode cX1_digest 211 = .ok (.iload 5, 2) := by decide +kernel
theorem dX1_digest_213 : decode cX1_digest 213 = .ok (.baload, 1) := by decide +kernel
theorem dX1_digest_214 : decode cX1_digest 214 = .ok (.ifCond .eq 7, 3) := by decide +kernel
theorem dX1_digest_217 : decode cX1_digest 217 = .ok (.iconst 1, 1) := by decide +kernel
theorem dX1_digest_218 : decode cX1_digest 218 = .ok (.goto 4, 3) := by decide +kernel
theorem dX1_digest_221 : decode cX1_digest 221 = .ok (.iconst 0, 1) := by decide +kernel
theorem dX1_digest_222 : decode cX1_digest 222 = .ok (.i2l, 1) := by decide +kernel
theorem dX1_digest_223 : decode cX1_digest 223 = .ok (.ladd, 1) := by decide +kernel
theorem dX1_digest_224 : decode cX1_digest 224 = .ok (.lstore_n 3, 1) := by decide +kernel
theorem dX1_digest_225 : decode cX1_digest 225 = .ok (.lload_n 3, 1) := by decide +kernel
theorem dX1_digest_226 : decode cX1_digest 226 = .ok (.ldc2_w 150, 3) := by decide +kernel
theorem dX1_digest_229 : decode cX1_digest 229 = .ok (.lmul, 1) := by decide +kernel
theorem dX1_digest_230 : decode cX1_digest 230 = .ok (.aload_n 0, 1) := by decide +kernel
theorem dX1_digest_231 : decode cX1_digest 231 = .ok (.iload 5, 2) := by decide +kernel
theorem dX1_digest_233 : decode cX1_digest 233 = .ok (.aload_n 0, 1) := by decide +kernel
theorem dX1_digest_234 : decode cX1_digest 234 = .ok (.getfield 122, 3) := by decide +kernel
theorem dX1_digest_237 : decode cX1_digest 237 = .ok (.invokevirtual 81, 3) := by decide +kernel
theorem dX1_digest_240 : decode cX1_digest 240 = .ok (.ifCond .eq 7, 3) := by decide +kernel
theorem dX1_digest_243 : decode cX1_digest 243 = .ok (.iconst 1, 1) := by decide +kernel
theorem dX1_digest_244 : decode cX1_digest 244 = .ok (.goto 4, 3) := by decide +kernel
theorem dX1_digest_247 : decode cX1_digest 247 = .ok (.iconst 0, 1) := by decide +kernel
theorem dX1_digest_248 : decode cX1_digest 248 = .ok (.i2l, 1) := by decide +kernel
theorem dX1_digest_249 : decode cX1_digest 249 = .ok (.ladd, 1) := by decide +kernel
theorem dX1_digest_250 : decode cX1_digest 250 = .ok (.lstore_n 3, 1) := by decide +kernel
theorem dX1_digest_251 : decode cX1_digest 251 = .ok (.lload_n 3, 1) := by decide +kernel
theorem dX1_digest_252 : decode cX1_digest 252 = .ok (.ldc2_w 150, 3) := by decide +kernel
theorem dX1_digest_255 : decode cX1_digest 255 = .ok (.lmul, 1) := by decide +kernel
theorem dX1_digest_256 : decode cX1_digest 256 = .ok (.aload_n 0, 1) := by decide +kernel
theorem dX1_digest_257 : decode cX1_digest 257 = .ok (.iload 5, 2) := by decide +kernel
theorem dX1_digest_259 : decode cX1_digest 259 = .ok (.invokevirtual 125, 3) := by decide +kernel
theorem dX1_digest_262 : decode cX1_digest 262 = .ok (.i2l, 1) := by decide +kernel
theorem dX1_digest_263 : decode cX1_digest 263 = .ok (.ladd, 1) := by decide +kernel
theorem dX1_digest_264 : decode cX1_digest 264 = .ok (.lstore_n 3, 1) := by decide +kernel
theorem dX1_digest_265 : decode cX1_digest 265 = .ok (.iconst 0, 1) := by decide +kernel
theorem dX1_digest_266 : decode cX1_digest 266 = .ok (.istore 6, 2) := by decide +kernel
theorem dX1_digest_268 : decode cX1_digest 268 = .ok (.iload 6, 2) := by decide +kernel
theorem dX1_digest_270 : decode cX1_digest 270 = .ok (.bipush 8, 2) := by decide +kernel
theorem dX1_digest_272 : decode cX1_digest 272 = .ok (.if_icmp .ge 29, 3) := by decide +kernel
theorem dX1_digest_275 : decode cX1_digest 275 = .ok (.lload_n 3, 1) := by decide +kernel
theorem dX1_digest_276 : decode cX1_digest 276 = .ok (.ldc2_w 150, 3) := by decide +kernel
theorem dX1_digest_279 : decode cX1_digest 279 = .ok (.lmul, 1) := by decide +kernel
theorem dX1_digest_280 : decode cX1_digest 280 = .ok (.aload_n 0, 1) := by decide +kernel
theorem dX1_digest_281 : decode cX1_digest 281 = .ok (.getfield 22, 3) := by decide +kernel
theorem dX1_digest_284 : decode cX1_digest 284 = .ok (.iload 5, 2) := by decide +kernel
theorem dX1_digest_286 : decode cX1_digest 286 = .ok (.iaload, 1) := by decide +kernel
theorem dX1_digest_287 : decode cX1_digest 287 = .ok (.iload 6, 2) := by decide +kernel
theorem dX1_digest_289 : decode cX1_digest 289 = .ok (.ishr, 1) := by decide +kernel
theorem dX1_digest_290 : decode cX1_digest 290 = .ok (.iconst 1, 1) := by decide +kernel
theorem dX1_digest_291 : decode cX1_digest 291 = .ok (.iand, 1) := by decide +kernel
theorem dX1_digest_292 : decode cX1_digest 292 = .ok (.i2l, 1) := by decide +kernel
theorem dX1_digest_293 : decode cX1_digest 293 = .ok (.ladd, 1) := by decide +kernel
theorem dX1_digest_294 : decode cX1_digest 294 = .ok (.lstore_n 3, 1) := by decide +kernel
theorem dX1_digest_295 : decode cX1_digest 295 = .ok (.iinc 6 1, 3) := by decide +kernel
theorem dX1_digest_298 : decode cX1_digest 298 = .ok (.goto (-30), 3) := by decide +kernel
theorem dX1_digest_301 : decode cX1_digest 301 = .ok (.iinc 5 1, 3) := by decide +kernel
theorem dX1_digest_304 : decode cX1_digest 304 = .ok (.goto (-141), 3) := by decide +kernel
theorem dX1_digest_307 : decode cX1_digest 307 = .ok (.iconst 0, 1) := by decide +kernel
theorem dX1_digest_308 : decode cX1_digest 308 = .ok (.istore 5, 2) := by decide +kernel
theorem dX1_digest_310 : decode cX1_digest 310 = .ok (.iload 5, 2) := by decide +kernel
theorem dX1_digest_312 : decode cX1_digest 312 = .ok (.aload_n 0, 1) := by decide +kernel
theorem dX1_digest_313 : decode cX1_digest 313 = .ok (.getfield 61, 3) := by decide +kernel
theorem dX1_digest_316 : decode cX1_digest 316 = .ok (.if_icmp .ge 127, 3) := by decide +kernel
theorem dX1_digest_319 : decode cX1_digest 319 = .ok (.lload_n 3, 1) := by decide +kernel
theorem dX1_digest_320 : decode cX1_digest 320 = .ok (.ldc2_w 150, 3) := by decide +kernel
theorem dX1_digest_323 : decode cX1_digest 323 = .ok (.lmul, 1) := by decide +kernel
theorem dX1_digest_324 : decode cX1_digest 324 = .ok (.aload_n 0, 1) := by decide +kernel
theorem dX1_digest_325 : decode cX1_digest 325 = .ok (.getfield 29, 3) := by decide +kernel
theorem dX1_digest_328 : decode cX1_digest 328 = .ok (.iload 5, 2) := by decide +kernel
theorem dX1_digest_330 : decode cX1_digest 330 = .ok (.iaload, 1) := by decide +kernel
theorem dX1_digest_331 : decode cX1_digest 331 = .ok (.i2l, 1) := by decide +kernel
theorem dX1_digest_332 : decode cX1_digest 332 = .ok (.ladd, 1) := by decide +kernel
theorem dX1_digest_333 : decode cX1_digest 333 = .ok (.lstore_n 3, 1) := by decide +kernel
theorem dX1_digest_334 : decode cX1_digest 334 = .ok (.lload_n 3, 1) := by decide +kernel
theorem dX1_digest_335 : decode cX1_digest 335 = .ok (.ldc2_w 150, 3) := by decide +kernel
theorem dX1_digest_338 : decode cX1_digest 338 = .ok (.lmul, 1) := by decide +kernel
theorem dX1_digest_339 : decode cX1_digest 339 = .ok (.aload_n 0, 1) := by decide +kernel
theorem dX1_digest_340 : decode cX1_digest 340 = .ok (.getfield 35, 3) := by decide +kernel
theorem dX1_digest_343 : decode cX1_digest 343 = .ok (.iload 5, 2) := by decide +kernel
theorem dX1_digest_345 : decode cX1_digest 345 = .ok (.iaload, 1) := by decide +kernel
theorem dX1_digest_346 : decode cX1_digest 346 = .ok (.i2l, 1) := by decide +kernel
theorem dX1_digest_347 : decode cX1_digest 347 = .ok (.ladd, 1) := by decide +kernel
theorem dX1_digest_348 : decode cX1_digest 348 = .ok (.lstore_n 3, 1) := by decide +kernel
theorem dX1_digest_349 : decode cX1_digest 349 = .ok (.lload_n 3, 1) := by decide +kernel
theorem dX1_digest_350 : decode cX1_digest 350 = .ok (.ldc2_w 150, 3) := by decide +kernel
theorem dX1_digest_353 : decode cX1_digest 353 = .ok (.lmul, 1) := by decide +kernel
theorem dX1_digest_354 : decode cX1_digest 354 = .ok (.aload_n 0, 1) := by decide +kernel
theorem dX1_digest_355 : decode cX1_digest 355 = .ok (.getfield 32, 3) := by decide +kernel
theorem dX1_digest_358 : decode cX1_digest 358 = .ok (.iload 5, 2) := by decide +kernel
theorem dX1_digest_360 : decode cX1_digest 360 = .ok (.iaload, 1) := by decide +kernel
theorem dX1_digest_361 : decode cX1_digest 361 = .ok (.i2l, 1) := by decide +kernel
theorem dX1_digest_362 : decode cX1_digest 362 = .ok (.ladd, 1) := by decide +kernel
theorem dX1_digest_363 : decode cX1_digest 363 = .ok (.lstore_n 3, 1) := by decide +kernel
theorem dX1_digest_364 : decode cX1_digest 364 = .ok (.iconst 0, 1) := by decide +kernel
theorem dX1_digest_365 : decode cX1_digest 365 = .ok (.istore 6, 2) := by decide +kernel
theorem dX1_digest_367 : decode cX1_digest 367 = .ok (.iload 6, 2) := by decide +kernel
theorem dX1_digest_369 : decode cX1_digest 369 = .ok (.iconst 4, 1) := by decide +kernel
theorem dX1_digest_370 : decode cX1_digest 370 = .ok (.if_icmp .ge 29, 3) := by decide +kernel
theorem dX1_digest_373 : decode cX1_digest 373 = .ok (.lload_n 3, 1) := by decide +kernel
theorem dX1_digest_374 : decode cX1_digest 374 = .ok (.ldc2_w 150, 3) := by decide +kernel
theorem dX1_digest_377 : decode cX1_digest 377 = .ok (.lmul, 1) := by decide +kernel
theorem dX1_digest_378 : decode cX1_digest 378 = .ok (.aload_n 0, 1) := by decide +kernel
theorem dX1_digest_379 : decode cX1_digest 379 = .ok (.getfield 38, 3) := by decide +kernel
theorem dX1_digest_382 : decode cX1_digest 382 = .ok (.iconst 4, 1) := by decide +kernel
theorem dX1_digest_383 : decode cX1_digest 383 = .ok (.iload 5, 2) := by decide +kernel
theorem dX1_digest_385 : decode cX1_digest 385 = .ok (.imul, 1) := by decide +kernel
theorem dX1_digest_386 : decode cX1_digest 386 = .ok (.iload 6, 2) := by decide +kernel
theorem dX1_digest_388 : decode cX1_digest 388 = .ok (.iadd, 1) := by decide +kernel
theorem dX1_digest_389 : decode cX1_digest 389 = .ok (.iaload, 1) := by decide +kernel
theorem dX1_digest_390 : decode cX1_digest 390 = .ok (.i2l, 1) := by decide +kernel
theorem dX1_digest_391 : decode cX1_digest 391 = .ok (.ladd, 1) := by decide +kernel
theorem dX1_digest_392 : decode cX1_digest 392 = .ok (.lstore_n 3, 1) := by decide +kernel
theorem dX1_digest_393 : decode cX1_digest 393 = .ok (.iinc 6 1, 3) := by decide +kernel
theorem dX1_digest_396 : decode cX1_digest 396 = .ok (.goto (-29), 3) := by decide +kernel
theorem dX1_digest_399 : decode cX1_digest 399 = .ok (.iconst 0, 1) := by decide +kernel
theorem dX1_digest_400 : decode cX1_digest 400 = .ok (.istore 6, 2) := by decide +kernel
theorem dX1_digest_402 : decode cX1_digest 402 = .ok (.iload 6, 2) := by decide +kernel
theorem dX1_digest_404 : decode cX1_digest 404 = .ok (.aload_n 0, 1) := by decide +kernel
theorem dX1_digest_405 : decode cX1_digest 405 = .ok (.getfield 51, 3) := by decide +kernel
theorem dX1_digest_408 : decode cX1_digest 408 = .ok (.if_icmp .ge 29, 3) := by decide +kernel
theorem dX1_digest_411 : decode cX1_digest 411 = .ok (.lload_n 3, 1) := by decide +kernel
theorem dX1_digest_412 : decode cX1_digest 412 = .ok (.ldc2_w 150, 3) := by decide +kernel
theorem dX1_digest_415 : decode cX1_digest 415 = .ok (.lmul, 1) := by decide +kernel
theorem dX1_digest_416 : decode cX1_digest 416 = .ok (.aload_n 0, 1) := by decide +kernel
theorem dX1_digest_417 : decode cX1_digest 417 = .ok (.iload 5, 2) := by decide +kernel
theorem dX1_digest_419 : decode cX1_digest 419 = .ok (.iload 6, 2) := by decide +kernel
theorem dX1_digest_421 : decode cX1_digest 421 = .ok (.aload_n 0, 1) := by decide +kernel
theorem dX1_digest_422 : decode cX1_digest 422 = .ok (.getfield 122, 3) := by decide +kernel
theorem dX1_digest_425 : decode cX1_digest 425 = .ok (.invokevirtual 128, 3) := by decide +kernel
theorem dX1_digest_428 : decode cX1_digest 428 = .ok (.i2l, 1) := by decide +kernel
theorem dX1_digest_429 : decode cX1_digest 429 = .ok (.ladd, 1) := by decide +kernel
theorem dX1_digest_430 : decode cX1_digest 430 = .ok (.lstore_n 3, 1) := by decide +kernel
theorem dX1_digest_431 : decode cX1_digest 431 = .ok (.iinc 6 1, 3) := by decide +kernel
theorem dX1_digest_434 : decode cX1_digest 434 = .ok (.goto (-32), 3) := by decide +kernel
theorem dX1_digest_437 : decode cX1_digest 437 = .ok (.iinc 5 1, 3) := by decide +kernel
theorem dX1_digest_440 : decode cX1_digest 440 = .ok (.goto (-130), 3) := by decide +kernel
theorem dX1_digest_443 : decode cX1_digest 443 = .ok (.lload_n 3, 1) := by decide +kernel
theorem dX1_digest_444 : decode cX1_digest 444 = .ok (.lreturn, 1) := by decide +kernel
theorem dJ9_max_7cf53_0 : decode cJ9_max_7cf53 0 = .ok (.iload_n 0, 1) := by decide +kernel
theorem dJ9_max_7cf53_1 : decode cJ9_max_7cf53 1 = .ok (.iload_n 1, 1) := by decide +kernel
theorem dJ9_max_7cf53_2 : decode cJ9_max_7cf53 2 = .ok (.if_icmp .lt 7, 3) := by decide +kernel
theorem dJ9_max_7cf53_5 : decode cJ9_max_7cf53 5 = .ok (.iload_n 0, 1) := by decide +kernel
theorem dJ9_max_7cf53_6 : decode cJ9_max_7cf53 6 = .ok (.goto 4, 3) := by decide +kernel
theorem dJ9_max_7cf53_9 : decode cJ9_max_7cf53 9 = .ok (.iload_n 1, 1) := by decide +kernel
theorem dJ9_max_7cf53_10 : decode cJ9_max_7cf53 10 = .ok (.ireturn, 1) := by decide +kernel
theorem dJ9_min_7cf53_0 : decode cJ9_min_7cf53 0 = .ok (.iload_n 0, 1) := by decide +kernel
theorem dJ9_min_7cf53_1 : decode cJ9_min_7cf53 1 = .ok (.iload_n 1, 1) := by decide +kernel
theorem dJ9_min_7cf53_2 : decode cJ9_min_7cf53 2 = .ok (.if_icmp .gt 7, 3) := by decide +kernel
theorem dJ9_min_7cf53_5 : decode cJ9_min_7cf53 5 = .ok (.iload_n 0, 1) := by decide +kernel
theorem dJ9_min_7cf53_6 : decode cJ9_min_7cf53 6 = .ok (.goto 4, 3) := by decide +kernel
theorem dJ9_min_7cf53_9 : decode cJ9_min_7cf53 9 = .ok (.iload_n 1, 1) := by decide +kernel
theorem dJ9_min_7cf53_10 : decode cJ9_min_7cf53 10 = .ok (.ireturn, 1) := by decide +kernel
