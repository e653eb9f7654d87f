theorem dX0_init_0 : decode cX0_init 0 = .ok (.aload_n 0, 1) := by decide +kernel
theorem dX0_init_1 : decode cX0_init 1 = .ok (.invokespecial 1, 3) := by decide +kernel
theorem dX0_init_4 : decode cX0_init 4 = .ok (.aload_n 0, 1) := by decide +kernel
theorem dX0_init_5 : decode cX0_init 5 = .ok (.bipush 10, 2) := by decide +kernel
theorem dX0_init_7 : decode cX0_init 7 = .ok (.newarray .int, 2) := by decide +kernel
theorem dX0_init_9 : decode cX0_init 9 = .ok (.putfield 9, 3) := by decide +kernel
theorem dX0_init_12 : decode cX0_init 12 = .ok (.aload_n 0, 1) := by decide +kernel
theorem dX0_init_13 : decode cX0_init 13 = .ok (.bipush 10, 2) := by decide +kernel
theorem dX0_init_15 : decode cX0_init 15 = .ok (.newarray .int, 2) := by decide +kernel
theorem dX0_init_17 : decode cX0_init 17 = .ok (.putfield 13, 3) := by decide +kernel
theorem dX0_init_20 : decode cX0_init 20 = .ok (.aload_n 0, 1) := by decide +kernel
theorem dX0_init_21 : decode cX0_init 21 = .ok (.bipush 10, 2) := by decide +kernel
theorem dX0_init_23 : decode cX0_init 23 = .ok (.newarray .int, 2) := by decide +kernel
theorem dX0_init_25 : decode cX0_init 25 = .ok (.putfield 16, 3) := by decide +kernel
theorem dX0_init_28 : decode cX0_init 28 = .ok (.aload_n 0, 1) := by decide +kernel
theorem dX0_init_29 : decode cX0_init 29 = .ok (.bipush 10, 2) := by decide +kernel
theorem dX0_init_31 : decode cX0_init 31 = .ok (.newarray .int, 2) := by decide +kernel
theorem dX0_init_33 : decode cX0_init 33 = .ok (.putfield 19, 3) := by decide +kernel
theorem dX0_init_36 : decode cX0_init 36 = .ok (.aload_n 0, 1) := by decide +kernel
theorem dX0_init_37 : decode cX0_init 37 = .ok (.bipush 10, 2) := by decide +kernel
theorem dX0_init_39 : decode cX0_init 39 = .ok (.newarray .boolean, 2) := by decide +kernel
theorem dX0_init_41 : decode cX0_init 41 = .ok (.putfield 22, 3) := by decide +kernel
theorem dX0_init_44 : decode cX0_init 44 = .ok (.aload_n 0, 1) := by decide +kernel
theorem dX0_init_45 : decode cX0_init 45 = .ok (.bipush 10, 2) := by decide +kernel
theorem dX0_init_47 : decode cX0_init 47 = .ok (.newarray .int, 2) := by decide +kernel
theorem dX0_init_49 : decode cX0_init 49 = .ok (.putfield 26, 3) := by decide +kernel
theorem dX0_init_52 : decode cX0_init 52 = .ok (.aload_n 0, 1) := by decide +kernel
theorem dX0_init_53 : decode cX0_init 53 = .ok (.bipush 20, 2) := by decide +kernel
theorem dX0_init_55 : decode cX0_init 55 = .ok (.newarray .int, 2) := by decide +kernel
theorem dX0_init_57 : decode cX0_init 57 = .ok (.putfield 29, 3) := by decide +kernel
theorem dX0_init_60 : decode cX0_init 60 = .ok (.aload_n 0, 1) := by decide +kernel
theorem dX0_init_61 : decode cX0_init 61 = .ok (.bipush 20, 2) := by decide +kernel
theorem dX0_init_63 : decode cX0_init 63 = .ok (.newarray .int, 2) := by decide +kernel
theorem dX0_init_65 : decode cX0_init 65 = .ok (.putfield 32, 3) := by decide +kernel
theorem dX0_init_68 : decode cX0_init 68 = .ok (.aload_n 0, 1) := by decide +kernel
theorem dX0_init_69 : decode cX0_init 69 = .ok (.bipush 20, 2) := by decide +kernel
theorem dX0_init_71 : decode cX0_init 71 = .ok (.newarray .int, 2) := by decide +kernel
theorem dX0_init_73 : decode cX0_init 73 = .ok (.putfield 35, 3) := by decide +kernel
theorem dX0_init_76 : decode cX0_init 76 = .ok (.aload_n 0, 1) := by decide +kernel
theorem dX0_init_77 : decode cX0_init 77 = .ok (.bipush 80, 2) := by decide +kernel
theorem dX0_init_79 : decode cX0_init 79 = .ok (.newarray .int, 2) := by decide +kernel
theorem dX0_init_81 : decode cX0_init 81 = .ok (.putfield 38, 3) := by decide +kernel
theorem dX0_init_84 : decode cX0_init 84 = .ok (.aload_n 0, 1) := by decide +kernel
theorem dX0_init_85 : decode cX0_init 85 = .ok (.iconst 4, 1) := by decide +kernel
theorem dX0_init_86 : decode cX0_init 86 = .ok (.newarray .int, 2) := by decide +kernel
theorem dX0_init_88 : decode cX0_init 88 = .ok (.putfield 41, 3) := by decide +kernel
theorem dX0_init_91 : decode cX0_init 91 = .ok (.return_, 1) := by decide +kernel
theorem dX0_addQuarter_0 : decode cX0_addQuarter 0 = .ok (.aload_n 0, 1) := by decide +kernel
theorem dX0_addQuarter_1 : decode cX0_addQuarter 1 = .ok (.getfield 44, 3) := by decide +kernel
theorem dX0_addQuarter_4 : decode cX0_addQuarter 4 = .ok (.bipush 6, 2) := by decide +kernel
theorem dX0_addQuarter_6 : decode cX0_addQuarter 6 = .ok (.if_icmp .lt 13, 3) := by decide +kernel
theorem dX0_addQuarter_9 : decode cX0_addQuarter 9 = .ok (.new 48, 3) := by decide +kernel
theorem dX0_addQuarter_12 : decode cX0_addQuarter 12 = .ok (.dup, 1) := by decide +kernel
theorem dX0_addQuarter_13 : decode cX0_addQuarter 13 = .ok (.ldc 50, 2) := by decide +kernel
theorem dX0_addQuarter_15 : decode cX0_addQuarter 15 = .ok (.invokespecial 52, 3) := by decide +kernel
theorem dX0_addQuarter_18 : decode cX0_addQuarter 18 = .ok (.athrow, 1) := by decide +kernel
theorem dX0_addQuarter_19 : decode cX0_addQuarter 19 = .ok (.aload_n 0, 1) := by decide +kernel
theorem dX0_addQuarter_20 : decode cX0_addQuarter 20 = .ok (.getfield 44, 3) := by decide +kernel
theorem dX0_addQuarter_23 : decode cX0_addQuarter 23 = .ok (.istore_n 1, 1) := by decide +kernel
theorem dX0_addQuarter_24 : decode cX0_addQuarter 24 = .ok (.aload_n 0, 1) := by decide +kernel
theorem dX0_addQuarter_25 : decode cX0_addQuarter 25 = .ok (.dup, 1) := by decide +kernel
theorem dX0_addQuarter_26 : decode cX0_addQuarter 26 = .ok (.getfield 44, 3) := by decide +kernel
theorem dX0_addQuarter_29 : decode cX0_addQuarter 29 = .ok (.iconst 1, 1) := by decide +kernel
theorem dX0_addQuarter_30 : decode cX0_addQuarter 30 = .ok (.iadd, 1) := by decide +kernel
theorem dX0_addQuarter_31 : decode cX0_addQuarter 31 = .ok (.putfield 44, 3) := by decide +kernel
theorem dX0_addQuarter_34 : decode cX0_addQuarter 34 = .ok (.iload_n 1, 1) := by decide +kernel
theorem dX0_addQuarter_35 : decode cX0_addQuarter 35 = .ok (.ireturn, 1) := by decide +kernel
set_option maxRecDepth 20000 in
theorem ggX0_addPerson_X0_requireTrade : GoodIn wsX0_addPerson wsX0_requireTrade := goodIn_ca (goodIn_r _ [8, 9, 10] (by decide +kernel) (by decide +kernel)) (goodIn_sub (fun _ h => List.mem_cons_of_mem _ (List.mem_append_right _ h)) (by decide +kernel))
set_option maxRecDepth 20000 in
theorem gX0_addPerson_X0_requireTrade : GoodIn wsX0_addPerson (va_wsS RX0 55 yX0_requireTrade wsX0_requireTrade) := goodIn_app (goodIn_of _ (by decide +kernel)) ggX0_addPerson_X0_requireTrade
theorem dX0_addPerson_0 : decode cX0_addPerson 0 = .ok (.iload_n 1, 1) := by decide +kernel
theorem dX0_addPerson_1 : decode cX0_addPerson 1 = .ok (.invokestatic 55, 3) := by decide +kernel
theorem dX0_addPerson_4 : decode cX0_addPerson 4 = .ok (.aload_n 0, 1) := by decide +kernel
theorem dX0_addPerson_5 : decode cX0_addPerson 5 = .ok (.getfield 59, 3) := by decide +kernel
theorem dX0_addPerson_8 : decode cX0_addPerson 8 = .ok (.bipush 20, 2) := by decide +kernel
theorem dX0_addPerson_10 : decode cX0_addPerson 10 = .ok (.if_icmp .lt 13, 3) := by decide +kernel
theorem dX0_addPerson_13 : decode cX0_addPerson 13 = .ok (.new 48, 3) := by decide +kernel
theorem dX0_addPerson_16 : decode cX0_addPerson 16 = .ok (.dup, 1) := by decide +kernel
theorem dX0_addPerson_17 : decode cX0_addPerson 17 = .ok (.ldc 62, 2) := by decide +kernel
theorem dX0_addPerson_19 : decode cX0_addPerson 19 = .ok (.invokespecial 52, 3) := by decide +kernel
theorem dX0_addPerson_22 : decode cX0_addPerson 22 = .ok (.athrow, 1) := by decide +kernel
theorem dX0_addPerson_23 : decode cX0_addPerson 23 = .ok (.aload_n 0, 1) := by decide +kernel
theorem dX0_addPerson_24 : decode cX0_addPerson 24 = .ok (.getfield 59, 3) := by decide +kernel
theorem dX0_addPerson_27 : decode cX0_addPerson 27 = .ok (.istore_n 2, 1) := by decide +kernel
theorem dX0_addPerson_28 : decode cX0_addPerson 28 = .ok (.aload_n 0, 1) := by decide +kernel
theorem dX0_addPerson_29 : decode cX0_addPerson 29 = .ok (.getfield 29, 3) := by decide +kernel
theorem dX0_addPerson_32 : decode cX0_addPerson 32 = .ok (.iload_n 2, 1) := by decide +kernel
theorem dX0_addPerson_33 : decode cX0_addPerson 33 = .ok (.iload_n 1, 1) := by decide +kernel
theorem dX0_addPerson_34 : decode cX0_addPerson 34 = .ok (.iastore, 1) := by decide +kernel
theorem dX0_addPerson_35 : decode cX0_addPerson 35 = .ok (.aload_n 0, 1) := by decide +kernel
theorem dX0_addPerson_36 : decode cX0_addPerson 36 = .ok (.dup, 1) := by decide +kernel
theorem dX0_addPerson_37 : decode cX0_addPerson 37 = .ok (.getfield 59, 3) := by decide +kernel
theorem dX0_addPerson_40 : decode cX0_addPerson 40 = .ok (.iconst 1, 1) := by decide +kernel
theorem dX0_addPerson_41 : decode cX0_addPerson 41 = .ok (.iadd, 1) := by decide +kernel
theorem dX0_addPerson_42 : decode cX0_addPerson 42 = .ok (.putfield 59, 3) := by decide +kernel
theorem dX0_addPerson_45 : decode cX0_addPerson 45 = .ok (.iload_n 2, 1) := by decide +kernel
theorem dX0_addPerson_46 : decode cX0_addPerson 46 = .ok (.ireturn, 1) := by decide +kernel
set_option maxRecDepth 20000 in
theorem ggX0_addOrder_X0_requireQuarter : GoodIn wsX0_addOrder wsX0_requireQuarter := goodIn_ca (goodIn_r _ [13, 14, 15, 16, 25, 26, 27, 28, 29, 30, 31, 32, 33, 34, 35, 36, 37, 38, 39, 40] (by decide +kernel) (by decide +kernel)) (goodIn_sub (fun _ h => List.mem_cons_of_mem _ (List.mem_append_left _ (List.mem_append_right _ h))) (by decide +kernel))
set_option maxRecDepth 20000 in
theorem gX0_addOrder_X0_requireQuarter : GoodIn wsX0_addOrder (wsV RX0 64 RX0 yX0_requireQuarter wsX0_requireQuarter) := goodIn_app (goodIn_of _ (by decide +kernel)) ggX0_addOrder_X0_requireQuarter
set_option maxRecDepth 20000 in
theorem ggX0_addOrder_X0_requireColour : GoodIn wsX0_addOrder wsX0_requireColour := goodIn_ca (goodIn_r _ [19, 14, 15] (by decide +kernel) (by decide +kernel)) (goodIn_sub (fun _ h => List.mem_cons_of_mem _ (List.mem_append_left _ (List.mem_append_right _ h))) (by decide +kernel))
set_option maxRecDepth 20000 in
theorem gX0_addOrder_X0_requireColour : GoodIn wsX0_addOrder (va_wsS RX0 67 yX0_requireColour wsX0_requireColour) := goodIn_app (goodIn_of _ (by decide +kernel)) ggX0_addOrder_X0_requireColour
set_option maxRecDepth 20000 in
theorem ggX0_addOrder_X0_requireWithin : GoodIn wsX0_addOrder wsX0_requireWithin := goodIn_ca (goodIn_r _ [22, 23, 24] (by decide +kernel) (by decide +kernel)) (goodIn_sub (fun _ h => List.mem_cons_of_mem _ (List.mem_append_right _ h)) (by decide +kernel))
set_option maxRecDepth 20000 in
theorem gX0_addOrder_X0_requireWithin : GoodIn wsX0_addOrder (va_wsS RX0 70 yX0_requireWithin wsX0_requireWithin) := goodIn_app (goodIn_of _ (by decide +kernel)) ggX0_addOrder_X0_requireWithin
theorem dX0_addOrder_0 : decode cX0_addOrder 0 = .ok (.aload_n 0, 1) := by decide +kernel
theorem dX0_addOrder_1 : decode cX0_addOrder 1 = .ok (.iload_n 1, 1) := by decide +kernel
theorem dX0_addOrder_2 : decode cX0_addOrder 2 = .ok (.invokevirtual 64, 3) := by decide +kernel
theorem dX0_addOrder_5 : decode cX0_addOrder 5 = .ok (.iload 4, 2) := by decide +kernel
theorem dX0_addOrder_7 : decode cX0_addOrder 7 = .ok (.invokestatic 67, 3) := by decide +kernel
theorem dX0_addOrder_10 : decode cX0_addOrder 10 = .ok (.iload_n 2, 1) := by decide +kernel
theorem dX0_addOrder_11 : decode cX0_addOrder 11 = .ok (.iconst 0, 1) := by decide +kernel
theorem dX0_addOrder_12 : decode cX0_addOrder 12 = .ok (.iconst 4, 1) := by decide +kernel
theorem dX0_addOrder_13 : decode cX0_addOrder 13 = .ok (.invokestatic 70, 3) := by decide +kernel
theorem dX0_addOrder_16 : decode cX0_addOrder 16 = .ok (.iload_n 3, 1) := by decide +kernel
theorem dX0_addOrder_17 : decode cX0_addOrder 17 = .ok (.iconst 0, 1) := by decide +kernel
theorem dX0_addOrder_18 : decode cX0_addOrder 18 = .ok (.iconst 4, 1) := by decide +kernel
theorem dX0_addOrder_19 : decode cX0_addOrder 19 = .ok (.invokestatic 70, 3) := by decide +kernel
theorem dX0_addOrder_22 : decode cX0_addOrder 22 = .ok (.aload_n 0, 1) := by decide +kernel
theorem dX0_addOrder_23 : decode cX0_addOrder 23 = .ok (.getfield 74, 3) := by decide +kernel
theorem dX0_addOrder_26 : decode cX0_addOrder 26 = .ok (.bipush 10, 2) := by decide +kernel
theorem dX0_addOrder_28 : decode cX0_addOrder 28 = .ok (.if_icmp .lt 13, 3) := by decide +kernel
theorem dX0_addOrder_31 : decode cX0_addOrder 31 = .ok (.new 48, 3) := by decide +kernel
theorem dX0_addOrder_34 : decode cX0_addOrder 34 = .ok (.dup, 1) := by decide +kernel
theorem dX0_addOrder_35 : decode cX0_addOrder 35 = .ok (.ldc 77, 2) := by decide +kernel
theorem dX0_addOrder_37 : decode cX0_addOrder 37 = .ok (.invokespecial 52, 3) := by decide +kernel
theorem dX0_addOrder_40 : decode cX0_addOrder 40 = .ok (.athrow, 1) := by decide +kernel
theorem dX0_addOrder_41 : decode cX0_addOrder 41 = .ok (.aload_n 0, 1) := by decide +kernel
theorem dX0_addOrder_42 : decode cX0_addOrder 42 = .ok (.getfield 74, 3) := by decide +kernel
theorem dX0_addOrder_45 : decode cX0_addOrder 45 = .ok (.istore 5, 2) := by decide +kernel
theorem dX0_addOrder_47 : decode cX0_addOrder 47 = .ok (.aload_n 0, 1) := by decide +kernel
theorem dX0_addOrder_48 : decode cX0_addOrder 48 = .ok (.getfield 9, 3) := by decide +kernel
theorem dX0_addOrder_51 : decode cX0_addOrder 51 = .ok (.iload 5, 2) := by decide +kernel
theorem dX0_addOrder_53 : decode cX0_addOrder 53 = .ok (.iload_n 1, 1) := by decide +kernel
theorem dX0_addOrder_54 : decode cX0_addOrder 54 = .ok (.iastore, 1) := by decide +kernel
theorem dX0_addOrder_55 : decode cX0_addOrder 55 = .ok (.aload_n 0, 1) := by decide +kernel
theorem dX0_addOrder_56 : decode cX0_addOrder 56 = .ok (.getfield 13, 3) := by decide +kernel
theorem dX0_addOrder_59 : decode cX0_addOrder 59 = .ok (.iload 5, 2) := by decide +kernel
theorem dX0_addOrder_61 : decode cX0_addOrder 61 = .ok (.iload_n 2, 1) := by decide +kernel
theorem dX0_addOrder_62 : decode cX0_addOrder 62 = .ok (.iastore, 1) := by decide +kernel
theorem dX0_addOrder_63 : decode cX0_addOrder 63 = .ok (.aload_n 0, 1) := by decide +kernel
theorem dX0_addOrder_64 : decode cX0_addOrder 64 = .ok (.getfield 16, 3) := by decide +kernel
theorem dX0_addOrder_67 : decode cX0_addOrder 67 = .ok (.iload 5, 2) := by decide +kernel
theorem dX0_addOrder_69 : decode cX0_addOrder 69 = .ok (.iload_n 3, 1) := by decide +kernel
theorem dX0_addOrder_70 : decode cX0_addOrder 70 = .ok (.iastore, 1) := by decide +kernel
theorem dX0_addOrder_71 : decode cX0_addOrder 71 = .ok (.aload_n 0, 1) := by decide +kernel
theorem dX0_addOrder_72 : decode cX0_addOrder 72 = .ok (.getfield 19, 3) := by decide +kernel
theorem dX0_addOrder_75 : decode cX0_addOrder 75 = .ok (.iload 5, 2) := by decide +kernel
theorem dX0_addOrder_77 : decode cX0_addOrder 77 = .ok (.iload 4, 2) := by decide +kernel
theorem dX0_addOrder_79 : decode cX0_addOrder 79 = .ok (.iastore, 1) := by decide +kernel
theorem dX0_addOrder_80 : decode cX0_addOrder 80 = .ok (.aload_n 0, 1) := by decide +kernel
theorem dX0_addOrder_81 : decode cX0_addOrder 81 = .ok (.getfield 22, 3) := by decide +kernel
theorem dX0_addOrder_84 : decode cX0_addOrder 84 = .ok (.iload 5, 2) := by decide +kernel
theorem dX0_addOrder_86 : decode cX0_addOrder 86 = .ok (.iconst 1, 1) := by decide +kernel
theorem dX0_addOrder_87 : decode cX0_addOrder 87 = .ok (.bastore, 1) := by decide +kernel
theorem dX0_addOrder_88 : decode cX0_addOrder 88 = .ok (.aload_n 0, 1) := by decide +kernel
theorem dX0_addOrder_89 : decode cX0_addOrder 89 = .ok (.dup, 1) := by decide +kernel
theorem dX0_addOrder_90 : decode cX0_addOrder 90 = .ok (.getfield 74, 3) := by decide +kernel
theorem dX0_addOrder_93 : decode cX0_addOrder 93 = .ok (.iconst 1, 1) := by decide +kernel
theorem dX0_addOrder_94 : decode cX0_addOrder 94 = .ok (.iadd, 1) := by decide +kernel
theorem dX0_addOrder_95 : decode cX0_addOrder 95 = .ok (.putfield 74, 3) := by decide +kernel
theorem dX0_addOrder_98 : decode cX0_addOrder 98 = .ok (.iload 5, 2) := by decide +kernel
theorem dX0_addOrder_100 : decode cX0_addOrder 100 = .ok (.ireturn, 1) := by decide +kernel
set_option maxRecDepth 20000 in
theorem ggX0_turnExempt_X0_requireOrder : GoodIn wsX0_turnExempt wsX0_requireOrder := goodIn_ca (goodIn_r _ [6, 7, 8, 9, 17, 18, 19, 20, 21, 22, 23, 24, 25, 26, 27, 28, 29, 30, 31, 32] (by decide +kernel) (by decide +kernel)) (goodIn_sub (fun _ h => List.mem_cons_of_mem _ (List.mem_append_right _ h)) (by decide +kernel))
set_option maxRecDepth 20000 in
theorem gX0_turnExempt_X0_requireOrder : GoodIn wsX0_turnExempt (wsV RX0 79 RX0 yX0_requireOrder wsX0_requireOrder) := goodIn_app (goodIn_of _ (by decide +kernel)) ggX0_turnExempt_X0_requireOrder
set_option maxRecDepth 20000 in
theorem ggX0_turnExempt_X0_requireTrade : GoodIn wsX0_turnExempt wsX0_requireTrade := goodIn_ca (goodIn_r _ [12, 7, 8] (by decide +kernel) (by decide +kernel)) (goodIn_sub (fun _ h => List.mem_cons_of_mem _ (List.mem_append_right _ h)) (by decide +kernel))
set_option maxRecDepth 20000 in
theorem gX0_turnExempt_X0_requireTrade : GoodIn wsX0_turnExempt (va_wsS RX0 55 yX0_requireTrade wsX0_requireTrade) := goodIn_app (goodIn_of _ (by decide +kernel)) ggX0_turnExempt_X0_requireTrade
set_option maxRecDepth 20000 in
theorem ggX0_turnExempt_X0_exempts : GoodIn wsX0_turnExempt wsX0_exempts := goodIn_r _ [16, 1, 17, 18, 19, 20, 21, 22, 23, 24, 25, 26, 27, 28, 29, 30, 31, 32] (by decide +kernel) (by decide +kernel)
set_option maxRecDepth 20000 in
theorem gX0_turnExempt_X0_exempts : GoodIn wsX0_turnExempt (wsV RX0 82 RX0 yX0_exempts wsX0_exempts) := goodIn_app (goodIn_of _ (by decide +kernel)) ggX0_turnExempt_X0_exempts
theorem dX0_turnExempt_0 : decode cX0_turnExempt 0 = .ok (.aload_n 0, 1) := by decide +kernel
theorem dX0_turnExempt_1 : decode cX0_turnExempt 1 = .ok (.iload_n 1, 1) := by decide +kernel
theorem dX0_turnExempt_2 : decode cX0_turnExempt 2 = .ok (.invokevirtual 79, 3) := by decide +kernel
theorem dX0_turnExempt_5 : decode cX0_turnExempt 5 = .ok (.iload_n 2, 1) := by decide +kernel
theorem dX0_turnExempt_6 : decode cX0_turnExempt 6 = .ok (.invokestatic 55, 3) := by decide +kernel
theorem dX0_turnExempt_9 : decode cX0_turnExempt 9 = .ok (.aload_n 0, 1) := by decide +kernel
theorem dX0_turnExempt_10 : decode cX0_turnExempt 10 = .ok (.getfield 26, 3) := by decide +kernel
theorem dX0_turnExempt_13 : decode cX0_turnExempt 13 = .ok (.iload_n 1, 1) := by decide +kernel
theorem dX0_turnExempt_14 : decode cX0_turnExempt 14 = .ok (.dup2, 1) := by decide +kernel
theorem dX0_turnExempt_15 : decode cX0_turnExempt 15 = .ok (.iaload, 1) := by decide +kernel
theorem dX0_turnExempt_16 : decode cX0_turnExempt 16 = .ok (.iconst 1, 1) := by decide +kernel
theorem dX0_turnExempt_17 : decode cX0_turnExempt 17 = .ok (.iload_n 2, 1) := by decide +kernel
theorem dX0_turnExempt_18 : decode cX0_turnExempt 18 = .ok (.ishl, 1) := by decide +kernel
theorem dX0_turnExempt_19 : decode cX0_turnExempt 19 = .ok (.ixor, 1) := by decide +kernel
theorem dX0_turnExempt_20 : decode cX0_turnExempt 20 = .ok (.iastore, 1) := by decide +kernel
theorem dX0_turnExempt_21 : decode cX0_turnExempt 21 = .ok (.aload_n 0, 1) := by decide +kernel
theorem dX0_turnExempt_22 : decode cX0_turnExempt 22 = .ok (.iload_n 1, 1) := by decide +kernel
theorem dX0_turnExempt_23 : decode cX0_turnExempt 23 = .ok (.iload_n 2, 1) := by decide +kernel
theorem dX0_turnExempt_24 : decode cX0_turnExempt 24 = .ok (.invokevirtual 82, 3) := by decide +kernel
theorem dX0_turnExempt_27 : decode cX0_turnExempt 27 = .ok (.ireturn, 1) := by decide +kernel
set_option maxRecDepth 20000 in
theorem ggX0_turnOrder_X0_requireOrder : GoodIn wsX0_turnOrder wsX0_requireOrder := goodIn_ca (goodIn_r _ [6, 7, 8, 9, 10, 11, 12, 13, 14, 15, 16, 17, 18, 19, 20, 21, 22, 23, 24, 25] (by decide +kernel) (by decide +kernel)) (goodIn_sub (fun _ h => List.mem_cons_of_mem _ (List.mem_append_right _ h)) (by decide +kernel))
set_option maxRecDepth 20000 in
theorem gX0_turnOrder_X0_requireOrder : GoodIn wsX0_turnOrder (wsV RX0 79 RX0 yX0_requireOrder wsX0_requireOrder) := goodIn_app (goodIn_of _ (by decide +kernel)) ggX0_turnOrder_X0_requireOrder
theorem dX0_turnOrder_0 : decode cX0_turnOrder 0 = .ok (.aload_n 0, 1) := by decide +kernel
theorem dX0_turnOrder_1 : decode cX0_turnOrder 1 = .ok (.iload_n 1, 1) := by decide +kernel
theorem dX0_turnOrder_2 : decode cX0_turnOrder 2 = .ok (.invokevirtual 79, 3) := by decide +kernel
theorem dX0_turnOrder_5 : decode cX0_turnOrder 5 = .ok (.aload_n 0, 1) := by decide +kernel
theorem dX0_turnOrder_6 : decode cX0_turnOrder 6 = .ok (.getfield 22, 3) := by decide +kernel
theorem dX0_turnOrder_9 : decode cX0_turnOrder 9 = .ok (.iload_n 1, 1) := by decide +kernel
theorem dX0_turnOrder_10 : decode cX0_turnOrder 10 = .ok (.aload_n 0, 1) := by decide +kernel
theorem dX0_turnOrder_11 : decode cX0_turnOrder 11 = .ok (.getfield 22, 3) := by decide +kernel
theorem dX0_turnOrder_14 : decode cX0_turnOrder 14 = .ok (.iload_n 1, 1) := by decide +kernel
theorem dX0_turnOrder_15 : decode cX0_turnOrder 15 = .ok (.baload, 1) := by decide +kernel
theorem dX0_turnOrder_16 : decode cX0_turnOrder 16 = .ok (.ifCond .ne 7, 3) := by decide +kernel
theorem dX0_turnOrder_19 : decode cX0_turnOrder 19 = .ok (.iconst 1, 1) := by decide +kernel
theorem dX0_turnOrder_20 : decode cX0_turnOrder 20 = .ok (.goto 4, 3) := by decide +kernel
theorem dX0_turnOrder_23 : decode cX0_turnOrder 23 = .ok (.iconst 0, 1) := by decide +kernel
theorem dX0_turnOrder_24 : decode cX0_turnOrder 24 = .ok (.bastore, 1) := by decide +kernel
theorem dX0_turnOrder_25 : decode cX0_turnOrder 25 = .ok (.aload_n 0, 1) := by decide +kernel
theorem dX0_turnOrder_26 : decode cX0_turnOrder 26 = .ok (.getfield 22, 3) := by decide +kernel
theorem dX0_turnOrder_29 : decode cX0_turnOrder 29 = .ok (.iload_n 1, 1) := by decide +kernel
theorem dX0_turnOrder_30 : decode cX0_turnOrder 30 = .ok (.baload, 1) := by decide +kernel
theorem dX0_turnOrder_31 : decode cX0_turnOrder 31 = .ok (.ireturn, 1) := by decide +kernel
set_option maxRecDepth 20000 in
theorem ggX0_setShift_X0_requireWithin : GoodIn wsX0_setShift wsX0_requireWithin := goodIn_ca (goodIn_r _ [5, 6, 7] (by decide +kernel) (by decide +kernel)) (goodIn_sub (fun _ h => List.mem_cons_of_mem _ (List.mem_append_right _ h)) (by decide +kernel))
set_option maxRecDepth 20000 in
theorem gX0_setShift_X0_requireWithin : GoodIn wsX0_setShift (va_wsS RX0 70 yX0_requireWithin wsX0_requireWithin) := goodIn_app (goodIn_of _ (by decide +kernel)) ggX0_setShift_X0_requireWithin
theorem dX0_setShift_0 : decode cX0_setShift 0 = .ok (.iload_n 1, 1) := by decide +kernel
theorem dX0_setShift_1 : decode cX0_setShift 1 = .ok (.bipush (-4), 2) := by decide +kernel
theorem dX0_setShift_3 : decode cX0_setShift 3 = .ok (.iconst 4, 1) := by decide +kernel
theorem dX0_setShift_4 : decode cX0_setShift 4 = .ok (.invokestatic 70, 3) := by decide +kernel
theorem dX0_setShift_7 : decode cX0_setShift 7 = .ok (.aload_n 0, 1) := by decide +kernel
theorem dX0_setShift_8 : decode cX0_setShift 8 = .ok (.getfield 86, 3) := by decide +kernel
theorem dX0_setShift_11 : decode cX0_setShift 11 = .ok (.istore_n 2, 1) := by decide +kernel
theorem dX0_setShift_12 : decode cX0_setShift 12 = .ok (.aload_n 0, 1) := by decide +kernel
theorem dX0_setShift_13 : decode cX0_setShift 13 = .ok (.iload_n 1, 1) := by decide +kernel
theorem dX0_setShift_14 : decode cX0_setShift 14 = .ok (.putfield 86, 3) := by decide +kernel
theorem dX0_setShift_17 : decode cX0_setShift 17 = .ok (.iload_n 2, 1) := by decide +kernel
theorem dX0_setShift_18 : decode cX0_setShift 18 = .ok (.ireturn, 1) := by decide +kernel
set_option maxRecDepth 20000 in
theorem ggX0_givePass_X0_requirePerson : GoodIn wsX0_givePass wsX0_requirePerson := goodIn_ca (goodIn_r _ [10, 11, 12, 13, 25, 26, 27, 28, 29, 30, 31, 32, 33, 34, 35, 36, 37, 38, 39, 40] (by decide +kernel) (by decide +kernel)) (goodIn_sub (fun _ h => List.mem_cons_of_mem _ (List.mem_append_left _ (List.mem_append_right _ h))) (by decide +kernel))
set_option maxRecDepth 20000 in
theorem gX0_givePass_X0_requirePerson : GoodIn wsX0_givePass (wsV RX0 89 RX0 yX0_requirePerson wsX0_requirePerson) := goodIn_app (goodIn_of _ (by decide +kernel)) ggX0_givePass_X0_requirePerson
set_option maxRecDepth 20000 in
theorem ggX0_givePass_X0_requireColour : GoodIn wsX0_givePass wsX0_requireColour := goodIn_ca (goodIn_r _ [16, 11, 12] (by decide +kernel) (by decide +kernel)) (goodIn_sub (fun _ h => List.mem_cons_of_mem _ (List.mem_append_left _ (List.mem_append_right _ h))) (by decide +kernel))
set_option maxRecDepth 20000 in
theorem gX0_givePass_X0_requireColour : GoodIn wsX0_givePass (va_wsS RX0 67 yX0_requireColour wsX0_requireColour) := goodIn_app (goodIn_of _ (by decide +kernel)) ggX0_givePass_X0_requireColour
set_option maxRecDepth 20000 in
theorem ggX0_givePass_X0_requireWithin : GoodIn wsX0_givePass wsX0_requireWithin := goodIn_ca (goodIn_r _ [19, 20, 21] (by decide +kernel) (by decide +kernel)) (goodIn_sub (fun _ h => List.mem_cons_of_mem _ (List.mem_append_right _ h)) (by decide +kernel))
set_option maxRecDepth 20000 in
theorem gX0_givePass_X0_requireWithin : GoodIn wsX0_givePass (va_wsS RX0 70 yX0_requireWithin wsX0_requireWithin) := goodIn_app (goodIn_of _ (by decide +kernel)) ggX0_givePass_X0_requireWithin
set_option maxRecDepth 20000 in
theorem ggX0_givePass_X0_stampPlace : GoodIn wsX0_givePass wsX0_stampPlace := goodIn_r _ [24] (by decide +kernel) (by decide +kernel)
set_option maxRecDepth 20000 in
theorem gX0_givePass_X0_stampPlace : GoodIn wsX0_givePass (va_wsS RX0 92 yX0_stampPlace wsX0_stampPlace) := goodIn_app (goodIn_of _ (by decide +kernel)) ggX0_givePass_X0_stampPlace
theorem dX0_givePass_0 : decode cX0_givePass 0 = .ok (.aload_n 0, 1) := by decide +kernel
theorem dX0_givePass_1 : decode cX0_givePass 1 = .ok (.iload_n 1, 1) := by decide +kernel
theorem dX0_givePass_2 : decode cX0_givePass 2 = .ok (.invokevirtual 89, 3) := by decide +kernel
theorem dX0_givePass_5 : decode cX0_givePass 5 = .ok (.iload_n 2, 1) := by decide +kernel
theorem dX0_givePass_6 : decode cX0_givePass 6 = .ok (.invokestatic 67, 3) := by decide +kernel
theorem dX0_givePass_9 : decode cX0_givePass 9 = .ok (.iload_n 3, 1) := by decide +kernel
theorem dX0_givePass_10 : decode cX0_givePass 10 = .ok (.iconst 1, 1) := by decide +kernel
theorem dX0_givePass_11 : decode cX0_givePass 11 = .ok (.bipush 9, 2) := by decide +kernel
theorem dX0_givePass_13 : decode cX0_givePass 13 = .ok (.invokestatic 70, 3) := by decide +kernel
theorem dX0_givePass_16 : decode cX0_givePass 16 = .ok (.iload_n 1, 1) := by decide +kernel
theorem dX0_givePass_17 : decode cX0_givePass 17 = .ok (.iload_n 2, 1) := by decide +kernel
theorem dX0_givePass_18 : decode cX0_givePass 18 = .ok (.invokestatic 92, 3) := by decide +kernel
theorem dX0_givePass_21 : decode cX0_givePass 21 = .ok (.istore 4, 2) := by decide +kernel
theorem dX0_givePass_23 : decode cX0_givePass 23 = .ok (.aload_n 0, 1) := by decide +kernel
theorem dX0_givePass_24 : decode cX0_givePass 24 = .ok (.getfield 38, 3) := by decide +kernel
theorem dX0_givePass_27 : decode cX0_givePass 27 = .ok (.iload 4, 2) := by decide +kernel
theorem dX0_givePass_29 : decode cX0_givePass 29 = .ok (.bipush 9, 2) := by decide +kernel
theorem dX0_givePass_31 : decode cX0_givePass 31 = .ok (.aload_n 0, 1) := by decide +kernel
theorem dX0_givePass_32 : decode cX0_givePass 32 = .ok (.getfield 38, 3) := by decide +kernel
theorem dX0_givePass_35 : decode cX0_givePass 35 = .ok (.iload 4, 2) := by decide +kernel
theorem dX0_givePass_37 : decode cX0_givePass 37 = .ok (.iaload, 1) := by decide +kernel
theorem dX0_givePass_38 : decode cX0_givePass 38 = .ok (.iload_n 3, 1) := by decide +kernel
theorem dX0_givePass_39 : decode cX0_givePass 39 = .ok (.iadd, 1) := by decide +kernel
theorem dX0_givePass_40 : decode cX0_givePass 40 = .ok (.invokestatic 96, 3) := by decide +kernel
theorem dX0_givePass_43 : decode cX0_givePass 43 = .ok (.iastore, 1) := by decide +kernel
theorem dX0_givePass_44 : decode cX0_givePass 44 = .ok (.aload_n 0, 1) := by decide +kernel
theorem dX0_givePass_45 : decode cX0_givePass 45 = .ok (.getfield 38, 3) := by decide +kernel
theorem dX0_givePass_48 : decode cX0_givePass 48 = .ok (.iload 4, 2) := by decide +kernel
theorem dX0_givePass_50 : decode cX0_givePass 50 = .ok (.iaload, 1) := by decide +kernel
theorem dX0_givePass_51 : decode cX0_givePass 51 = .ok (.ireturn, 1) := by decide +kernel
set_option maxRecDepth 20000 in
theorem ggX0_takePass_X0_requirePerson : GoodIn wsX0_takePass wsX0_requirePerson := goodIn_ca (goodIn_r _ [6, 7, 8, 9, 16, 17, 18, 19, 20, 21, 22, 23, 24, 25, 26, 27, 28, 29, 30, 31] (by decide +kernel) (by decide +kernel)) (goodIn_sub (fun _ h => List.mem_cons_of_mem _ (List.mem_append_right _ h)) (by decide +kernel))
set_option maxRecDepth 20000 in
theorem gX0_takePass_X0_requirePerson : GoodIn wsX0_takePass (wsV RX0 89 RX0 yX0_requirePerson wsX0_requirePerson) := goodIn_app (goodIn_of _ (by decide +kernel)) ggX0_takePass_X0_requirePerson
set_option maxRecDepth 20000 in
theorem ggX0_takePass_X0_requireColour : GoodIn wsX0_takePass wsX0_requireColour := goodIn_ca (goodIn_r _ [12, 7, 8] (by decide +kernel) (by decide +kernel)) (goodIn_sub (fun _ h => List.mem_cons_of_mem _ (List.mem_append_right _ h)) (by decide +kernel))
set_option maxRecDepth 20000 in
theorem gX0_takePass_X0_requireColour : GoodIn wsX0_takePass (va_wsS RX0 67 yX0_requireColour wsX0_requireColour) := goodIn_app (goodIn_of _ (by decide +kernel)) ggX0_takePass_X0_requireColour
set_option maxRecDepth 20000 in
theorem ggX0_takePass_X0_stampPlace : GoodIn wsX0_takePass wsX0_stampPlace := goodIn_r _ [15] (by decide +kernel) (by decide +kernel)
set_option maxRecDepth 20000 in
theorem gX0_takePass_X0_stampPlace : GoodIn wsX0_takePass (va_wsS RX0 92 yX0_stampPlace wsX0_stampPlace) := goodIn_app (goodIn_of _ (by decide +kernel)) ggX0_takePass_X0_stampPlace
theorem dX0_takePass_0 : decode cX0_takePass 0 = .ok (.aload_n 0, 1) := by decide +kernel
theorem dX0_takePass_1 : decode cX0_takePass 1 = .ok (.iload_n 1, 1) := by decide +kernel
theorem dX0_takePass_2 : decode cX0_takePass 2 = .ok (.invokevirtual 89, 3) := by decide +kernel
theorem dX0_takePass_5 : decode cX0_takePass 5 = .ok (.iload_n 2, 1) := by decide +kernel
theorem dX0_takePass_6 : decode cX0_takePass 6 = .ok (.invokestatic 67, 3) := by decide +kernel
theorem dX0_takePass_9 : decode cX0_takePass 9 = .ok (.iload_n 1, 1) := by decide +kernel
theorem dX0_takePass_10 : decode cX0_takePass 10 = .ok (.iload_n 2, 1) := by decide +kernel
theorem dX0_takePass_11 : decode cX0_takePass 11 = .ok (.invokestatic 92, 3) := by decide +kernel
theorem dX0_takePass_14 : decode cX0_takePass 14 = .ok (.istore_n 3, 1) := by decide +kernel
theorem dX0_takePass_15 : decode cX0_takePass 15 = .ok (.aload_n 0, 1) := by decide +kernel
theorem dX0_takePass_16 : decode cX0_takePass 16 = .ok (.getfield 38, 3) := by decide +kernel
theorem dX0_takePass_19 : decode cX0_takePass 19 = .ok (.iload_n 3, 1) := by decide +kernel
theorem dX0_takePass_20 : decode cX0_takePass 20 = .ok (.iaload, 1) := by decide +kernel
theorem dX0_takePass_21 : decode cX0_takePass 21 = .ok (.istore 4, 2) := by decide +kernel
theorem dX0_takePass_23 : decode cX0_takePass 23 = .ok (.aload_n 0, 1) := by decide +kernel
theorem dX0_takePass_24 : decode cX0_takePass 24 = .ok (.getfield 38, 3) := by decide +kernel
theorem dX0_takePass_27 : decode cX0_takePass 27 = .ok (.iload_n 3, 1) := by decide +kernel
theorem dX0_takePass_28 : decode cX0_takePass 28 = .ok (.iconst 0, 1) := by decide +kernel
theorem dX0_takePass_29 : decode cX0_takePass 29 = .ok (.iastore, 1) := by decide +kernel
theorem dX0_takePass_30 : decode cX0_takePass 30 = .ok (.iload 4, 2) := by decide +kernel
theorem dX0_takePass_32 : decode cX0_takePass 32 = .ok (.ireturn, 1) := by decide +kernel
set_option maxRecDepth 20000 in
theorem ggX0_goOut_X0_requirePerson : GoodIn wsX0_goOut wsX0_requirePerson := goodIn_ca (goodIn_r _ [8, 9, 10, 11, 61, 62, 63, 64, 65, 66, 67, 68, 69, 70, 71, 72, 73, 74, 75, 76] (by decide +kernel) (by decide +kernel)) (goodIn_sub (fun _ h => List.mem_cons_of_mem _ (List.mem_append_right _ h)) (by decide +kernel))
set_option maxRecDepth 20000 in
theorem gX0_goOut_X0_requirePerson : GoodIn wsX0_goOut (wsV RX0 89 RX0 yX0_requirePerson wsX0_requirePerson) := goodIn_app (goodIn_of _ (by decide +kernel)) ggX0_goOut_X0_requirePerson
set_option maxRecDepth 20000 in
theorem ggX0_goOut_X0_requireQuarter : GoodIn wsX0_goOut wsX0_requireQuarter := goodIn_ca (goodIn_r _ [15, 9, 10, 16, 61, 62, 63, 64, 65, 66, 67, 68, 69, 70, 71, 72, 73, 74, 75, 76] (by decide +kernel) (by decide +kernel)) (goodIn_sub (fun _ h => List.mem_cons_of_mem _ (List.mem_append_right _ h)) (by decide +kernel))
set_option maxRecDepth 20000 in
theorem gX0_goOut_X0_requireQuarter : GoodIn wsX0_goOut (wsV RX0 64 RX0 yX0_requireQuarter wsX0_requireQuarter) := goodIn_app (goodIn_of _ (by decide +kernel)) ggX0_goOut_X0_requireQuarter
set_option maxRecDepth 20000 in
theorem ggX0_goOut_X0_bars : GoodIn wsX0_goOut wsX0_bars := goodIn_r _ [20, 21, 22, 23, 24, 25, 26, 7, 27, 28, 29, 30, 31, 32, 33, 34, 35, 36, 37, 38, 39, 40, 41, 42, 43, 44, 45, 61, 62, 63, 64, 65, 66, 67, 68, 69, 70, 71, 72, 73, 74, 75, 76] (by decide +kernel) (by decide +kernel)
set_option maxRecDepth 20000 in
theorem gX0_goOut_X0_bars : GoodIn wsX0_goOut (wsV RX0 104 RX0 yX0_bars wsX0_bars) := goodIn_app (goodIn_of _ (by decide +kernel)) ggX0_goOut_X0_bars
set_option maxRecDepth 20000 in
theorem ggX0_goOut_X0_useStamp : GoodIn wsX0_goOut wsX0_useStamp := goodIn_r _ [49, 50, 51, 52, 53, 7, 54, 61, 62, 63, 64, 65, 66, 67, 68, 69, 70, 71, 72, 73, 74, 75, 76] (by decide +kernel) (by decide +kernel)
set_option maxRecDepth 20000 in
theorem gX0_goOut_X0_useStamp : GoodIn wsX0_goOut (wsV RX0 108 RX0 yX0_useStamp wsX0_useStamp) := goodIn_app (goodIn_of _ (by decide +kernel)) ggX0_goOut_X0_useStamp
set_option maxRecDepth 20000 in
theorem ggX0_goOut_X0_fineOnce : GoodIn wsX0_goOut wsX0_fineOnce := goodIn_r _ [58, 59, 60, 61, 62, 63, 64, 65, 66, 67, 68, 69, 70, 71, 72, 73, 74, 75, 76] (by decide +kernel) (by decide +kernel)
set_option maxRecDepth 20000 in
theorem gX0_goOut_X0_fineOnce : GoodIn wsX0_goOut (wsV RX0 111 RX0 yX0_fineOnce wsX0_fineOnce) := goodIn_app (goodIn_of _ (by decide +kernel)) ggX0_goOut_X0_fineOnce
theorem dX0_goOut_0 : decode cX0_goOut 0 = .ok (.aload_n 0, 1) := by decide +kernel
theorem dX0_goOut_1 : decode cX0_goOut 1 = .ok (.iload_n 1, 1) := by decide +kernel
theorem dX0_goOut_2 : decode cX0_goOut 2 = .ok (.invokevirtual 89, 3) := by decide +kernel
theorem dX0_goOut_5 : decode cX0_goOut 5 = .ok (.aload_n 0, 1) := by decide +kernel
theorem dX0_goOut_6 : decode cX0_goOut 6 = .ok (.iload_n 2, 1) := by decide +kernel
theorem dX0_goOut_7 : decode cX0_goOut 7 = .ok (.invokevirtual 64, 3) := by decide +kernel
theorem dX0_goOut_10 : decode cX0_goOut 10 = .ok (.iconst 0, 1) := by decide +kernel
theorem dX0_goOut_11 : decode cX0_goOut 11 = .ok (.istore_n 3, 1) := by decide +kernel
theorem dX0_goOut_12 : decode cX0_goOut 12 = .ok (.iconst 0, 1) := by decide +kernel
theorem dX0_goOut_13 : decode cX0_goOut 13 = .ok (.istore 4, 2) := by decide +kernel
theorem dX0_goOut_15 : decode cX0_goOut 15 = .ok (.iload 4, 2) := by decide +kernel
theorem dX0_goOut_17 : decode cX0_goOut 17 = .ok (.aload_n 0, 1) := by decide +kernel
theorem dX0_goOut_18 : decode cX0_goOut 18 = .ok (.getfield 74, 3) := by decide +kernel
theorem dX0_goOut_21 : decode cX0_goOut 21 = .ok (.if_icmp .ge 41, 3) := by decide +kernel
theorem dX0_goOut_24 : decode cX0_goOut 24 = .ok (.aload_n 0, 1) := by decide +kernel
theorem dX0_goOut_25 : decode cX0_goOut 25 = .ok (.iload 4, 2) := by decide +kernel
theorem dX0_goOut_27 : decode cX0_goOut 27 = .ok (.iload_n 1, 1) := by decide +kernel
theorem dX0_goOut_28 : decode cX0_goOut 28 = .ok (.iload_n 2, 1) := by decide +kernel
theorem dX0_goOut_29 : decode cX0_goOut 29 = .ok (.aload_n 0, 1) := by decide +kernel
theorem dX0_goOut_30 : decode cX0_goOut 30 = .ok (.getfield 101, 3) := by decide +kernel
theorem dX0_goOut_33 : decode cX0_goOut 33 = .ok (.invokevirtual 104, 3) := by decide +kernel
theorem dX0_goOut_36 : decode cX0_goOut 36 = .ok (.ifCond .eq 20, 3) := by decide +kernel
theorem dX0_goOut_39 : decode cX0_goOut 39 = .ok (.aload_n 0, 1) := by decide +kernel
theorem dX0_goOut_40 : decode cX0_goOut 40 = .ok (.iload_n 1, 1) := by decide +kernel
theorem dX0_goOut_41 : decode cX0_goOut 41 = .ok (.aload_n 0, 1) := by decide +kernel
theorem dX0_goOut_42 : decode cX0_goOut 42 = .ok (.getfield 19, 3) := by decide +kernel
theorem dX0_goOut_45 : decode cX0_goOut 45 = .ok (.iload 4, 2) := by decide +kernel
theorem dX0_goOut_47 : decode cX0_goOut 47 = .ok (.iaload, 1) := by decide +kernel
theorem dX0_goOut_48 : decode cX0_goOut 48 = .ok (.invokevirtual 108, 3) := by decide +kernel
theorem dX0_goOut_51 : decode cX0_goOut 51 = .ok (.ifCond .ne 5, 3) := by decide +kernel
theorem dX0_goOut_54 : decode cX0_goOut 54 = .ok (.iconst 1, 1) := by decide +kernel
theorem dX0_goOut_55 : decode cX0_goOut 55 = .ok (.istore_n 3, 1) := by decide +kernel
theorem dX0_goOut_56 : decode cX0_goOut 56 = .ok (.iinc 4 1, 3) := by decide +kernel
theorem dX0_goOut_59 : decode cX0_goOut 59 = .ok (.goto (-44), 3) := by decide +kernel
theorem dX0_goOut_62 : decode cX0_goOut 62 = .ok (.iload_n 3, 1) := by decide +kernel
theorem dX0_goOut_63 : decode cX0_goOut 63 = .ok (.ifCond .eq 11, 3) := by decide +kernel
theorem dX0_goOut_66 : decode cX0_goOut 66 = .ok (.aload_n 0, 1) := by decide +kernel
theorem dX0_goOut_67 : decode cX0_goOut 67 = .ok (.iload_n 1, 1) := by decide +kernel
theorem dX0_goOut_68 : decode cX0_goOut 68 = .ok (.invokevirtual 111, 3) := by decide +kernel
theorem dX0_goOut_71 : decode cX0_goOut 71 = .ok (.goto 4, 3) := by decide +kernel
theorem dX0_goOut_74 : decode cX0_goOut 74 = .ok (.iconst 0, 1) := by decide +kernel
theorem dX0_goOut_75 : decode cX0_goOut 75 = .ok (.ireturn, 1) := by decide +kernel
set_option maxRecDepth 20000 in
theorem ggX0_pass_X0_requireWithin : GoodIn wsX0_pass wsX0_requireWithin := goodIn_ca (goodIn_r _ [6, 7, 8] (by decide +kernel) (by decide +kernel)) (goodIn_sub (fun _ h => List.mem_cons_of_mem _ (List.mem_append_right _ h)) (by decide +kernel))
set_option maxRecDepth 20000 in
theorem gX0_pass_X0_requireWithin : GoodIn wsX0_pass (va_wsS RX0 70 yX0_requireWithin wsX0_requireWithin) := goodIn_app (goodIn_of _ (by decide +kernel)) ggX0_pass_X0_requireWithin
set_option maxRecDepth 20000 in
theorem ggX0_pass_X0_timesBegun : GoodIn wsX0_pass wsX0_timesBegun := goodIn_r _ [12, 2, 13, 14, 15, 5, 16, 17, 18, 19, 20, 21, 22, 23, 24, 25, 26, 27, 28, 29, 30, 31, 32, 33, 34, 35, 36, 37, 38, 39, 40, 41, 42, 43, 44, 45, 46, 47, 48, 49, 50] (by decide +kernel) (by decide +kernel)
set_option maxRecDepth 20000 in
theorem gX0_pass_X0_timesBegun : GoodIn wsX0_pass (wsV RX0 115 RX0 yX0_timesBegun wsX0_timesBegun) := goodIn_app (goodIn_of _ (by decide +kernel)) ggX0_pass_X0_timesBegun
theorem dX0_pass_0 : decode cX0_pass 0 = .ok (.iload_n 1, 1) := by decide +kernel
theorem dX0_pass_1 : decode cX0_pass 1 = .ok (.iconst 1, 1) := by decide +kernel
theorem dX0_pass_2 : decode cX0_pass 2 = .ok (.sipush 200, 3) := by decide +kernel
theorem dX0_pass_5 : decode cX0_pass 5 = .ok (.invokestatic 70, 3) := by decide +kernel
theorem dX0_pass_8 : decode cX0_pass 8 = .ok (.iconst 0, 1) := by decide +kernel
theorem dX0_pass_9 : decode cX0_pass 9 = .ok (.istore_n 2, 1) := by decide +kernel
theorem dX0_pass_10 : decode cX0_pass 10 = .ok (.iconst 0, 1) := by decide +kernel
theorem dX0_pass_11 : decode cX0_pass 11 = .ok (.istore_n 3, 1) := by decide +kernel
theorem dX0_pass_12 : decode cX0_pass 12 = .ok (.iload_n 3, 1) := by decide +kernel
theorem dX0_pass_13 : decode cX0_pass 13 = .ok (.aload_n 0, 1) := by decide +kernel
theorem dX0_pass_14 : decode cX0_pass 14 = .ok (.getfield 74, 3) := by decide +kernel
theorem dX0_pass_17 : decode cX0_pass 17 = .ok (.if_icmp .ge 18, 3) := by decide +kernel
theorem dX0_pass_20 : decode cX0_pass 20 = .ok (.iload_n 2, 1) := by decide +kernel
theorem dX0_pass_21 : decode cX0_pass 21 = .ok (.aload_n 0, 1) := by decide +kernel
theorem dX0_pass_22 : decode cX0_pass 22 = .ok (.iload_n 3, 1) := by decide +kernel
theorem dX0_pass_23 : decode cX0_pass 23 = .ok (.iload_n 1, 1) := by decide +kernel
theorem dX0_pass_24 : decode cX0_pass 24 = .ok (.invokevirtual 115, 3) := by decide +kernel
theorem dX0_pass_27 : decode cX0_pass 27 = .ok (.iadd, 1) := by decide +kernel
theorem dX0_pass_28 : decode cX0_pass 28 = .ok (.istore_n 2, 1) := by decide +kernel
theorem dX0_pass_29 : decode cX0_pass 29 = .ok (.iinc 3 1, 3) := by decide +kernel
theorem dX0_pass_32 : decode cX0_pass 32 = .ok (.goto (-20), 3) := by decide +kernel
theorem dX0_pass_35 : decode cX0_pass 35 = .ok (.aload_n 0, 1) := by decide +kernel
theorem dX0_pass_36 : decode cX0_pass 36 = .ok (.dup, 1) := by decide +kernel
theorem dX0_pass_37 : decode cX0_pass 37 = .ok (.getfield 101, 3) := by decide +kernel
theorem dX0_pass_40 : decode cX0_pass 40 = .ok (.iload_n 1, 1) := by decide +kernel
theorem dX0_pass_41 : decode cX0_pass 41 = .ok (.iadd, 1) := by decide +kernel
theorem dX0_pass_42 : decode cX0_pass 42 = .ok (.putfield 101, 3) := by decide +kernel
theorem dX0_pass_45 : decode cX0_pass 45 = .ok (.iload_n 2, 1) := by decide +kernel
theorem dX0_pass_46 : decode cX0_pass 46 = .ok (.ireturn, 1) := by decide +kernel
theorem dX0_day_0 : decode cX0_day 0 = .ok (.aload_n 0, 1) := by decide +kernel
theorem dX0_day_1 : decode cX0_day 1 = .ok (.getfield 101, 3) := by decide +kernel
theorem dX0_day_4 : decode cX0_day 4 = .ok (.bipush 48, 2) := by decide +kernel
theorem dX0_day_6 : decode cX0_day 6 = .ok (.idiv, 1) := by decide +kernel
theorem dX0_day_7 : decode cX0_day 7 = .ok (.ireturn, 1) := by decide +kernel
theorem dX0_halfHour_0 : decode cX0_halfHour 0 = .ok (.aload_n 0, 1) := by decide +kernel
theorem dX0_halfHour_1 : decode cX0_halfHour 1 = .ok (.getfield 101, 3) := by decide +kernel
theorem dX0_halfHour_4 : decode cX0_halfHour 4 = .ok (.bipush 48, 2) := by decide +kernel
theorem dX0_halfHour_6 : decode cX0_halfHour 6 = .ok (.irem, 1) := by decide +kernel
theorem dX0_halfHour_7 : decode cX0_halfHour 7 = .ok (.ireturn, 1) := by decide +kernel
set_option maxRecDepth 20000 in
theorem ggX0_duskIn_X0_requireWithin : GoodIn wsX0_duskIn wsX0_requireWithin := goodIn_ca (goodIn_r _ [4, 5, 6] (by decide +kernel) (by decide +kernel)) (goodIn_sub (fun _ h => List.mem_cons_of_mem _ (List.mem_append_right _ h)) (by decide +kernel))
set_option maxRecDepth 20000 in
theorem gX0_duskIn_X0_requireWithin : GoodIn wsX0_duskIn (va_wsS RX0 70 yX0_requireWithin wsX0_requireWithin) := goodIn_app (goodIn_of _ (by decide +kernel)) ggX0_duskIn_X0_requireWithin
set_option maxRecDepth 20000 in
theorem ggX0_duskIn_X0_day : GoodIn wsX0_duskIn wsX0_day := goodIn_r _ [10, 11, 20, 21, 22, 23, 24, 25, 26, 27, 28, 29, 30, 31, 32, 33, 34, 35] (by decide +kernel) (by decide +kernel)
set_option maxRecDepth 20000 in
theorem gX0_duskIn_X0_day : GoodIn wsX0_duskIn (wsV RX0 118 RX0 yX0_day wsX0_day) := goodIn_app (goodIn_of _ (by decide +kernel)) ggX0_duskIn_X0_day
set_option maxRecDepth 20000 in
theorem ggX0_duskIn_X0_duskOf : GoodIn wsX0_duskIn wsX0_duskOf := goodIn_r _ [15, 16, 17, 18, 3, 19, 20, 21, 22, 23, 24, 25, 26, 27, 28, 29, 30, 31, 32, 33, 34, 35] (by decide +kernel) (by decide +kernel)
set_option maxRecDepth 20000 in
theorem gX0_duskIn_X0_duskOf : GoodIn wsX0_duskIn (wsV RX0 122 RX0 yX0_duskOf wsX0_duskOf) := goodIn_app (goodIn_of _ (by decide +kernel)) ggX0_duskIn_X0_duskOf
theorem dX0_duskIn_0 : decode cX0_duskIn 0 = .ok (.iload_n 1, 1) := by decide +kernel
theorem dX0_duskIn_1 : decode cX0_duskIn 1 = .ok (.iconst 0, 1) := by decide +kernel
theorem dX0_duskIn_2 : decode cX0_duskIn 2 = .ok (.bipush 99, 2) := by decide +kernel
theorem dX0_duskIn_4 : decode cX0_duskIn 4 = .ok (.invokestatic 70, 3) := by decide +kernel
theorem dX0_duskIn_7 : decode cX0_duskIn 7 = .ok (.aload_n 0, 1) := by decide +kernel
theorem dX0_duskIn_8 : decode cX0_duskIn 8 = .ok (.aload_n 0, 1) := by decide +kernel
theorem dX0_duskIn_9 : decode cX0_duskIn 9 = .ok (.invokevirtual 118, 3) := by decide +kernel
theorem dX0_duskIn_12 : decode cX0_duskIn 12 = .ok (.iload_n 1, 1) := by decide +kernel
theorem dX0_duskIn_13 : decode cX0_duskIn 13 = .ok (.iadd, 1) := by decide +kernel
theorem dX0_duskIn_14 : decode cX0_duskIn 14 = .ok (.invokevirtual 122, 3) := by decide +kernel
theorem dX0_duskIn_17 : decode cX0_duskIn 17 = .ok (.ireturn, 1) := by decide +kernel
set_option maxRecDepth 20000 in
theorem ggX0_dawnIn_X0_requireWithin : GoodIn wsX0_dawnIn wsX0_requireWithin := goodIn_ca (goodIn_r _ [4, 5, 6] (by decide +kernel) (by decide +kernel)) (goodIn_sub (fun _ h => List.mem_cons_of_mem _ (List.mem_append_right _ h)) (by decide +kernel))
set_option maxRecDepth 20000 in
theorem gX0_dawnIn_X0_requireWithin : GoodIn wsX0_dawnIn (va_wsS RX0 70 yX0_requireWithin wsX0_requireWithin) := goodIn_app (goodIn_of _ (by decide +kernel)) ggX0_dawnIn_X0_requireWithin
set_option maxRecDepth 20000 in
theorem ggX0_dawnIn_X0_day : GoodIn wsX0_dawnIn wsX0_day := goodIn_r _ [10, 11, 18, 19, 20, 21, 22, 23, 24, 25, 26, 27, 28, 29, 30, 31, 32, 33] (by decide +kernel) (by decide +kernel)
set_option maxRecDepth 20000 in
theorem gX0_dawnIn_X0_day : GoodIn wsX0_dawnIn (wsV RX0 118 RX0 yX0_day wsX0_day) := goodIn_app (goodIn_of _ (by decide +kernel)) ggX0_dawnIn_X0_day
set_option maxRecDepth 20000 in
theorem ggX0_dawnIn_X0_dawnOf : GoodIn wsX0_dawnIn wsX0_dawnOf := goodIn_r _ [14, 15, 16, 3, 17] (by decide +kernel) (by decide +kernel)
set_option maxRecDepth 20000 in
theorem gX0_dawnIn_X0_dawnOf : GoodIn wsX0_dawnIn (va_wsS RX0 125 yX0_dawnOf wsX0_dawnOf) := goodIn_app (goodIn_of _ (by decide +kernel)) ggX0_dawnIn_X0_dawnOf
theorem dX0_dawnIn_0 : decode cX0_dawnIn 0 = .ok (.iload_n 1, 1) := by decide +kernel
theorem dX0_dawnIn_1 : decode cX0_dawnIn 1 = .ok (.iconst 0, 1) := by decide +kernel
theorem dX0_dawnIn_2 : decode cX0_dawnIn 2 = .ok (.bipush 99, 2) := by decide +kernel
theorem dX0_dawnIn_4 : decode cX0_dawnIn 4 = .ok (.invokestatic 70, 3) := by decide +kernel
theorem dX0_dawnIn_7 : decode cX0_dawnIn 7 = .ok (.aload_n 0, 1) := by decide +kernel
theorem dX0_dawnIn_8 : decode cX0_dawnIn 8 = .ok (.invokevirtual 118, 3) := by decide +kernel
theorem dX0_dawnIn_11 : decode cX0_dawnIn 11 = .ok (.iload_n 1, 1) := by decide +kernel
theorem dX0_dawnIn_12 : decode cX0_dawnIn 12 = .ok (.iadd, 1) := by decide +kernel
theorem dX0_dawnIn_13 : decode cX0_dawnIn 13 = .ok (.invokestatic 125, 3) := by decide +kernel
theorem dX0_dawnIn_16 : decode cX0_dawnIn 16 = .ok (.ireturn, 1) := by decide +kernel
set_option maxRecDepth 20000 in
theorem ggX0_quarterOf_X0_requireOrder : GoodIn wsX0_quarterOf wsX0_requireOrder := goodIn_ca (goodIn_r _ [6, 7, 8, 9, 10, 11, 12, 13, 14, 15, 16, 17, 18, 19, 20, 21, 22, 23, 24, 25] (by decide +kernel) (by decide +kernel)) (goodIn_sub (fun _ h => List.mem_cons_of_mem _ (List.mem_append_right _ h)) (by decide +kernel))
set_option maxRecDepth 20000 in
theorem gX0_quarterOf_X0_requireOrder : GoodIn wsX0_quarterOf (wsV RX0 79 RX0 yX0_requireOrder wsX0_requireOrder) := goodIn_app (goodIn_of _ (by decide +kernel)) ggX0_quarterOf_X0_requireOrder
theorem dX0_quarterOf_0 : decode cX0_quarterOf 0 = .ok (.aload_n 0, 1) := by decide +kernel
theorem dX0_quarterOf_1 : decode cX0_quarterOf 1 = .ok (.iload_n 1, 1) := by decide +kernel
theorem dX0_quarterOf_2 : decode cX0_quarterOf 2 = .ok (.invokevirtual 79, 3) := by decide +kernel
theorem dX0_quarterOf_5 : decode cX0_quarterOf 5 = .ok (.aload_n 0, 1) := by decide +kernel
theorem dX0_quarterOf_6 : decode cX0_quarterOf 6 = .ok (.getfield 9, 3) := by decide +kernel
theorem dX0_quarterOf_9 : decode cX0_quarterOf 9 = .ok (.iload_n 1, 1) := by decide +kernel
theorem dX0_quarterOf_10 : decode cX0_quarterOf 10 = .ok (.iaload, 1) := by decide +kernel
theorem dX0_quarterOf_11 : decode cX0_quarterOf 11 = .ok (.ireturn, 1) := by decide +kernel
set_option maxRecDepth 20000 in
theorem ggX0_colourOf_X0_requireOrder : GoodIn wsX0_colourOf wsX0_requireOrder := goodIn_ca (goodIn_r _ [6, 7, 8, 9, 10, 11, 12, 13, 14, 15, 16, 17, 18, 19, 20, 21, 22, 23, 24, 25] (by decide +kernel) (by decide +kernel)) (goodIn_sub (fun _ h => List.mem_cons_of_mem _ (List.mem_append_right _ h)) (by decide +kernel))
set_option maxRecDepth 20000 in
theorem gX0_colourOf_X0_requireOrder : GoodIn wsX0_colourOf (wsV RX0 79 RX0 yX0_requireOrder wsX0_requireOrder) := goodIn_app (goodIn_of _ (by decide +kernel)) ggX0_colourOf_X0_requireOrder
theorem dX0_colourOf_0 : decode cX0_colourOf 0 = .ok (.aload_n 0, 1) := by decide +kernel
theorem dX0_colourOf_1 : decode cX0_colourOf 1 = .ok (.iload_n 1, 1) := by decide +kernel
theorem dX0_colourOf_2 : decode cX0_colourOf 2 = .ok (.invokevirtual 79, 3) := by decide +kernel
theorem dX0_colourOf_5 : decode cX0_colourOf 5 = .ok (.aload_n 0, 1) := by decide +kernel
theorem dX0_colourOf_6 : decode cX0_colourOf 6 = .ok (.getfield 19, 3) := by decide +kernel
theorem dX0_colourOf_9 : decode cX0_colourOf 9 = .ok (.iload_n 1, 1) := by decide +kernel
theorem dX0_colourOf_10 : decode cX0_colourOf 10 = .ok (.iaload, 1) := by decide +kernel
theorem dX0_colourOf_11 : decode cX0_colourOf 11 = .ok (.ireturn, 1) := by decide +kernel
set_option maxRecDepth 20000 in
theorem ggX0_isInForce_X0_requireOrder : GoodIn wsX0_isInForce wsX0_requireOrder := goodIn_ca (goodIn_r _ [6, 7, 8, 9, 10, 11, 12, 13, 14, 15, 16, 17, 18, 19, 20, 21, 22, 23, 24, 25] (by decide +kernel) (by decide +kernel)) (goodIn_sub (fun _ h => List.mem_cons_of_mem _ (List.mem_append_right _ h)) (by decide +kernel))
set_option maxRecDepth 20000 in
theorem gX0_isInForce_X0_requireOrder : GoodIn wsX0_isInForce (wsV RX0 79 RX0 yX0_requireOrder wsX0_requireOrder) := goodIn_app (goodIn_of _ (by decide +kernel)) ggX0_isInForce_X0_requireOrder
theorem dX0_isInForce_0 : decode cX0_isInForce 0 = .ok (.aload_n 0, 1) := by decide +kernel
theorem dX0_isInForce_1 : decode cX0_isInForce 1 = .ok (.iload_n 1, 1) := by decide +kernel
theorem dX0_isInForce_2 : decode cX0_isInForce 2 = .ok (.invokevirtual 79, 3) := by decide +kernel
theorem dX0_isInForce_5 : decode cX0_isInForce 5 = .ok (.aload_n 0, 1) := by decide +kernel
theorem dX0_isInForce_6 : decode cX0_isInForce 6 = .ok (.getfield 22, 3) := by decide +kernel
theorem dX0_isInForce_9 : decode cX0_isInForce 9 = .ok (.iload_n 1, 1) := by decide +kernel
theorem dX0_isInForce_10 : decode cX0_isInForce 10 = .ok (.baload, 1) := by decide +kernel
theorem dX0_isInForce_11 : decode cX0_isInForce 11 = .ok (.ireturn, 1) := by decide +kernel
set_option maxRecDepth 20000 in
theorem ggX0_isOn_X0_requireOrder : GoodIn wsX0_isOn wsX0_requireOrder := goodIn_ca (goodIn_r _ [6, 7, 8, 9, 32, 33, 34, 35, 36, 37, 38, 39, 40, 41, 42, 43, 44, 45, 46, 47] (by decide +kernel) (by decide +kernel)) (goodIn_sub (fun _ h => List.mem_cons_of_mem _ (List.mem_append_right _ h)) (by decide +kernel))
set_option maxRecDepth 20000 in
theorem gX0_isOn_X0_requireOrder : GoodIn wsX0_isOn (wsV RX0 79 RX0 yX0_requireOrder wsX0_requireOrder) := goodIn_app (goodIn_of _ (by decide +kernel)) ggX0_isOn_X0_requireOrder
set_option maxRecDepth 20000 in
theorem ggX0_isOn_X0_isOnAt : GoodIn wsX0_isOn wsX0_isOnAt := goodIn_r _ [13, 14, 15, 16, 17, 5, 18, 19, 20, 21, 22, 23, 24, 25, 26, 27, 28, 29, 30, 31, 32, 33, 34, 35, 36, 37, 38, 39, 40, 41, 42, 43, 44, 45, 46, 47] (by decide +kernel) (by decide +kernel)
set_option maxRecDepth 20000 in
theorem gX0_isOn_X0_isOnAt : GoodIn wsX0_isOn (wsV RX0 128 RX0 yX0_isOnAt wsX0_isOnAt) := goodIn_app (goodIn_of _ (by decide +kernel)) ggX0_isOn_X0_isOnAt
theorem dX0_isOn_0 : decode cX0_isOn 0 = .ok (.aload_n 0, 1) := by decide +kernel
theorem dX0_isOn_1 : decode cX0_isOn 1 = .ok (.iload_n 1, 1) := by decide +kernel
theorem dX0_isOn_2 : decode cX0_isOn 2 = .ok (.invokevirtual 79, 3) := by decide +kernel
theorem dX0_isOn_5 : decode cX0_isOn 5 = .ok (.aload_n 0, 1) := by decide +kernel
theorem dX0_isOn_6 : decode cX0_isOn 6 = .ok (.iload_n 1, 1) := by decide +kernel
theorem dX0_isOn_7 : decode cX0_isOn 7 = .ok (.aload_n 0, 1) := by decide +kernel
theorem dX0_isOn_8 : decode cX0_isOn 8 = .ok (.getfield 101, 3) := by decide +kernel
theorem dX0_isOn_11 : decode cX0_isOn 11 = .ok (.invokevirtual 128, 3) := by decide +kernel
theorem dX0_isOn_14 : decode cX0_isOn 14 = .ok (.ireturn, 1) := by decide +kernel
set_option maxRecDepth 20000 in
theorem ggX0_isExempt_X0_requireOrder : GoodIn wsX0_isExempt wsX0_requireOrder := goodIn_ca (goodIn_r _ [5, 6, 7, 8, 17, 18, 19, 20, 21, 22, 23, 24, 25, 26, 27, 28, 29, 30, 31, 32] (by decide +kernel) (by decide +kernel)) (goodIn_sub (fun _ h => List.mem_cons_of_mem _ (List.mem_append_right _ h)) (by decide +kernel))
set_option maxRecDepth 20000 in
theorem gX0_isExempt_X0_requireOrder : GoodIn wsX0_isExempt (wsV RX0 79 RX0 yX0_requireOrder wsX0_requireOrder) := goodIn_app (goodIn_of _ (by decide +kernel)) ggX0_isExempt_X0_requireOrder
set_option maxRecDepth 20000 in
theorem ggX0_isExempt_X0_requireTrade : GoodIn wsX0_isExempt wsX0_requireTrade := goodIn_ca (goodIn_r _ [11, 6, 7] (by decide +kernel) (by decide +kernel)) (goodIn_sub (fun _ h => List.mem_cons_of_mem _ (List.mem_append_right _ h)) (by decide +kernel))
set_option maxRecDepth 20000 in
theorem gX0_isExempt_X0_requireTrade : GoodIn wsX0_isExempt (va_wsS RX0 55 yX0_requireTrade wsX0_requireTrade) := goodIn_app (goodIn_of _ (by decide +kernel)) ggX0_isExempt_X0_requireTrade
set_option maxRecDepth 20000 in
theorem ggX0_isExempt_X0_exempts : GoodIn wsX0_isExempt wsX0_exempts := goodIn_r _ [15, 16, 17, 18, 19, 20, 21, 22, 23, 24, 25, 26, 27, 28, 29, 30, 31, 32] (by decide +kernel) (by decide +kernel)
set_option maxRecDepth 20000 in
theorem gX0_isExempt_X0_exempts : GoodIn wsX0_isExempt (wsV RX0 82 RX0 yX0_exempts wsX0_exempts) := goodIn_app (goodIn_of _ (by decide +kernel)) ggX0_isExempt_X0_exempts
theorem dX0_isExempt_0 : decode cX0_isExempt 0 = .ok (.aload_n 0, 1) := by decide +kernel
theorem dX0_isExempt_1 : decode cX0_isExempt 1 = .ok (.iload_n 1, 1) := by decide +kernel
theorem dX0_isExempt_2 : decode cX0_isExempt 2 = .ok (.invokevirtual 79, 3) := by decide +kernel
theorem dX0_isExempt_5 : decode cX0_isExempt 5 = .ok (.iload_n 2, 1) := by decide +kernel
theorem dX0_isExempt_6 : decode cX0_isExempt 6 = .ok (.invokestatic 55, 3) := by decide +kernel
theorem dX0_isExempt_9 : decode cX0_isExempt 9 = .ok (.aload_n 0, 1) := by decide +kernel
theorem dX0_isExempt_10 : decode cX0_isExempt 10 = .ok (.iload_n 1, 1) := by decide +kernel
theorem dX0_isExempt_11 : decode cX0_isExempt 11 = .ok (.iload_n 2, 1) := by decide +kernel
theorem dX0_isExempt_12 : decode cX0_isExempt 12 = .ok (.invokevirtual 82, 3) := by decide +kernel
theorem dX0_isExempt_15 : decode cX0_isExempt 15 = .ok (.ireturn, 1) := by decide +kernel
set_option maxRecDepth 20000 in
theorem ggX0_barredBy_X0_requireOrder : GoodIn wsX0_barredBy wsX0_requireOrder := goodIn_ca (goodIn_r _ [8, 9, 10, 11, 40, 41, 42, 43, 44, 45, 46, 47, 48, 49, 50, 51, 52, 53, 54, 55] (by decide +kernel) (by decide +kernel)) (goodIn_sub (fun _ h => List.mem_cons_of_mem _ (List.mem_append_right _ h)) (by decide +kernel))
set_option maxRecDepth 20000 in
theorem gX0_barredBy_X0_requireOrder : GoodIn wsX0_barredBy (wsV RX0 79 RX0 yX0_requireOrder wsX0_requireOrder) := goodIn_app (goodIn_of _ (by decide +kernel)) ggX0_barredBy_X0_requireOrder
set_option maxRecDepth 20000 in
theorem ggX0_barredBy_X0_bars : GoodIn wsX0_barredBy wsX0_bars := goodIn_r _ [15, 2, 16, 17, 18, 19, 20, 7, 21, 22, 23, 24, 25, 26, 27, 28, 29, 30, 31, 32, 33, 34, 35, 36, 37, 38, 39, 40, 41, 42, 43, 44, 45, 46, 47, 48, 49, 50, 51, 52, 53, 54, 55] (by decide +kernel) (by decide +kernel)
set_option maxRecDepth 20000 in
theorem gX0_barredBy_X0_bars : GoodIn wsX0_barredBy (wsV RX0 104 RX0 yX0_bars wsX0_bars) := goodIn_app (goodIn_of _ (by decide +kernel)) ggX0_barredBy_X0_bars
theorem dX0_barredBy_0 : decode cX0_barredBy 0 = .ok (.aload_n 0, 1) := by decide +kernel
theorem dX0_barredBy_1 : decode cX0_barredBy 1 = .ok (.iload_n 1, 1) := by decide +kernel
theorem dX0_barredBy_2 : decode cX0_barredBy 2 = .ok (.invokevirtual 79, 3) := by decide +kernel
theorem dX0_barredBy_5 : decode cX0_barredBy 5 = .ok (.iconst 0, 1) := by decide +kernel
theorem dX0_barredBy_6 : decode cX0_barredBy 6 = .ok (.istore_n 2, 1) := by decide +kernel
theorem dX0_barredBy_7 : decode cX0_barredBy 7 = .ok (.iconst 0, 1) := by decide +kernel
theorem dX0_barredBy_8 : decode cX0_barredBy 8 = .ok (.istore_n 3, 1) := by decide +kernel
theorem dX0_barredBy_9 : decode cX0_barredBy 9 = .ok (.iload_n 3, 1) := by decide +kernel
theorem dX0_barredBy_10 : decode cX0_barredBy 10 = .ok (.aload_n 0, 1) := by decide +kernel
theorem dX0_barredBy_11 : decode cX0_barredBy 11 = .ok (.getfield 59, 3) := by decide +kernel
theorem dX0_barredBy_14 : decode cX0_barredBy 14 = .ok (.if_icmp .ge 31, 3) := by decide +kernel
theorem dX0_barredBy_17 : decode cX0_barredBy 17 = .ok (.aload_n 0, 1) := by decide +kernel
theorem dX0_barredBy_18 : decode cX0_barredBy 18 = .ok (.iload_n 1, 1) := by decide +kernel
theorem dX0_barredBy_19 : decode cX0_barredBy 19 = .ok (.iload_n 3, 1) := by decide +kernel
theorem dX0_barredBy_20 : decode cX0_barredBy 20 = .ok (.aload_n 0, 1) := by decide +kernel
theorem dX0_barredBy_21 : decode cX0_barredBy 21 = .ok (.getfield 9, 3) := by decide +kernel
theorem dX0_barredBy_24 : decode cX0_barredBy 24 = .ok (.iload_n 1, 1) := by decide +kernel
theorem dX0_barredBy_25 : decode cX0_barredBy 25 = .ok (.iaload, 1) := by decide +kernel
theorem dX0_barredBy_26 : decode cX0_barredBy 26 = .ok (.aload_n 0, 1) := by decide +kernel
theorem dX0_barredBy_27 : decode cX0_barredBy 27 = .ok (.getfield 101, 3) := by decide +kernel
theorem dX0_barredBy_30 : decode cX0_barredBy 30 = .ok (.invokevirtual 104, 3) := by decide +kernel
theorem dX0_barredBy_33 : decode cX0_barredBy 33 = .ok (.ifCond .eq 6, 3) := by decide +kernel
theorem dX0_barredBy_36 : decode cX0_barredBy 36 = .ok (.iinc 2 1, 3) := by decide +kernel
theorem dX0_barredBy_39 : decode cX0_barredBy 39 = .ok (.iinc 3 1, 3) := by decide +kernel
theorem dX0_barredBy_42 : decode cX0_barredBy 42 = .ok (.goto (-33), 3) := by decide +kernel
theorem dX0_barredBy_45 : decode cX0_barredBy 45 = .ok (.iload_n 2, 1) := by decide +kernel
theorem dX0_barredBy_46 : decode cX0_barredBy 46 = .ok (.ireturn, 1) := by decide +kernel
set_option maxRecDepth 20000 in
theorem ggX0_tradeOf_X0_requirePerson : GoodIn wsX0_tradeOf wsX0_requirePerson := goodIn_ca (goodIn_r _ [6, 7, 8, 9, 10, 11, 12, 13, 14, 15, 16, 17, 18, 19, 20, 21, 22, 23, 24, 25] (by decide +kernel) (by decide +kernel)) (goodIn_sub (fun _ h => List.mem_cons_of_mem _ (List.mem_append_right _ h)) (by decide +kernel))
set_option maxRecDepth 20000 in
theorem gX0_tradeOf_X0_requirePerson : GoodIn wsX0_tradeOf (wsV RX0 89 RX0 yX0_requirePerson wsX0_requirePerson) := goodIn_app (goodIn_of _ (by decide +kernel)) ggX0_tradeOf_X0_requirePerson
theorem dX0_tradeOf_0 : decode cX0_tradeOf 0 = .ok (.aload_n 0, 1) := by decide +kernel
theorem dX0_tradeOf_1 : decode cX0_tradeOf 1 = .ok (.iload_n 1, 1) := by decide +kernel
theorem dX0_tradeOf_2 : decode cX0_tradeOf 2 = .ok (.invokevirtual 89, 3) := by decide +kernel
theorem dX0_tradeOf_5 : decode cX0_tradeOf 5 = .ok (.aload_n 0, 1) := by decide +kernel
theorem dX0_tradeOf_6 : decode cX0_tradeOf 6 = .ok (.getfield 29, 3) := by decide +kernel
theorem dX0_tradeOf_9 : decode cX0_tradeOf 9 = .ok (.iload_n 1, 1) := by decide +kernel
theorem dX0_tradeOf_10 : decode cX0_tradeOf 10 = .ok (.iaload, 1) := by decide +kernel
theorem dX0_tradeOf_11 : decode cX0_tradeOf 11 = .ok (.ireturn, 1) := by decide +kernel
set_option maxRecDepth 20000 in
theorem ggX0_stampsOf_X0_requirePerson : GoodIn wsX0_stampsOf wsX0_requirePerson := goodIn_ca (goodIn_r _ [6, 7, 8, 9, 16, 17, 18, 19, 20, 21, 22, 23, 24, 25, 26, 27, 28, 29, 30, 31] (by decide +kernel) (by decide +kernel)) (goodIn_sub (fun _ h => List.mem_cons_of_mem _ (List.mem_append_right _ h)) (by decide +kernel))
set_option maxRecDepth 20000 in
theorem gX0_stampsOf_X0_requirePerson : GoodIn wsX0_stampsOf (wsV RX0 89 RX0 yX0_requirePerson wsX0_requirePerson) := goodIn_app (goodIn_of _ (by decide +kernel)) ggX0_stampsOf_X0_requirePerson
set_option maxRecDepth 20000 in
theorem ggX0_stampsOf_X0_requireColour : GoodIn wsX0_stampsOf wsX0_requireColour := goodIn_ca (goodIn_r _ [12, 7, 8] (by decide +kernel) (by decide +kernel)) (goodIn_sub (fun _ h => List.mem_cons_of_mem _ (List.mem_append_right _ h)) (by decide +kernel))
set_option maxRecDepth 20000 in
theorem gX0_stampsOf_X0_requireColour : GoodIn wsX0_stampsOf (va_wsS RX0 67 yX0_requireColour wsX0_requireColour) := goodIn_app (goodIn_of _ (by decide +kernel)) ggX0_stampsOf_X0_requireColour
set_option maxRecDepth 20000 in
theorem ggX0_stampsOf_X0_stampPlace : GoodIn wsX0_stampsOf wsX0_stampPlace := goodIn_r _ [15] (by decide +kernel) (by decide +kernel)
set_option maxRecDepth 20000 in
theorem gX0_stampsOf_X0_stampPlace : GoodIn wsX0_stampsOf (va_wsS RX0 92 yX0_stampPlace wsX0_stampPlace) := goodIn_app (goodIn_of _ (by decide +kernel)) ggX0_stampsOf_X0_stampPlace
theorem dX0_stampsOf_0 : decode cX0_stampsOf 0 = .ok (.aload_n 0, 1) := by decide +kernel
theorem dX0_stampsOf_1 : decode cX0_stampsOf 1 = .ok (.iload_n 1, 1) := by decide +kernel
theorem dX0_stampsOf_2 : decode cX0_stampsOf 2 = .ok (.invokevirtual 89, 3) := by decide +kernel
theorem dX0_stampsOf_5 : decode cX0_stampsOf 5 = .ok (.iload_n 2, 1) := by decide +kernel
theorem dX0_stampsOf_6 : decode cX0_stampsOf 6 = .ok (.invokestatic 67, 3) := by decide +kernel
theorem dX0_stampsOf_9 : decode cX0_stampsOf 9 = .ok (.aload_n 0, 1) := by decide +kernel
theorem dX0_stampsOf_10 : decode cX0_stampsOf 10 = .ok (.getfield 38, 3) := by decide +kernel
theorem dX0_stampsOf_13 : decode cX0_stampsOf 13 = .ok (.iload_n 1, 1) := by decide +kernel
theorem dX0_stampsOf_14 : decode cX0_stampsOf 14 = .ok (.iload_n 2, 1) := by decide +kernel
theorem dX0_stampsOf_15 : decode cX0_stampsOf 15 = .ok (.invokestatic 92, 3) := by decide +kernel
theorem dX0_stampsOf_18 : decode cX0_stampsOf 18 = .ok (.iaload, 1) := by decide +kernel
theorem dX0_stampsOf_19 : decode cX0_stampsOf 19 = .ok (.ireturn, 1) := by decide +kernel
set_option maxRecDepth 20000 in
theorem ggX0_owes_X0_requirePerson : GoodIn wsX0_owes wsX0_requirePerson := goodIn_ca (goodIn_r _ [6, 7, 8, 9, 10, 11, 12, 13, 14, 15, 16, 17, 18, 19, 20, 21, 22, 23, 24, 25] (by decide +kernel) (by decide +kernel)) (goodIn_sub (fun _ h => List.mem_cons_of_mem _ (List.mem_append_right _ h)) (by decide +kernel))
set_option maxRecDepth 20000 in
theorem gX0_owes_X0_requirePerson : GoodIn wsX0_owes (wsV RX0 89 RX0 yX0_requirePerson wsX0_requirePerson) := goodIn_app (goodIn_of _ (by decide +kernel)) ggX0_owes_X0_requirePerson
theorem dX0_owes_0 : decode cX0_owes 0 = .ok (.aload_n 0, 1) := by decide +kernel
theorem dX0_owes_1 : decode cX0_owes 1 = .ok (.iload_n 1, 1) := by decide +kernel
theorem dX0_owes_2 : decode cX0_owes 2 = .ok (.invokevirtual 89, 3) := by decide +kernel
theorem dX0_owes_5 : decode cX0_owes 5 = .ok (.aload_n 0, 1) := by decide +kernel
theorem dX0_owes_6 : decode cX0_owes 6 = .ok (.getfield 35, 3) := by decide +kernel
theorem dX0_owes_9 : decode cX0_owes 9 = .ok (.iload_n 1, 1) := by decide +kernel
theorem dX0_owes_10 : decode cX0_owes 10 = .ok (.iaload, 1) := by decide +kernel
theorem dX0_owes_11 : decode cX0_owes 11 = .ok (.ireturn, 1) := by decide +kernel
set_option maxRecDepth 20000 in
theorem ggX0_timesFined_X0_requirePerson : GoodIn wsX0_timesFined wsX0_requirePerson := goodIn_ca (goodIn_r _ [6, 7, 8, 9, 10, 11, 12, 13, 14, 15, 16, 17, 18, 19, 20, 21, 22, 23, 24, 25] (by decide +kernel) (by decide +kernel)) (goodIn_sub (fun _ h => List.mem_cons_of_mem _ (List.mem_append_right _ h)) (by decide +kernel))
set_option maxRecDepth 20000 in
theorem gX0_timesFined_X0_requirePerson : GoodIn wsX0_timesFined (wsV RX0 89 RX0 yX0_requirePerson wsX0_requirePerson) := goodIn_app (goodIn_of _ (by decide +kernel)) ggX0_timesFined_X0_requirePerson
theorem dX0_timesFined_0 : decode cX0_timesFined 0 = .ok (.aload_n 0, 1) := by decide +kernel
theorem dX0_timesFined_1 : decode cX0_timesFined 1 = .ok (.iload_n 1, 1) := by decide +kernel
theorem dX0_timesFined_2 : decode cX0_timesFined 2 = .ok (.invokevirtual 89, 3) := by decide +kernel
theorem dX0_timesFined_5 : decode cX0_timesFined 5 = .ok (.aload_n 0, 1) := by decide +kernel
theorem dX0_timesFined_6 : decode cX0_timesFined 6 = .ok (.getfield 32, 3) := by decide +kernel
theorem dX0_timesFined_9 : decode cX0_timesFined 9 = .ok (.iload_n 1, 1) := by decide +kernel
theorem dX0_timesFined_10 : decode cX0_timesFined 10 = .ok (.iaload, 1) := by decide +kernel
theorem dX0_timesFined_11 : decode cX0_timesFined 11 = .ok (.ireturn, 1) := by decide +kernel
set_option maxRecDepth 20000 in
theorem ggX0_ordersAgainst_X0_requirePerson : GoodIn wsX0_ordersAgainst wsX0_requirePerson := goodIn_ca (goodIn_r _ [7, 8, 9, 10, 45, 46, 47, 48, 49, 50, 51, 52, 53, 54, 55, 56, 57, 58, 59, 60] (by decide +kernel) (by decide +kernel)) (goodIn_sub (fun _ h => List.mem_cons_of_mem _ (List.mem_append_right _ h)) (by decide +kernel))
set_option maxRecDepth 20000 in
theorem gX0_ordersAgainst_X0_requirePerson : GoodIn wsX0_ordersAgainst (wsV RX0 89 RX0 yX0_requirePerson wsX0_requirePerson) := goodIn_app (goodIn_of _ (by decide +kernel)) ggX0_ordersAgainst_X0_requirePerson
set_option maxRecDepth 20000 in
theorem ggX0_ordersAgainst_X0_requireQuarter : GoodIn wsX0_ordersAgainst wsX0_requireQuarter := goodIn_ca (goodIn_r _ [14, 8, 9, 15, 45, 46, 47, 48, 49, 50, 51, 52, 53, 54, 55, 56, 57, 58, 59, 60] (by decide +kernel) (by decide +kernel)) (goodIn_sub (fun _ h => List.mem_cons_of_mem _ (List.mem_append_right _ h)) (by decide +kernel))
set_option maxRecDepth 20000 in
theorem gX0_ordersAgainst_X0_requireQuarter : GoodIn wsX0_ordersAgainst (wsV RX0 64 RX0 yX0_requireQuarter wsX0_requireQuarter) := goodIn_app (goodIn_of _ (by decide +kernel)) ggX0_ordersAgainst_X0_requireQuarter
set_option maxRecDepth 20000 in
theorem ggX0_ordersAgainst_X0_bars : GoodIn wsX0_ordersAgainst wsX0_bars := goodIn_r _ [19, 20, 21, 22, 23, 24, 25, 6, 26, 27, 28, 29, 30, 31, 32, 33, 34, 35, 36, 37, 38, 39, 40, 41, 42, 43, 44, 45, 46, 47, 48, 49, 50, 51, 52, 53, 54, 55, 56, 57, 58, 59, 60] (by decide +kernel) (by decide +kernel)
set_option maxRecDepth 20000 in
theorem gX0_ordersAgainst_X0_bars : GoodIn wsX0_ordersAgainst (wsV RX0 104 RX0 yX0_bars wsX0_bars) := goodIn_app (goodIn_of _ (by decide +kernel)) ggX0_ordersAgainst_X0_bars
theorem dX0_ordersAgainst_0 : decode cX0_ordersAgainst 0 = .ok (.aload_n 0, 1) := by decide +kernel
theorem dX0_ordersAgainst_1 : decode cX0_ordersAgainst 1 = .ok (.iload_n 1, 1) := by decide +kernel
theorem dX0_ordersAgainst_2 : decode cX0_ordersAgainst 2 = .ok (.invokevirtual 89, 3) := by decide +kernel
theorem dX0_ordersAgainst_5 : decode cX0_ordersAgainst 5 = .ok (.aload_n 0, 1) := by decide +kernel
theorem dX0_ordersAgainst_6 : decode cX0_ordersAgainst 6 = .ok (.iload_n 2, 1) := by decide +kernel
theorem dX0_ordersAgainst_7 : decode cX0_ordersAgainst 7 = .ok (.invokevirtual 64, 3) := by decide +kernel
theorem dX0_ordersAgainst_10 : decode cX0_ordersAgainst 10 = .ok (.iconst 0, 1) := by decide +kernel
theorem dX0_ordersAgainst_11 : decode cX0_ordersAgainst 11 = .ok (.istore_n 3, 1) := by decide +kernel
theorem dX0_ordersAgainst_12 : decode cX0_ordersAgainst 12 = .ok (.iconst 0, 1) := by decide +kernel
theorem dX0_ordersAgainst_13 : decode cX0_ordersAgainst 13 = .ok (.istore 4, 2) := by decide +kernel
theorem dX0_ordersAgainst_15 : decode cX0_ordersAgainst 15 = .ok (.iload 4, 2) := by decide +kernel
theorem dX0_ordersAgainst_17 : decode cX0_ordersAgainst 17 = .ok (.aload_n 0, 1) := by decide +kernel
theorem dX0_ordersAgainst_18 : decode cX0_ordersAgainst 18 = .ok (.getfield 74, 3) := by decide +kernel
theorem dX0_ordersAgainst_21 : decode cX0_ordersAgainst 21 = .ok (.if_icmp .ge 27, 3) := by decide +kernel
theorem dX0_ordersAgainst_24 : decode cX0_ordersAgainst 24 = .ok (.aload_n 0, 1) := by decide +kernel
theorem dX0_ordersAgainst_25 : decode cX0_ordersAgainst 25 = .ok (.iload 4, 2) := by decide +kernel
theorem dX0_ordersAgainst_27 : decode cX0_ordersAgainst 27 = .ok (.iload_n 1, 1) := by decide +kernel
theorem dX0_ordersAgainst_28 : decode cX0_ordersAgainst 28 = .ok (.iload_n 2, 1) := by decide +kernel
theorem dX0_ordersAgainst_29 : decode cX0_ordersAgainst 29 = .ok (.aload_n 0, 1) := by decide +kernel
theorem dX0_ordersAgainst_30 : decode cX0_ordersAgainst 30 = .ok (.getfield 101, 3) := by decide +kernel
theorem dX0_ordersAgainst_33 : decode cX0_ordersAgainst 33 = .ok (.invokevirtual 104, 3) := by decide +kernel
theorem dX0_ordersAgainst_36 : decode cX0_ordersAgainst 36 = .ok (.ifCond .eq 6, 3) := by decide +kernel
theorem dX0_ordersAgainst_39 : decode cX0_ordersAgainst 39 = .ok (.iinc 3 1, 3) := by decide +kernel
theorem dX0_ordersAgainst_42 : decode cX0_ordersAgainst 42 = .ok (.iinc 4 1, 3) := by decide +kernel
theorem dX0_ordersAgainst_45 : decode cX0_ordersAgainst 45 = .ok (.goto (-30), 3) := by decide +kernel
theorem dX0_ordersAgainst_48 : decode cX0_ordersAgainst 48 = .ok (.iload_n 3, 1) := by decide +kernel
theorem dX0_ordersAgainst_49 : decode cX0_ordersAgainst 49 = .ok (.ireturn, 1) := by decide +kernel
set_option maxRecDepth 20000 in
theorem ggX0_mayGo_X0_requirePerson : GoodIn wsX0_mayGo wsX0_requirePerson := goodIn_ca (goodIn_r _ [5, 6, 7, 8, 58, 59, 60, 61, 62, 63, 64, 65, 66, 67, 68, 69, 70, 71, 72, 73] (by decide +kernel) (by decide +kernel)) (goodIn_sub (fun _ h => List.mem_cons_of_mem _ (List.mem_append_right _ h)) (by decide +kernel))
set_option maxRecDepth 20000 in
theorem gX0_mayGo_X0_requirePerson : GoodIn wsX0_mayGo (wsV RX0 89 RX0 yX0_requirePerson wsX0_requirePerson) := goodIn_app (goodIn_of _ (by decide +kernel)) ggX0_mayGo_X0_requirePerson
set_option maxRecDepth 20000 in
theorem ggX0_mayGo_X0_requireQuarter : GoodIn wsX0_mayGo wsX0_requireQuarter := goodIn_ca (goodIn_r _ [12, 6, 7, 13, 58, 59, 60, 61, 62, 63, 64, 65, 66, 67, 68, 69, 70, 71, 72, 73] (by decide +kernel) (by decide +kernel)) (goodIn_sub (fun _ h => List.mem_cons_of_mem _ (List.mem_append_right _ h)) (by decide +kernel))
set_option maxRecDepth 20000 in
theorem gX0_mayGo_X0_requireQuarter : GoodIn wsX0_mayGo (wsV RX0 64 RX0 yX0_requireQuarter wsX0_requireQuarter) := goodIn_app (goodIn_of _ (by decide +kernel)) ggX0_mayGo_X0_requireQuarter
set_option maxRecDepth 20000 in
theorem ggX0_mayGo_X0_missing : GoodIn wsX0_mayGo wsX0_missing := goodIn_r _ [17, 18, 19, 20, 21, 22, 23, 24, 25, 26, 27, 28, 4, 29, 30, 31, 32, 33, 34, 35, 36, 37, 38, 39, 40, 41, 42, 43, 44, 45, 46, 47, 48, 49, 50, 51, 52, 53, 54, 55, 56, 57, 58, 59, 60, 61, 62, 63, 64, 65, 66, 67, 68, 69, 70, 71, 72, 73] (by decide +kernel) (by decide +kernel)
set_option maxRecDepth 20000 in
theorem gX0_mayGo_X0_missing : GoodIn wsX0_mayGo (wsV RX0 131 RX0 yX0_missing wsX0_missing) := goodIn_app (goodIn_of _ (by decide +kernel)) ggX0_mayGo_X0_missing
theorem dX0_mayGo_0 : decode cX0_mayGo 0 = .ok (.aload_n 0, 1) := by decide +kernel
theorem dX0_mayGo_1 : decode cX0_mayGo 1 = .ok (.iload_n 1, 1) := by decide +kernel
theorem dX0_mayGo_2 : decode cX0_mayGo 2 = .ok (.invokevirtual 89, 3) := by decide +kernel
theorem dX0_mayGo_5 : decode cX0_mayGo 5 = .ok (.aload_n 0, 1) := by decide +kernel
theorem dX0_mayGo_6 : decode cX0_mayGo 6 = .ok (.iload_n 2, 1) := by decide +kernel
theorem dX0_mayGo_7 : decode cX0_mayGo 7 = .ok (.invokevirtual 64, 3) := by decide +kernel
theorem dX0_mayGo_10 : decode cX0_mayGo 10 = .ok (.aload_n 0, 1) := by decide +kernel
theorem dX0_mayGo_11 : decode cX0_mayGo 11 = .ok (.iload_n 1, 1) := by decide +kernel
theorem dX0_mayGo_12 : decode cX0_mayGo 12 = .ok (.iload_n 2, 1) := by decide +kernel
theorem dX0_mayGo_13 : decode cX0_mayGo 13 = .ok (.iconst (-1), 1) := by decide +kernel
theorem dX0_mayGo_14 : decode cX0_mayGo 14 = .ok (.invokevirtual 131, 3) := by decide +kernel
theorem dX0_mayGo_17 : decode cX0_mayGo 17 = .ok (.ifCond .ne 7, 3) := by decide +kernel
theorem dX0_mayGo_20 : decode cX0_mayGo 20 = .ok (.iconst 1, 1) := by decide +kernel
theorem dX0_mayGo_21 : decode cX0_mayGo 21 = .ok (.goto 4, 3) := by decide +kernel
theorem dX0_mayGo_24 : decode cX0_mayGo 24 = .ok (.iconst 0, 1) := by decide +kernel
theorem dX0_mayGo_25 : decode cX0_mayGo 25 = .ok (.ireturn, 1) := by decide +kernel
set_option maxRecDepth 20000 in
theorem ggX0_stampsMissing_X0_requirePerson : GoodIn wsX0_stampsMissing wsX0_requirePerson := goodIn_ca (goodIn_r _ [5, 6, 7, 8, 58, 59, 60, 61, 62, 63, 64, 65, 66, 67, 68, 69, 70, 71, 72, 73] (by decide +kernel) (by decide +kernel)) (goodIn_sub (fun _ h => List.mem_cons_of_mem _ (List.mem_append_right _ h)) (by decide +kernel))
set_option maxRecDepth 20000 in
theorem gX0_stampsMissing_X0_requirePerson : GoodIn wsX0_stampsMissing (wsV RX0 89 RX0 yX0_requirePerson wsX0_requirePerson) := goodIn_app (goodIn_of _ (by decide +kernel)) ggX0_stampsMissing_X0_requirePerson
set_option maxRecDepth 20000 in
theorem ggX0_stampsMissing_X0_requireQuarter : GoodIn wsX0_stampsMissing wsX0_requireQuarter := goodIn_ca (goodIn_r _ [12, 6, 7, 13, 58, 59, 60, 61, 62, 63, 64, 65, 66, 67, 68, 69, 70, 71, 72, 73] (by decide +kernel) (by decide +kernel)) (goodIn_sub (fun _ h => List.mem_cons_of_mem _ (List.mem_append_right _ h)) (by decide +kernel))
set_option maxRecDepth 20000 in
theorem gX0_stampsMissing_X0_requireQuarter : GoodIn wsX0_stampsMissing (wsV RX0 64 RX0 yX0_requireQuarter wsX0_requireQuarter) := goodIn_app (goodIn_of _ (by decide +kernel)) ggX0_stampsMissing_X0_requireQuarter
set_option maxRecDepth 20000 in
theorem ggX0_stampsMissing_X0_missing : GoodIn wsX0_stampsMissing wsX0_missing := goodIn_r _ [17, 18, 19, 20, 21, 22, 23, 24, 25, 26, 27, 28, 4, 29, 30, 31, 32, 33, 34, 35, 36, 37, 38, 39, 40, 41, 42, 43, 44, 45, 46, 47, 48, 49, 50, 51, 52, 53, 54, 55, 56, 57, 58, 59, 60, 61, 62, 63, 64, 65, 66, 67, 68, 69, 70, 71, 72, 73] (by decide +kernel) (by decide +kernel)
set_option maxRecDepth 20000 in
theorem gX0_stampsMissing_X0_missing : GoodIn wsX0_stampsMissing (wsV RX0 131 RX0 yX0_missing wsX0_missing) := goodIn_app (goodIn_of _ (by decide +kernel)) ggX0_stampsMissing_X0_missing
theorem dX0_stampsMissing_0 : decode cX0_stampsMissing 0 = .ok (.aload_n 0, 1) := by decide +kernel
theorem dX0_stampsMissing_1 : decode cX0_stampsMissing 1 = .ok (.iload_n 1, 1) := by decide +kernel
theorem dX0_stampsMissing_2 : decode cX0_stampsMissing 2 = .ok (.invokevirtual 89, 3) := by decide +kernel
theorem dX0_stampsMissing_5 : decode cX0_stampsMissing 5 = .ok (.aload_n 0, 1) := by decide +kernel
theorem dX0_stampsMissing_6 : decode cX0_stampsMissing 6 = .ok (.iload_n 2, 1) := by decide +kernel
theorem dX0_stampsMissing_7 : decode cX0_stampsMissing 7 = .ok (.invokevirtual 64, 3) := by decide +kernel
theorem dX0_stampsMissing_10 : decode cX0_stampsMissing 10 = .ok (.aload_n 0, 1) := by decide +kernel
theorem dX0_stampsMissing_11 : decode cX0_stampsMissing 11 = .ok (.iload_n 1, 1) := by decide +kernel
theorem dX0_stampsMissing_12 : decode cX0_stampsMissing 12 = .ok (.iload_n 2, 1) := by decide +kernel
theorem dX0_stampsMissing_13 : decode cX0_stampsMissing 13 = .ok (.iconst (-1), 1) := by decide +kernel
theorem dX0_stampsMissing_14 : decode cX0_stampsMissing 14 = .ok (.invokevirtual 131, 3) := by decide +kernel
theorem dX0_stampsMissing_17 : decode cX0_stampsMissing 17 = .ok (.ireturn, 1) := by decide +kernel
theorem dX0_quarters_0 : decode cX0_quarters 0 = .ok (.aload_n 0, 1) := by decide +kernel
theorem dX0_quarters_1 : decode cX0_quarters 1 = .ok (.getfield 44, 3) := by decide +kernel
theorem dX0_quarters_4 : decode cX0_quarters 4 = .ok (.ireturn, 1) := by decide +kernel
theorem dX0_orders_0 : decode cX0_orders 0 = .ok (.aload_n 0, 1) := by decide +kernel
theorem dX0_orders_1 : decode cX0_orders 1 = .ok (.getfield 74, 3) := by decide +kernel
theorem dX0_orders_4 : decode cX0_orders 4 = .ok (.ireturn, 1) := by decide +kernel
theorem dX0_people_0 : decode cX0_people 0 = .ok (.aload_n 0, 1) := by decide +kernel
theorem dX0_people_1 : decode cX0_people 1 = .ok (.getfield 59, 3) := by decide +kernel
theorem dX0_people_4 : decode cX0_people 4 = .ok (.ireturn, 1) := by decide +kernel
set_option maxRecDepth 20000 in
theorem ggX0_ordersOn_X0_isOnAt : GoodIn wsX0_ordersOn wsX0_isOnAt := goodIn_r _ [7, 8, 9, 10, 11, 6, 12, 13, 14, 15, 16, 17, 18, 19, 20, 21, 22, 23, 24, 25, 26, 27, 28, 29, 30, 31, 32, 33, 34, 35, 36, 37, 38, 39, 40, 41] (by decide +kernel) (by decide +kernel)
set_option maxRecDepth 20000 in
theorem gX0_ordersOn_X0_isOnAt : GoodIn wsX0_ordersOn (wsV RX0 128 RX0 yX0_isOnAt wsX0_isOnAt) := goodIn_app (goodIn_of _ (by decide +kernel)) ggX0_ordersOn_X0_isOnAt
theorem dX0_ordersOn_0 : decode cX0_ordersOn 0 = .ok (.iconst 0, 1) := by decide +kernel
theorem dX0_ordersOn_1 : decode cX0_ordersOn 1 = .ok (.istore_n 1, 1) := by decide +kernel
theorem dX0_ordersOn_2 : decode cX0_ordersOn 2 = .ok (.iconst 0, 1) := by decide +kernel
theorem dX0_ordersOn_3 : decode cX0_ordersOn 3 = .ok (.istore_n 2, 1) := by decide +kernel
theorem dX0_ordersOn_4 : decode cX0_ordersOn 4 = .ok (.iload_n 2, 1) := by decide +kernel
theorem dX0_ordersOn_5 : decode cX0_ordersOn 5 = .ok (.aload_n 0, 1) := by decide +kernel
theorem dX0_ordersOn_6 : decode cX0_ordersOn 6 = .ok (.getfield 74, 3) := by decide +kernel
theorem dX0_ordersOn_9 : decode cX0_ordersOn 9 = .ok (.if_icmp .ge 24, 3) := by decide +kernel
theorem dX0_ordersOn_12 : decode cX0_ordersOn 12 = .ok (.aload_n 0, 1) := by decide +kernel
theorem dX0_ordersOn_13 : decode cX0_ordersOn 13 = .ok (.iload_n 2, 1) := by decide +kernel
theorem dX0_ordersOn_14 : decode cX0_ordersOn 14 = .ok (.aload_n 0, 1) := by decide +kernel
theorem dX0_ordersOn_15 : decode cX0_ordersOn 15 = .ok (.getfield 101, 3) := by decide +kernel
theorem dX0_ordersOn_18 : decode cX0_ordersOn 18 = .ok (.invokevirtual 128, 3) := by decide +kernel
theorem dX0_ordersOn_21 : decode cX0_ordersOn 21 = .ok (.ifCond .eq 6, 3) := by decide +kernel
theorem dX0_ordersOn_24 : decode cX0_ordersOn 24 = .ok (.iinc 1 1, 3) := by decide +kernel
theorem dX0_ordersOn_27 : decode cX0_ordersOn 27 = .ok (.iinc 2 1, 3) := by decide +kernel
theorem dX0_ordersOn_30 : decode cX0_ordersOn 30 = .ok (.goto (-26), 3) := by decide +kernel
theorem dX0_ordersOn_33 : decode cX0_ordersOn 33 = .ok (.iload_n 1, 1) := by decide +kernel
theorem dX0_ordersOn_34 : decode cX0_ordersOn 34 = .ok (.ireturn, 1) := by decide +kernel
theorem dX0_shift_0 : decode cX0_shift 0 = .ok (.aload_n 0, 1) := by decide +kernel
theorem dX0_shift_1 : decode cX0_shift 1 = .ok (.getfield 86, 3) := by decide +kernel
theorem dX0_shift_4 : decode cX0_shift 4 = .ok (.ireturn, 1) := by decide +kernel
theorem dX0_allOwe_0 : decode cX0_allOwe 0 = .ok (.iconst 0, 1) := by decide +kernel
theorem dX0_allOwe_1 : decode cX0_allOwe 1 = .ok (.istore_n 1, 1) := by decide +kernel
theorem dX0_allOwe_2 : decode cX0_allOwe 2 = .ok (.iconst 0, 1) := by decide +kernel
theorem dX0_allOwe_3 : decode cX0_allOwe 3 = .ok (.istore_n 2, 1) := by decide +kernel
theorem dX0_allOwe_4 : decode cX0_allOwe 4 = .ok (.iload_n 2, 1) := by decide +kernel
theorem dX0_allOwe_5 : decode cX0_allOwe 5 = .ok (.aload_n 0, 1) := by decide +kernel
theorem dX0_allOwe_6 : decode cX0_allOwe 6 = .ok (.getfield 59, 3) := by decide +kernel
theorem dX0_allOwe_9 : decode cX0_allOwe 9 = .ok (.if_icmp .ge 18, 3) := by decide +kernel
theorem dX0_allOwe_12 : decode cX0_allOwe 12 = .ok (.iload_n 1, 1) := by decide +kernel
theorem dX0_allOwe_13 : decode cX0_allOwe 13 = .ok (.aload_n 0, 1) := by decide +kernel
theorem dX0_allOwe_14 : decode cX0_allOwe 14 = .ok (.getfield 35, 3) := by decide +kernel
theorem dX0_allOwe_17 : decode cX0_allOwe 17 = .ok (.iload_n 2, 1) := by decide +kernel
theorem dX0_allOwe_18 : decode cX0_allOwe 18 = .ok (.iaload, 1) := by decide +kernel
theorem dX0_allOwe_19 : decode cX0_allOwe 19 = .ok (.iadd, 1) := by decide +kernel
theorem dX0_allOwe_20 : decode cX0_allOwe 20 = .ok (.istore_n 1, 1) := by decide +kernel
theorem dX0_allOwe_21 : decode cX0_allOwe 21 = .ok (.iinc 2 1, 3) := by decide +kernel
theorem dX0_allOwe_24 : decode cX0_allOwe 24 = .ok (.goto (-20), 3) := by decide +kernel
theorem dX0_allOwe_27 : decode cX0_allOwe 27 = .ok (.iload_n 1, 1) := by decide +kernel
theorem dX0_allOwe_28 : decode cX0_allOwe 28 = .ok (.ireturn, 1) := by decide +kernel
set_option maxRecDepth 20000 in
theorem ggX0_stampsUsed_X0_requireColour : GoodIn wsX0_stampsUsed wsX0_requireColour := goodIn_ca (goodIn_r _ [5, 6, 7] (by decide +kernel) (by decide +kernel)) (goodIn_sub (fun _ h => List.mem_cons_of_mem _ (List.mem_append_right _ h)) (by decide +kernel))
set_option maxRecDepth 20000 in
theorem gX0_stampsUsed_X0_requireColour : GoodIn wsX0_stampsUsed (va_wsS RX0 67 yX0_requireColour wsX0_requireColour) := goodIn_app (goodIn_of _ (by decide +kernel)) ggX0_stampsUsed_X0_requireColour
theorem dX0_stampsUsed_0 : decode cX0_stampsUsed 0 = .ok (.iload_n 1, 1) := by decide +kernel
theorem dX0_stampsUsed_1 : decode cX0_stampsUsed 1 = .ok (.invokestatic 67, 3) := by decide +kernel
theorem dX0_stampsUsed_4 : decode cX0_stampsUsed 4 = .ok (.aload_n 0, 1) := by decide +kernel
theorem dX0_stampsUsed_5 : decode cX0_stampsUsed 5 = .ok (.getfield 41, 3) := by decide +kernel
theorem dX0_stampsUsed_8 : decode cX0_stampsUsed 8 = .ok (.iload_n 1, 1) := by decide +kernel
theorem dX0_stampsUsed_9 : decode cX0_stampsUsed 9 = .ok (.iaload, 1) := by decide +kernel
theorem dX0_stampsUsed_10 : decode cX0_stampsUsed 10 = .ok (.ireturn, 1) := by decide +kernel
set_option maxRecDepth 20000 in
theorem ggX0_halfHoursUntilFree_X0_requirePerson : GoodIn wsX0_halfHoursUntilFree wsX0_requirePerson := goodIn_ca (goodIn_r _ [6, 7, 8, 9, 49, 50, 51, 52, 53, 54, 55, 56, 57, 58, 59, 60, 61, 62, 63, 64] (by decide +kernel) (by decide +kernel)) (goodIn_sub (fun _ h => List.mem_cons_of_mem _ (List.mem_append_right _ h)) (by decide +kernel))
set_option maxRecDepth 20000 in
theorem gX0_halfHoursUntilFree_X0_requirePerson : GoodIn wsX0_halfHoursUntilFree (wsV RX0 89 RX0 yX0_requirePerson wsX0_requirePerson) := goodIn_app (goodIn_of _ (by decide +kernel)) ggX0_halfHoursUntilFree_X0_requirePerson
set_option maxRecDepth 20000 in
theorem ggX0_halfHoursUntilFree_X0_requireQuarter : GoodIn wsX0_halfHoursUntilFree wsX0_requireQuarter := goodIn_ca (goodIn_r _ [13, 7, 8, 14, 49, 50, 51, 52, 53, 54, 55, 56, 57, 58, 59, 60, 61, 62, 63, 64] (by decide +kernel) (by decide +kernel)) (goodIn_sub (fun _ h => List.mem_cons_of_mem _ (List.mem_append_right _ h)) (by decide +kernel))
set_option maxRecDepth 20000 in
theorem gX0_halfHoursUntilFree_X0_requireQuarter : GoodIn wsX0_halfHoursUntilFree (wsV RX0 64 RX0 yX0_requireQuarter wsX0_requireQuarter) := goodIn_app (goodIn_of _ (by decide +kernel)) ggX0_halfHoursUntilFree_X0_requireQuarter
set_option maxRecDepth 20000 in
theorem ggX0_halfHoursUntilFree_X0_isFreeAt : GoodIn wsX0_halfHoursUntilFree wsX0_isFreeAt := goodIn_r _ [18, 19, 20, 21, 22, 5, 23, 24, 25, 26, 27, 28, 29, 30, 31, 32, 33, 34, 35, 36, 37, 38, 39, 40, 41, 42, 43, 44, 45, 46, 47, 48, 49, 50, 51, 52, 53, 54, 55, 56, 57, 58, 59, 60, 61, 62, 63, 64] (by decide +kernel) (by decide +kernel)
set_option maxRecDepth 20000 in
theorem gX0_halfHoursUntilFree_X0_isFreeAt : GoodIn wsX0_halfHoursUntilFree (wsV RX0 135 RX0 yX0_isFreeAt wsX0_isFreeAt) := goodIn_app (goodIn_of _ (by decide +kernel)) ggX0_halfHoursUntilFree_X0_isFreeAt
theorem dX0_halfHoursUntilFree_0 : decode cX0_halfHoursUntilFree 0 = .ok (.aload_n 0, 1) := by decide +kernel
theorem dX0_halfHoursUntilFree_1 : decode cX0_halfHoursUntilFree 1 = .ok (.iload_n 1, 1) := by decide +kernel
theorem dX0_halfHoursUntilFree_2 : decode cX0_halfHoursUntilFree 2 = .ok (.invokevirtual 89, 3) := by decide +kernel
theorem dX0_halfHoursUntilFree_5 : decode cX0_halfHoursUntilFree 5 = .ok (.aload_n 0, 1) := by decide +kernel
theorem dX0_halfHoursUntilFree_6 : decode cX0_halfHoursUntilFree 6 = .ok (.iload_n 2, 1) := by decide +kernel
theorem dX0_halfHoursUntilFree_7 : decode cX0_halfHoursUntilFree 7 = .ok (.invokevirtual 64, 3) := by decide +kernel
theorem dX0_halfHoursUntilFree_10 : decode cX0_halfHoursUntilFree 10 = .ok (.iconst 0, 1) := by decide +kernel
theorem dX0_halfHoursUntilFree_11 : decode cX0_halfHoursUntilFree 11 = .ok (.istore_n 3, 1) := by decide +kernel
theorem dX0_halfHoursUntilFree_12 : decode cX0_halfHoursUntilFree 12 = .ok (.iload_n 3, 1) := by decide +kernel
theorem dX0_halfHoursUntilFree_13 : decode cX0_halfHoursUntilFree 13 = .ok (.bipush 48, 2) := by decide +kernel
theorem dX0_halfHoursUntilFree_15 : decode cX0_halfHoursUntilFree 15 = .ok (.if_icmp .gt 26, 3) := by decide +kernel
theorem dX0_halfHoursUntilFree_18 : decode cX0_halfHoursUntilFree 18 = .ok (.aload_n 0, 1) := by decide +kernel
theorem dX0_halfHoursUntilFree_19 : decode cX0_halfHoursUntilFree 19 = .ok (.iload_n 1, 1) := by decide +kernel
theorem dX0_halfHoursUntilFree_20 : decode cX0_halfHoursUntilFree 20 = .ok (.iload_n 2, 1) := by decide +kernel
theorem dX0_halfHoursUntilFree_21 : decode cX0_halfHoursUntilFree 21 = .ok (.aload_n 0, 1) := by decide +kernel
theorem dX0_halfHoursUntilFree_22 : decode cX0_halfHoursUntilFree 22 = .ok (.getfield 101, 3) := by decide +kernel
theorem dX0_halfHoursUntilFree_25 : decode cX0_halfHoursUntilFree 25 = .ok (.iload_n 3, 1) := by decide +kernel
theorem dX0_halfHoursUntilFree_26 : decode cX0_halfHoursUntilFree 26 = .ok (.iadd, 1) := by decide +kernel
theorem dX0_halfHoursUntilFree_27 : decode cX0_halfHoursUntilFree 27 = .ok (.invokevirtual 135, 3) := by decide +kernel
theorem dX0_halfHoursUntilFree_30 : decode cX0_halfHoursUntilFree 30 = .ok (.ifCond .eq 5, 3) := by decide +kernel
theorem dX0_halfHoursUntilFree_33 : decode cX0_halfHoursUntilFree 33 = .ok (.iload_n 3, 1) := by decide +kernel
theorem dX0_halfHoursUntilFree_34 : decode cX0_halfHoursUntilFree 34 = .ok (.ireturn, 1) := by decide +kernel
theorem dX0_halfHoursUntilFree_35 : decode cX0_halfHoursUntilFree 35 = .ok (.iinc 3 1, 3) := by decide +kernel
theorem dX0_halfHoursUntilFree_38 : decode cX0_halfHoursUntilFree 38 = .ok (.goto (-26), 3) := by decide +kernel
theorem dX0_halfHoursUntilFree_41 : decode cX0_halfHoursUntilFree 41 = .ok (.iconst (-1), 1) := by decide +kernel
theorem dX0_halfHoursUntilFree_42 : decode cX0_halfHoursUntilFree 42 = .ok (.ireturn, 1) := by decide +kernel
set_option maxRecDepth 20000 in
theorem ggX0_halfHoursOn_X0_requireOrder : GoodIn wsX0_halfHoursOn wsX0_requireOrder := goodIn_ca (goodIn_r _ [6, 7, 8, 9, 27, 28, 29, 30, 31, 32, 33, 34, 35, 36, 37, 38, 39, 40, 41, 42] (by decide +kernel) (by decide +kernel)) (goodIn_sub (fun _ h => List.mem_cons_of_mem _ (List.mem_append_right _ h)) (by decide +kernel))
set_option maxRecDepth 20000 in
theorem gX0_halfHoursOn_X0_requireOrder : GoodIn wsX0_halfHoursOn (wsV RX0 79 RX0 yX0_requireOrder wsX0_requireOrder) := goodIn_app (goodIn_of _ (by decide +kernel)) ggX0_halfHoursOn_X0_requireOrder
set_option maxRecDepth 20000 in
theorem ggX0_halfHoursOn_X0_isInHours : GoodIn wsX0_halfHoursOn wsX0_isInHours := goodIn_r _ [13, 14, 15, 16, 17, 18, 5, 19, 20, 21, 22, 23, 24, 25, 26, 27, 28, 29, 30, 31, 32, 33, 34, 35, 36, 37, 38, 39, 40, 41, 42] (by decide +kernel) (by decide +kernel)
set_option maxRecDepth 20000 in
theorem gX0_halfHoursOn_X0_isInHours : GoodIn wsX0_halfHoursOn (wsV RX0 139 RX0 yX0_isInHours wsX0_isInHours) := goodIn_app (goodIn_of _ (by decide +kernel)) ggX0_halfHoursOn_X0_isInHours
theorem dX0_halfHoursOn_0 : decode cX0_halfHoursOn 0 = .ok (.aload_n 0, 1) := by decide +kernel
theorem dX0_halfHoursOn_1 : decode cX0_halfHoursOn 1 = .ok (.iload_n 1, 1) := by decide +kernel
theorem dX0_halfHoursOn_2 : decode cX0_halfHoursOn 2 = .ok (.invokevirtual 79, 3) := by decide +kernel
theorem dX0_halfHoursOn_5 : decode cX0_halfHoursOn 5 = .ok (.iconst 0, 1) := by decide +kernel
theorem dX0_halfHoursOn_6 : decode cX0_halfHoursOn 6 = .ok (.istore_n 2, 1) := by decide +kernel
theorem dX0_halfHoursOn_7 : decode cX0_halfHoursOn 7 = .ok (.iconst 0, 1) := by decide +kernel
theorem dX0_halfHoursOn_8 : decode cX0_halfHoursOn 8 = .ok (.istore_n 3, 1) := by decide +kernel
theorem dX0_halfHoursOn_9 : decode cX0_halfHoursOn 9 = .ok (.iload_n 3, 1) := by decide +kernel
theorem dX0_halfHoursOn_10 : decode cX0_halfHoursOn 10 = .ok (.bipush 48, 2) := by decide +kernel
theorem dX0_halfHoursOn_12 : decode cX0_halfHoursOn 12 = .ok (.if_icmp .ge 26, 3) := by decide +kernel
theorem dX0_halfHoursOn_15 : decode cX0_halfHoursOn 15 = .ok (.aload_n 0, 1) := by decide +kernel
theorem dX0_halfHoursOn_16 : decode cX0_halfHoursOn 16 = .ok (.iload_n 1, 1) := by decide +kernel
theorem dX0_halfHoursOn_17 : decode cX0_halfHoursOn 17 = .ok (.aload_n 0, 1) := by decide +kernel
theorem dX0_halfHoursOn_18 : decode cX0_halfHoursOn 18 = .ok (.getfield 101, 3) := by decide +kernel
theorem dX0_halfHoursOn_21 : decode cX0_halfHoursOn 21 = .ok (.iload_n 3, 1) := by decide +kernel
theorem dX0_halfHoursOn_22 : decode cX0_halfHoursOn 22 = .ok (.iadd, 1) := by decide +kernel
theorem dX0_halfHoursOn_23 : decode cX0_halfHoursOn 23 = .ok (.invokevirtual 139, 3) := by decide +kernel
theorem dX0_halfHoursOn_26 : decode cX0_halfHoursOn 26 = .ok (.ifCond .eq 6, 3) := by decide +kernel
theorem dX0_halfHoursOn_29 : decode cX0_halfHoursOn 29 = .ok (.iinc 2 1, 3) := by decide +kernel
theorem dX0_halfHoursOn_32 : decode cX0_halfHoursOn 32 = .ok (.iinc 3 1, 3) := by decide +kernel
theorem dX0_halfHoursOn_35 : decode cX0_halfHoursOn 35 = .ok (.goto (-26), 3) := by decide +kernel
theorem dX0_halfHoursOn_38 : decode cX0_halfHoursOn 38 = .ok (.iload_n 2, 1) := by decide +kernel
theorem dX0_halfHoursOn_39 : decode cX0_halfHoursOn 39 = .ok (.ireturn, 1) := by decide +kernel
set_option maxRecDepth 20000 in
theorem ggX0_bestLift_X0_pairsFreedBy : GoodIn wsX0_bestLift wsX0_pairsFreedBy := goodIn_r _ [6, 7, 8, 9, 10, 11, 5, 12, 1, 13, 14, 15, 16, 17, 18, 19, 20, 21, 22, 23, 24, 25, 26, 27, 28, 29, 30, 31, 32, 33, 34, 35, 36, 37, 38, 39, 40, 41, 42, 43, 44, 45, 46, 47, 48, 49, 50, 51, 52, 53, 54, 55, 56, 57, 58, 59, 60, 61, 62, 63, 64, 65, 66] (by decide +kernel) (by decide +kernel)
set_option maxRecDepth 20000 in
theorem gX0_bestLift_X0_pairsFreedBy : GoodIn wsX0_bestLift (wsV RX0 142 RX0 yX0_pairsFreedBy wsX0_pairsFreedBy) := goodIn_app (goodIn_of _ (by decide +kernel)) ggX0_bestLift_X0_pairsFreedBy
theorem dX0_bestLift_0 : decode cX0_bestLift 0 = .ok (.iconst (-1), 1) := by decide +kernel
theorem dX0_bestLift_1 : decode cX0_bestLift 1 = .ok (.istore_n 1, 1) := by decide +kernel
theorem dX0_bestLift_2 : decode cX0_bestLift 2 = .ok (.iconst 0, 1) := by decide +kernel
theorem dX0_bestLift_3 : decode cX0_bestLift 3 = .ok (.istore_n 2, 1) := by decide +kernel
theorem dX0_bestLift_4 : decode cX0_bestLift 4 = .ok (.iconst 0, 1) := by decide +kernel
theorem dX0_bestLift_5 : decode cX0_bestLift 5 = .ok (.istore_n 3, 1) := by decide +kernel
theorem dX0_bestLift_6 : decode cX0_bestLift 6 = .ok (.iload_n 3, 1) := by decide +kernel
theorem dX0_bestLift_7 : decode cX0_bestLift 7 = .ok (.aload_n 0, 1) := by decide +kernel
theorem dX0_bestLift_8 : decode cX0_bestLift 8 = .ok (.getfield 74, 3) := by decide +kernel
theorem dX0_bestLift_11 : decode cX0_bestLift 11 = .ok (.if_icmp .ge 27, 3) := by decide +kernel
theorem dX0_bestLift_14 : decode cX0_bestLift 14 = .ok (.aload_n 0, 1) := by decide +kernel
theorem dX0_bestLift_15 : decode cX0_bestLift 15 = .ok (.iload_n 3, 1) := by decide +kernel
theorem dX0_bestLift_16 : decode cX0_bestLift 16 = .ok (.invokevirtual 142, 3) := by decide +kernel
theorem dX0_bestLift_19 : decode cX0_bestLift 19 = .ok (.istore 4, 2) := by decide +kernel
theorem dX0_bestLift_21 : decode cX0_bestLift 21 = .ok (.iload 4, 2) := by decide +kernel
theorem dX0_bestLift_23 : decode cX0_bestLift 23 = .ok (.iload_n 2, 1) := by decide +kernel
theorem dX0_bestLift_24 : decode cX0_bestLift 24 = .ok (.if_icmp .le 8, 3) := by decide +kernel
theorem dX0_bestLift_27 : decode cX0_bestLift 27 = .ok (.iload 4, 2) := by decide +kernel
theorem dX0_bestLift_29 : decode cX0_bestLift 29 = .ok (.istore_n 2, 1) := by decide +kernel
theorem dX0_bestLift_30 : decode cX0_bestLift 30 = .ok (.iload_n 3, 1) := by decide +kernel
theorem dX0_bestLift_31 : decode cX0_bestLift 31 = .ok (.istore_n 1, 1) := by decide +kernel
theorem dX0_bestLift_32 : decode cX0_bestLift 32 = .ok (.iinc 3 1, 3) := by decide +kernel
theorem dX0_bestLift_35 : decode cX0_bestLift 35 = .ok (.goto (-29), 3) := by decide +kernel
theorem dX0_bestLift_38 : decode cX0_bestLift 38 = .ok (.iload_n 1, 1) := by decide +kernel
theorem dX0_bestLift_39 : decode cX0_bestLift 39 = .ok (.ireturn, 1) := by decide +kernel
set_option maxRecDepth 20000 in
theorem ggX0_meanDebt_X0_allOwe : GoodIn wsX0_meanDebt wsX0_allOwe := goodIn_r _ [6, 1, 7, 8, 9, 10, 11, 12, 13, 14, 15, 16, 17, 18, 19, 20, 21, 22, 23] (by decide +kernel) (by decide +kernel)
set_option maxRecDepth 20000 in
theorem gX0_meanDebt_X0_allOwe : GoodIn wsX0_meanDebt (wsV RX0 145 RX0 yX0_allOwe wsX0_allOwe) := goodIn_app (goodIn_of _ (by decide +kernel)) ggX0_meanDebt_X0_allOwe
theorem dX0_meanDebt_0 : decode cX0_meanDebt 0 = .ok (.aload_n 0, 1) := by decide +kernel
theorem dX0_meanDebt_1 : decode cX0_meanDebt 1 = .ok (.getfield 59, 3) := by decide +kernel
theorem dX0_meanDebt_4 : decode cX0_meanDebt 4 = .ok (.ifCond .ne 5, 3) := by decide +kernel
theorem dX0_meanDebt_7 : decode cX0_meanDebt 7 = .ok (.dconst 0, 1) := by decide +kernel
theorem dX0_meanDebt_8 : decode cX0_meanDebt 8 = .ok (.dreturn, 1) := by decide +kernel
theorem dX0_meanDebt_9 : decode cX0_meanDebt 9 = .ok (.aload_n 0, 1) := by decide +kernel
theorem dX0_meanDebt_10 : decode cX0_meanDebt 10 = .ok (.invokevirtual 145, 3) := by decide +kernel
theorem dX0_meanDebt_13 : decode cX0_meanDebt 13 = .ok (.i2d, 1) := by decide +kernel
theorem dX0_meanDebt_14 : decode cX0_meanDebt 14 = .ok (.aload_n 0, 1) := by decide +kernel
theorem dX0_meanDebt_15 : decode cX0_meanDebt 15 = .ok (.getfield 59, 3) := by decide +kernel
theorem dX0_meanDebt_18 : decode cX0_meanDebt 18 = .ok (.i2d, 1) := by decide +kernel
theorem dX0_meanDebt_19 : decode cX0_meanDebt 19 = .ok (.ddiv, 1) := by decide +kernel
theorem dX0_meanDebt_20 : decode cX0_meanDebt 20 = .ok (.dreturn, 1) := by decide +kernel
set_option maxRecDepth 20000 in
theorem ggX0_digest_X0_day : GoodIn wsX0_digest wsX0_day := goodIn_r _ [11, 12, 110, 111, 112, 113, 114, 115, 116, 117, 118, 119, 120, 121, 122, 123, 124, 125] (by decide +kernel) (by decide +kernel)
set_option maxRecDepth 20000 in
theorem gX0_digest_X0_day : GoodIn wsX0_digest (wsV RX0 118 RX0 yX0_day wsX0_day) := goodIn_app (goodIn_of _ (by decide +kernel)) ggX0_digest_X0_day
set_option maxRecDepth 20000 in
theorem ggX0_digest_X0_fold : GoodIn wsX0_digest wsX0_fold := goodIn_r _ [15, 16] (by decide +kernel) (by decide +kernel)
set_option maxRecDepth 20000 in
theorem gX0_digest_X0_fold : GoodIn wsX0_digest (va_wsS RX0 150 yX0_fold wsX0_fold) := goodIn_app (goodIn_of _ (by decide +kernel)) ggX0_digest_X0_fold
set_option maxRecDepth 20000 in
theorem ggX0_digest_X0_halfHour : GoodIn wsX0_digest wsX0_halfHour := goodIn_r _ [20, 12, 110, 111, 112, 113, 114, 115, 116, 117, 118, 119, 120, 121, 122, 123, 124, 125] (by decide +kernel) (by decide +kernel)
set_option maxRecDepth 20000 in
theorem gX0_digest_X0_halfHour : GoodIn wsX0_digest (wsV RX0 154 RX0 yX0_halfHour wsX0_halfHour) := goodIn_app (goodIn_of _ (by decide +kernel)) ggX0_digest_X0_halfHour
set_option maxRecDepth 20000 in
theorem ggX0_digest_X0_duskIn : GoodIn wsX0_digest wsX0_duskIn := goodIn_ca (goodIn_r _ [24, 25, 26, 10, 27, 28, 29, 7, 8, 9, 11, 12, 30, 31, 32, 33, 5, 34, 35, 36, 110, 111, 112, 113, 114, 115, 116, 117, 118, 119, 120, 121, 122, 123, 124, 125] (by decide +kernel) (by decide +kernel)) (goodIn_sub (fun _ h => List.mem_cons_of_mem _ (List.mem_append_left _ (List.mem_append_right _ h))) (by decide +kernel))
set_option maxRecDepth 20000 in
theorem gX0_digest_X0_duskIn : GoodIn wsX0_digest (wsV RX0 157 RX0 yX0_duskIn wsX0_duskIn) := goodIn_app (goodIn_of _ (by decide +kernel)) ggX0_digest_X0_duskIn
set_option maxRecDepth 20000 in
theorem ggX0_digest_X0_dawnIn : GoodIn wsX0_digest wsX0_dawnIn := goodIn_ca (goodIn_r _ [40, 25, 26, 10, 27, 28, 29, 7, 8, 9, 11, 12, 41, 42, 43, 34, 35, 36, 110, 111, 112, 113, 114, 115, 116, 117, 118, 119, 120, 121, 122, 123, 124, 125] (by decide +kernel) (by decide +kernel)) (goodIn_sub (fun _ h => List.mem_cons_of_mem _ (List.mem_append_left _ (List.mem_append_right _ h))) (by decide +kernel))
set_option maxRecDepth 20000 in
theorem gX0_digest_X0_dawnIn : GoodIn wsX0_digest (wsV RX0 160 RX0 yX0_dawnIn wsX0_dawnIn) := goodIn_app (goodIn_of _ (by decide +kernel)) ggX0_digest_X0_dawnIn
set_option maxRecDepth 20000 in
theorem ggX0_digest_X0_ordersOn : GoodIn wsX0_digest wsX0_ordersOn := goodIn_r _ [47, 3, 12, 48, 49, 50, 10, 51, 52, 53, 54, 55, 56, 57, 58, 30, 31, 32, 33, 5, 34, 35, 36, 41, 42, 43, 110, 111, 112, 113, 114, 115, 116, 117, 118, 119, 120, 121, 122, 123, 124, 125] (by decide +kernel) (by decide +kernel)
set_option maxRecDepth 20000 in
theorem gX0_digest_X0_ordersOn : GoodIn wsX0_digest (wsV RX0 163 RX0 yX0_ordersOn wsX0_ordersOn) := goodIn_app (goodIn_of _ (by decide +kernel)) ggX0_digest_X0_ordersOn
set_option maxRecDepth 20000 in
theorem ggX0_digest_X0_foldOrder : GoodIn wsX0_digest wsX0_foldOrder := goodIn_ca (goodIn_r _ [62, 63, 64, 52, 12, 13, 14, 10, 15, 16, 65, 66, 67, 48, 49, 50, 51, 53, 54, 55, 56, 57, 58, 30, 31, 32, 33, 5, 34, 35, 36, 41, 42, 43, 68, 69, 70, 71, 4, 72, 73, 74, 75, 76, 77, 3, 78, 79, 80, 81, 82, 83, 84, 85, 86, 87, 110, 111, 112, 113, 114, 115, 116, 117, 118, 119, 120, 121, 122, 123, 124, 125] (by decide +kernel) (by decide +kernel)) (goodIn_sub (fun _ h => List.mem_cons_of_mem _ (List.mem_append_right _ h)) (by decide +kernel))
set_option maxRecDepth 20000 in
theorem gX0_digest_X0_foldOrder : GoodIn wsX0_digest (wsV RX0 166 RX0 yX0_foldOrder wsX0_foldOrder) := goodIn_app (goodIn_of _ (by decide +kernel)) ggX0_digest_X0_foldOrder
set_option maxRecDepth 20000 in
theorem ggX0_digest_X0_foldPerson : GoodIn wsX0_digest wsX0_foldPerson := goodIn_ca (goodIn_r _ [91, 82, 92, 93, 94, 2, 13, 14, 10, 15, 16, 95, 96, 97, 98, 99, 100, 101, 3, 12, 102, 103, 104, 105, 76, 77, 4, 106, 107, 108, 109, 78, 79, 80, 81, 63, 52, 83, 84, 85, 86, 87, 53, 54, 55, 56, 57, 58, 30, 31, 32, 33, 5, 34, 35, 36, 41, 42, 43, 110, 111, 112, 113, 114, 115, 116, 117, 118, 119, 120, 121, 122, 123, 124, 125] (by decide +kernel) (by decide +kernel)) (goodIn_sub (fun _ h => List.mem_cons_of_mem _ (List.mem_append_right _ h)) (by decide +kernel))
set_option maxRecDepth 20000 in
theorem gX0_digest_X0_foldPerson : GoodIn wsX0_digest (wsV RX0 169 RX0 yX0_foldPerson wsX0_foldPerson) := goodIn_app (goodIn_of _ (by decide +kernel)) ggX0_digest_X0_foldPerson
theorem dX0_digest_0 : decode cX0_digest 0 = .ok (.ldc2_w 148, 3) := by decide +kernel
theorem dX0_digest_3 : decode cX0_digest 3 = .ok (.lstore_n 1, 1) := by decide +kernel
theorem dX0_digest_4 : decode cX0_digest 4 = .ok (.lload_n 1, 1) := by decide +kernel
theorem dX0_digest_5 : decode cX0_digest 5 = .ok (.aload_n 0, 1) := by decide +kernel
theorem dX0_digest_6 : decode cX0_digest 6 = .ok (.invokevirtual 118, 3) := by decide +kernel
theorem dX0_digest_9 : decode cX0_digest 9 = .ok (.invokestatic 150, 3) := by decide +kernel
theorem dX0_digest_12 : decode cX0_digest 12 = .ok (.lstore_n 1, 1) := by decide +kernel
theorem dX0_digest_13 : decode cX0_digest 13 = .ok (.lload_n 1, 1) := by decide +kernel
theorem dX0_digest_14 : decode cX0_digest 14 = .ok (.aload_n 0, 1) := by decide +kernel
theorem dX0_digest_15 : decode cX0_digest 15 = .ok (.invokevirtual 154, 3) := by decide +kernel
theorem dX0_digest_18 : decode cX0_digest 18 = .ok (.invokestatic 150, 3) := by decide +kernel
theorem dX0_digest_21 : decode cX0_digest 21 = .ok (.lstore_n 1, 1) := by decide +kernel
theorem dX0_digest_22 : decode cX0_digest 22 = .ok (.lload_n 1, 1) := by decide +kernel
theorem dX0_digest_23 : decode cX0_digest 23 = .ok (.aload_n 0, 1) := by decide +kernel
theorem dX0_digest_24 : decode cX0_digest 24 = .ok (.iconst 0, 1) := by decide +kernel
theorem dX0_digest_25 : decode cX0_digest 25 = .ok (.invokevirtual 157, 3) := by decide +kernel
theorem dX0_digest_28 : decode cX0_digest 28 = .ok (.invokestatic 150, 3) := by decide +kernel
theorem dX0_digest_31 : decode cX0_digest 31 = .ok (.lstore_n 1, 1) := by decide +kernel
theorem dX0_digest_32 : decode cX0_digest 32 = .ok (.lload_n 1, 1) := by decide +kernel
theorem dX0_digest_33 : decode cX0_digest 33 = .ok (.aload_n 0, 1) := by decide +kernel
theorem dX0_digest_34 : decode cX0_digest 34 = .ok (.iconst 0, 1) := by decide +kernel
theorem dX0_digest_35 : decode cX0_digest 35 = .ok (.invokevirtual 160, 3) := by decide +kernel
theorem dX0_digest_38 : decode cX0_digest 38 = .ok (.invokestatic 150, 3) := by decide +kernel
theorem dX0_digest_41 : decode cX0_digest 41 = .ok (.lstore_n 1, 1) := by decide +kernel
theorem dX0_digest_42 : decode cX0_digest 42 = .ok (.lload_n 1, 1) := by decide +kernel
theorem dX0_digest_43 : decode cX0_digest 43 = .ok (.aload_n 0, 1) := by decide +kernel
theorem dX0_digest_44 : decode cX0_digest 44 = .ok (.getfield 44, 3) := by decide +kernel
theorem dX0_digest_47 : decode cX0_digest 47 = .ok (.invokestatic 150, 3) := by decide +kernel
theorem dX0_digest_50 : decode cX0_digest 50 = .ok (.lstore_n 1, 1) := by decide +kernel
theorem dX0_digest_51 : decode cX0_digest 51 = .ok (.lload_n 1, 1) := by decide +kernel
theorem dX0_digest_52 : decode cX0_digest 52 = .ok (.aload_n 0, 1) := by decide +kernel
theorem dX0_digest_53 : decode cX0_digest 53 = .ok (.getfield 74, 3) := by decide +kernel
theorem dX0_digest_56 : decode cX0_digest 56 = .ok (.invokestatic 150, 3) := by decide +kernel
theorem dX0_digest_59 : decode cX0_digest 59 = .ok (.lstore_n 1, 1) := by decide +kernel
theorem dX0_digest_60 : decode cX0_digest 60 = .ok (.lload_n 1, 1) := by decide +kernel
theorem dX0_digest_61 : decode cX0_digest 61 = .ok (.aload_n 0, 1) := by decide +kernel
theorem dX0_digest_62 : decode cX0_digest 62 = .ok (.getfield 59, 3) := by decide +kernel
theorem dX0_digest_65 : decode cX0_digest 65 = .ok (.invokestatic 150, 3) := by decide +kernel
theorem dX0_digest_68 : decode cX0_digest 68 = .ok (.lstore_n 1, 1) := by decide +kernel
theorem dX0_digest_69 : decode cX0_digest 69 = .ok (.lload_n 1, 1) := by decide +kernel
theorem dX0_digest_70 : decode cX0_digest 70 = .ok (.aload_n 0, 1) := by decide +kernel
theorem dX0_digest_71 : decode cX0_digest 71 = .ok (.invokevirtual 163, 3) := by decide +kernel
theorem dX0_digest_74 : decode cX0_digest 74 = .ok (.invokestatic 150, 3) := by decide +kernel
theorem dX0_digest_77 : decode cX0_digest 77 = .ok (.lstore_n 1, 1) := by decide +kernel
theorem dX0_digest_78 : decode cX0_digest 78 = .ok (.lload_n 1, 1) := by decide +kernel
theorem dX0_digest_79 : decode cX0_digest 79 = .ok (.aload_n 0, 1) := by decide +kernel
theorem dX0_digest_80 : decode cX0_digest 80 = .ok (.getfield 86, 3) := by decide +kernel
theorem dX0_digest_83 : decode cX0_digest 83 = .ok (.invokestatic 150, 3) := by decide +kernel
theorem dX0_digest_86 : decode cX0_digest 86 = .ok (.lstore_n 1, 1) := by decide +kernel
theorem dX0_digest_87 : decode cX0_digest 87 = .ok (.iconst 0, 1) := by decide +kernel
theorem dX0_digest_88 : decode cX0_digest 88 = .ok (.istore_n 3, 1) := by decide +kernel
theorem dX0_digest_89 : decode cX0_digest 89 = .ok (.iload_n 3, 1) := by decide +kernel
theorem dX0_digest_90 : decode cX0_digest 90 = .ok (.iconst 4, 1) := by decide +kernel
theorem dX0_digest_91 : decode cX0_digest 91 = .ok (.if_icmp .ge 20, 3) := by decide +kernel
theorem dX0_digest_94 : decode cX0_digest 94 = .ok (.lload_n 1, 1) := by decide +kernel
theorem dX0_digest_95 : decode cX0_digest 95 = .ok (.aload_n 0, 1) := by decide +kernel
theorem dX0_digest_96 : decode cX0_digest 96 = .ok (.getfield 41, 3) := by decide +kernel
theorem dX0_digest_99 : decode cX0_digest 99 = .ok (.iload_n 3, 1) := by decide +kernel
theorem dX0_digest_100 : decode cX0_digest 100 = .ok (.iaload, 1) := by decide +kernel
theorem dX0_digest_101 : decode cX0_digest 101 = .ok (.invokestatic 150, 3) := by decide +kernel
theorem dX0_digest_104 : decode cX0_digest 104 = .ok (.lstore_n 1, 1) := by decide +kernel
theorem dX0_digest_105 : decode cX0_digest 105 = .ok (.iinc 3 1, 3) := by decide +kernel
theorem dX0_digest_108 : decode cX0_digest 108 = .ok (.goto (-19), 3) := by decide +kernel
theorem dX0_digest_111 : decode cX0_digest 111 = .ok (.iconst 0, 1) := by decide +kernel
theorem dX0_digest_112 : decode cX0_digest 112 = .ok (.istore_n 3, 1) := by decide +kernel
theorem dX0_digest_113 : decode cX0_digest 113 = .ok (.iload_n 3, 1) := by decide +kernel
theorem dX0_digest_114 : decode cX0_digest 114 = .ok (.aload_n 0, 1) := by decide +kernel
theorem dX0_digest_115 : decode cX0_digest 115 = .ok (.getfield 74, 3) := by decide +kernel
theorem dX0_digest_118 : decode cX0_digest 118 = .ok (.if_icmp .ge 16, 3) := by decide +kernel
theorem dX0_digest_121 : decode cX0_digest 121 = .ok (.aload_n 0, 1) := by decide +kernel
theorem dX0_digest_122 : decode cX0_digest 122 = .ok (.lload_n 1, 1) := by decide +kernel
theorem dX0_digest_123 : decode cX0_digest 123 = .ok (.iload_n 3, 1) := by decide +kernel
theorem dX0_digest_124 : decode cX0_digest 124 = .ok (.invokevirtual 166, 3) := by decide +kernel
theorem dX0_digest_127 : decode cX0_digest 127 = .ok (.lstore_n 1, 1) := by decide +kernel
theorem dX0_digest_128 : decode cX0_digest 128 = .ok (.iinc 3 1, 3) := by decide +kernel
theorem dX0_digest_131 : decode cX0_digest 131 = .ok (.goto (-18), 3) := by decide +kernel
theorem dX0_digest_134 : decode cX0_digest 134 = .ok (.iconst 0, 1) := by decide +kernel
theorem dX0_digest_135 : decode cX0_digest 135 = .ok (.istore_n 3, 1) := by decide +kernel
theorem dX0_digest_136 : decode cX0_digest 136 = .ok (.iload_n 3, 1) := by decide +kernel
theorem dX0_digest_137 : decode cX0_digest 137 = .ok (.aload_n 0, 1) := by decide +kernel
theorem dX0_digest_138 : decode cX0_digest 138 = .ok (.getfield 59, 3) := by decide +kernel
theorem dX0_digest_141 : decode cX0_digest 141 = .ok (.if_icmp .ge 16, 3) := by decide +kernel
theorem dX0_digest_144 : decode cX0_digest 144 = .ok (.aload_n 0, 1) := by decide +kernel
theorem dX0_digest_145 : decode cX0_digest 145 = .ok (.lload_n 1, 1) := by decide +kernel
theorem dX0_digest_146 : decode cX0_digest 146 = .ok (.iload_n 3, 1) := by decide +kernel
theorem dX0_digest_147 : decode cX0_digest 147 = .ok (.invokevirtual 169, 3) := by decide +kernel
theorem dX0_digest_150 : decode cX0_digest 150 = .ok (.lstore_n 1, 1) := by decide +kernel
theorem dX0_digest_151 : decode cX0_digest 151 = .ok (.iinc 3 1, 3) := by decide +kernel
theorem dX0_digest_154 : decode cX0_digest 154 = .ok (.goto (-18), 3) := by decide +kernel
theorem dX0_digest_157 : decode cX0_digest 157 = .ok (.lload_n 1, 1) := by decide +kernel
theorem dX0_digest_158 : decode cX0_digest 158 = .ok (.lreturn, 1) := by decide +kernel
set_option maxRecDepth 20000 in
theorem ggX0_foldOrder_X0_fold : GoodIn wsX0_foldOrder wsX0_fold := goodIn_r _ [8, 9] (by decide +kernel) (by decide +kernel)
set_option maxRecDepth 20000 in
theorem gX0_foldOrder_X0_fold : GoodIn wsX0_foldOrder (va_wsS RX0 150 yX0_fold wsX0_fold) := goodIn_app (goodIn_of _ (by decide +kernel)) ggX0_foldOrder_X0_fold
set_option maxRecDepth 20000 in
theorem ggX0_foldOrder_X0_oneIf : GoodIn wsX0_foldOrder wsX0_oneIf := goodIn_r _ [12] (by decide +kernel) (by decide +kernel)
set_option maxRecDepth 20000 in
theorem gX0_foldOrder_X0_oneIf : GoodIn wsX0_foldOrder (va_wsS RX0 172 yX0_oneIf wsX0_oneIf) := goodIn_app (goodIn_of _ (by decide +kernel)) ggX0_foldOrder_X0_oneIf
set_option maxRecDepth 20000 in
theorem ggX0_foldOrder_X0_isOnAt : GoodIn wsX0_foldOrder wsX0_isOnAt := goodIn_r _ [16, 3, 17, 18, 19, 7, 20, 21, 22, 23, 24, 25, 26, 27, 28, 29, 30, 31, 32, 33, 56, 57, 58, 59, 60, 61, 62, 63, 64, 65, 66, 67, 68, 69, 70, 71] (by decide +kernel) (by decide +kernel)
set_option maxRecDepth 20000 in
theorem gX0_foldOrder_X0_isOnAt : GoodIn wsX0_foldOrder (wsV RX0 128 RX0 yX0_isOnAt wsX0_isOnAt) := goodIn_app (goodIn_of _ (by decide +kernel)) ggX0_foldOrder_X0_isOnAt
set_option maxRecDepth 20000 in
theorem ggX0_foldOrder_X0_barredBy : GoodIn wsX0_foldOrder wsX0_barredBy := goodIn_ca (goodIn_r _ [37, 38, 1, 4, 39, 40, 41, 7, 42, 43, 44, 45, 46, 47, 48, 49, 50, 3, 51, 52, 53, 54, 55, 17, 18, 19, 20, 21, 22, 23, 24, 25, 26, 27, 28, 29, 30, 31, 32, 33, 56, 57, 58, 59, 60, 61, 62, 63, 64, 65, 66, 67, 68, 69, 70, 71] (by decide +kernel) (by decide +kernel)) (goodIn_sub (fun _ h => List.mem_cons_of_mem _ (List.mem_append_right _ h)) (by decide +kernel))
set_option maxRecDepth 20000 in
theorem gX0_foldOrder_X0_barredBy : GoodIn wsX0_foldOrder (wsV RX0 176 RX0 yX0_barredBy wsX0_barredBy) := goodIn_app (goodIn_of _ (by decide +kernel)) ggX0_foldOrder_X0_barredBy
set_option maxRecDepth 20000 in
theorem ggX0_foldOrder_X0_exempts : GoodIn wsX0_foldOrder wsX0_exempts := goodIn_r _ [54, 55, 56, 57, 58, 59, 60, 61, 62, 63, 64, 65, 66, 67, 68, 69, 70, 71] (by decide +kernel) (by decide +kernel)
set_option maxRecDepth 20000 in
theorem gX0_foldOrder_X0_exempts : GoodIn wsX0_foldOrder (wsV RX0 82 RX0 yX0_exempts wsX0_exempts) := goodIn_app (goodIn_of _ (by decide +kernel)) ggX0_foldOrder_X0_exempts
theorem dX0_foldOrder_0 : decode cX0_foldOrder 0 = .ok (.lload_n 1, 1) := by decide +kernel
theorem dX0_foldOrder_1 : decode cX0_foldOrder 1 = .ok (.lstore 4, 2) := by decide +kernel
theorem dX0_foldOrder_3 : decode cX0_foldOrder 3 = .ok (.lload 4, 2) := by decide +kernel
theorem dX0_foldOrder_5 : decode cX0_foldOrder 5 = .ok (.aload_n 0, 1) := by decide +kernel
theorem dX0_foldOrder_6 : decode cX0_foldOrder 6 = .ok (.getfield 9, 3) := by decide +kernel
theorem dX0_foldOrder_9 : decode cX0_foldOrder 9 = .ok (.iload_n 3, 1) := by decide +kernel
theorem dX0_foldOrder_10 : decode cX0_foldOrder 10 = .ok (.iaload, 1) := by decide +kernel
theorem dX0_foldOrder_11 : decode cX0_foldOrder 11 = .ok (.invokestatic 150, 3) := by decide +kernel
theorem dX0_foldOrder_14 : decode cX0_foldOrder 14 = .ok (.lstore 4, 2) := by decide +kernel
theorem dX0_foldOrder_16 : decode cX0_foldOrder 16 = .ok (.lload 4, 2) := by decide +kernel
theorem dX0_foldOrder_18 : decode cX0_foldOrder 18 = .ok (.aload_n 0, 1) := by decide +kernel
theorem dX0_foldOrder_19 : decode cX0_foldOrder 19 = .ok (.getfield 19, 3) := by decide +kernel
theorem dX0_foldOrder_22 : decode cX0_foldOrder 22 = .ok (.iload_n 3, 1) := by decide +kernel
theorem dX0_foldOrder_23 : decode cX0_foldOrder 23 = .ok (.iaload, 1) := by decide +kernel
theorem dX0_foldOrder_24 : decode cX0_foldOrder 24 = .ok (.invokestatic 150, 3) := by decide +kernel
theorem dX0_foldOrder_27 : decode cX0_foldOrder 27 = .ok (.lstore 4, 2) := by decide +kernel
theorem dX0_foldOrder_29 : decode cX0_foldOrder 29 = .ok (.lload 4, 2) := by decide +kernel
theorem dX0_foldOrder_31 : decode cX0_foldOrder 31 = .ok (.aload_n 0, 1) := by decide +kernel
theorem dX0_foldOrder_32 : decode cX0_foldOrder 32 = .ok (.getfield 22, 3) := by decide +kernel
theorem dX0_foldOrder_35 : decode cX0_foldOrder 35 = .ok (.iload_n 3, 1) := by decide +kernel
theorem dX0_foldOrder_36 : decode cX0_foldOrder 36 = .ok (.baload, 1) := by decide +kernel
theorem dX0_foldOrder_37 : decode cX0_foldOrder 37 = .ok (.invokestatic 172, 3) := by decide +kernel
theorem dX0_foldOrder_40 : decode cX0_foldOrder 40 = .ok (.invokestatic 150, 3) := by decide +kernel
theorem dX0_foldOrder_43 : decode cX0_foldOrder 43 = .ok (.lstore 4, 2) := by decide +kernel
theorem dX0_foldOrder_45 : decode cX0_foldOrder 45 = .ok (.lload 4, 2) := by decide +kernel
theorem dX0_foldOrder_47 : decode cX0_foldOrder 47 = .ok (.aload_n 0, 1) := by decide +kernel
theorem dX0_foldOrder_48 : decode cX0_foldOrder 48 = .ok (.iload_n 3, 1) := by decide +kernel
theorem dX0_foldOrder_49 : decode cX0_foldOrder 49 = .ok (.aload_n 0, 1) := by decide +kernel
theorem dX0_foldOrder_50 : decode cX0_foldOrder 50 = .ok (.getfield 101, 3) := by decide +kernel
theorem dX0_foldOrder_53 : decode cX0_foldOrder 53 = .ok (.invokevirtual 128, 3) := by decide +kernel
theorem dX0_foldOrder_56 : decode cX0_foldOrder 56 = .ok (.invokestatic 172, 3) := by decide +kernel
theorem dX0_foldOrder_59 : decode cX0_foldOrder 59 = .ok (.invokestatic 150, 3) := by decide +kernel
theorem dX0_foldOrder_62 : decode cX0_foldOrder 62 = .ok (.lstore 4, 2) := by decide +kernel
theorem dX0_foldOrder_64 : decode cX0_foldOrder 64 = .ok (.lload 4, 2) := by decide +kernel
theorem dX0_foldOrder_66 : decode cX0_foldOrder 66 = .ok (.aload_n 0, 1) := by decide +kernel
theorem dX0_foldOrder_67 : decode cX0_foldOrder 67 = .ok (.iload_n 3, 1) := by decide +kernel
theorem dX0_foldOrder_68 : decode cX0_foldOrder 68 = .ok (.invokevirtual 176, 3) := by decide +kernel
theorem dX0_foldOrder_71 : decode cX0_foldOrder 71 = .ok (.invokestatic 150, 3) := by decide +kernel
theorem dX0_foldOrder_74 : decode cX0_foldOrder 74 = .ok (.lstore 4, 2) := by decide +kernel
theorem dX0_foldOrder_76 : decode cX0_foldOrder 76 = .ok (.iconst 0, 1) := by decide +kernel
theorem dX0_foldOrder_77 : decode cX0_foldOrder 77 = .ok (.istore 6, 2) := by decide +kernel
theorem dX0_foldOrder_79 : decode cX0_foldOrder 79 = .ok (.iload 6, 2) := by decide +kernel
theorem dX0_foldOrder_81 : decode cX0_foldOrder 81 = .ok (.bipush 8, 2) := by decide +kernel
theorem dX0_foldOrder_83 : decode cX0_foldOrder 83 = .ok (.if_icmp .ge 26, 3) := by decide +kernel
theorem dX0_foldOrder_86 : decode cX0_foldOrder 86 = .ok (.lload 4, 2) := by decide +kernel
theorem dX0_foldOrder_88 : decode cX0_foldOrder 88 = .ok (.aload_n 0, 1) := by decide +kernel
theorem dX0_foldOrder_89 : decode cX0_foldOrder 89 = .ok (.iload_n 3, 1) := by decide +kernel
theorem dX0_foldOrder_90 : decode cX0_foldOrder 90 = .ok (.iload 6, 2) := by decide +kernel
theorem dX0_foldOrder_92 : decode cX0_foldOrder 92 = .ok (.invokevirtual 82, 3) := by decide +kernel
theorem dX0_foldOrder_95 : decode cX0_foldOrder 95 = .ok (.invokestatic 172, 3) := by decide +kernel
theorem dX0_foldOrder_98 : decode cX0_foldOrder 98 = .ok (.invokestatic 150, 3) := by decide +kernel
theorem dX0_foldOrder_101 : decode cX0_foldOrder 101 = .ok (.lstore 4, 2) := by decide +kernel
theorem dX0_foldOrder_103 : decode cX0_foldOrder 103 = .ok (.iinc 6 1, 3) := by decide +kernel
theorem dX0_foldOrder_106 : decode cX0_foldOrder 106 = .ok (.goto (-27), 3) := by decide +kernel
theorem dX0_foldOrder_109 : decode cX0_foldOrder 109 = .ok (.lload 4, 2) := by decide +kernel
theorem dX0_foldOrder_111 : decode cX0_foldOrder 111 = .ok (.lreturn, 1) := by decide +kernel
set_option maxRecDepth 20000 in
theorem ggX0_foldPerson_X0_fold : GoodIn wsX0_foldPerson wsX0_fold := goodIn_r _ [9, 10] (by decide +kernel) (by decide +kernel)
set_option maxRecDepth 20000 in
theorem gX0_foldPerson_X0_fold : GoodIn wsX0_foldPerson (va_wsS RX0 150 yX0_fold wsX0_fold) := goodIn_app (goodIn_of _ (by decide +kernel)) ggX0_foldPerson_X0_fold
set_option maxRecDepth 20000 in
theorem ggX0_foldPerson_X0_stampPlace : GoodIn wsX0_foldPerson wsX0_stampPlace := goodIn_r _ [13] (by decide +kernel) (by decide +kernel)
set_option maxRecDepth 20000 in
theorem gX0_foldPerson_X0_stampPlace : GoodIn wsX0_foldPerson (va_wsS RX0 92 yX0_stampPlace wsX0_stampPlace) := goodIn_app (goodIn_of _ (by decide +kernel)) ggX0_foldPerson_X0_stampPlace
set_option maxRecDepth 20000 in
theorem ggX0_foldPerson_X0_ordersAgainst : GoodIn wsX0_foldPerson wsX0_ordersAgainst := goodIn_ca (goodIn_r _ [17, 18, 19, 20, 21, 22, 8, 23, 24, 25, 26, 27, 28, 29, 30, 5, 31, 32, 33, 34, 35, 1, 36, 37, 38, 39, 40, 41, 42, 43, 44, 45, 46, 47, 48, 49, 50, 51, 52, 53, 54, 55, 56, 57, 58, 59, 60, 61, 62, 63, 64, 65, 66, 67, 68, 69, 70, 71, 72, 73, 74] (by decide +kernel) (by decide +kernel)) (goodIn_sub (fun _ h => List.mem_cons_of_mem _ (List.mem_append_right _ h)) (by decide +kernel))
set_option maxRecDepth 20000 in
theorem gX0_foldPerson_X0_ordersAgainst : GoodIn wsX0_foldPerson (wsV RX0 179 RX0 yX0_ordersAgainst wsX0_ordersAgainst) := goodIn_app (goodIn_of _ (by decide +kernel)) ggX0_foldPerson_X0_ordersAgainst
theorem dX0_foldPerson_0 : decode cX0_foldPerson 0 = .ok (.lload_n 1, 1) := by decide +kernel
theorem dX0_foldPerson_1 : decode cX0_foldPerson 1 = .ok (.lstore 4, 2) := by decide +kernel
theorem dX0_foldPerson_3 : decode cX0_foldPerson 3 = .ok (.lload 4, 2) := by decide +kernel
theorem dX0_foldPerson_5 : decode cX0_foldPerson 5 = .ok (.aload_n 0, 1) := by decide +kernel
theorem dX0_foldPerson_6 : decode cX0_foldPerson 6 = .ok (.getfield 29, 3) := by decide +kernel
theorem dX0_foldPerson_9 : decode cX0_foldPerson 9 = .ok (.iload_n 3, 1) := by decide +kernel
theorem dX0_foldPerson_10 : decode cX0_foldPerson 10 = .ok (.iaload, 1) := by decide +kernel
theorem dX0_foldPerson_11 : decode cX0_foldPerson 11 = .ok (.invokestatic 150, 3) := by decide +kernel
theorem dX0_foldPerson_14 : decode cX0_foldPerson 14 = .ok (.lstore 4, 2) := by decide +kernel
theorem dX0_foldPerson_16 : decode cX0_foldPerson 16 = .ok (.lload 4, 2) := by decide +kernel
theorem dX0_foldPerson_18 : decode cX0_foldPerson 18 = .ok (.aload_n 0, 1) := by decide +kernel
theorem dX0_foldPerson_19 : decode cX0_foldPerson 19 = .ok (.getfield 35, 3) := by decide +kernel
theorem dX0_foldPerson_22 : decode cX0_foldPerson 22 = .ok (.iload_n 3, 1) := by decide +kernel
theorem dX0_foldPerson_23 : decode cX0_foldPerson 23 = .ok (.iaload, 1) := by decide +kernel
theorem dX0_foldPerson_24 : decode cX0_foldPerson 24 = .ok (.invokestatic 150, 3) := by decide +kernel
theorem dX0_foldPerson_27 : decode cX0_foldPerson 27 = .ok (.lstore 4, 2) := by decide +kernel
theorem dX0_foldPerson_29 : decode cX0_foldPerson 29 = .ok (.lload 4, 2) := by decide +kernel
theorem dX0_foldPerson_31 : decode cX0_foldPerson 31 = .ok (.aload_n 0, 1) := by decide +kernel
theorem dX0_foldPerson_32 : decode cX0_foldPerson 32 = .ok (.getfield 32, 3) := by decide +kernel
theorem dX0_foldPerson_35 : decode cX0_foldPerson 35 = .ok (.iload_n 3, 1) := by decide +kernel
theorem dX0_foldPerson_36 : decode cX0_foldPerson 36 = .ok (.iaload, 1) := by decide +kernel
theorem dX0_foldPerson_37 : decode cX0_foldPerson 37 = .ok (.invokestatic 150, 3) := by decide +kernel
theorem dX0_foldPerson_40 : decode cX0_foldPerson 40 = .ok (.lstore 4, 2) := by decide +kernel
theorem dX0_foldPerson_42 : decode cX0_foldPerson 42 = .ok (.iconst 0, 1) := by decide +kernel
theorem dX0_foldPerson_43 : decode cX0_foldPerson 43 = .ok (.istore 6, 2) := by decide +kernel
theorem dX0_foldPerson_45 : decode cX0_foldPerson 45 = .ok (.iload 6, 2) := by decide +kernel
theorem dX0_foldPerson_47 : decode cX0_foldPerson 47 = .ok (.iconst 4, 1) := by decide +kernel
theorem dX0_foldPerson_48 : decode cX0_foldPerson 48 = .ok (.if_icmp .ge 27, 3) := by decide +kernel
theorem dX0_foldPerson_51 : decode cX0_foldPerson 51 = .ok (.lload 4, 2) := by decide +kernel
theorem dX0_foldPerson_53 : decode cX0_foldPerson 53 = .ok (.aload_n 0, 1) := by decide +kernel
theorem dX0_foldPerson_54 : decode cX0_foldPerson 54 = .ok (.getfield 38, 3) := by decide +kernel
theorem dX0_foldPerson_57 : decode cX0_foldPerson 57 = .ok (.iload_n 3, 1) := by decide +kernel
theorem dX0_foldPerson_58 : decode cX0_foldPerson 58 = .ok (.iload 6, 2) := by decide +kernel
theorem dX0_foldPerson_60 : decode cX0_foldPerson 60 = .ok (.invokestatic 92, 3) := by decide +kernel
theorem dX0_foldPerson_63 : decode cX0_foldPerson 63 = .ok (.iaload, 1) := by decide +kernel
theorem dX0_foldPerson_64 : decode cX0_foldPerson 64 = .ok (.invokestatic 150, 3) := by decide +kernel
theorem dX0_foldPerson_67 : decode cX0_foldPerson 67 = .ok (.lstore 4, 2) := by decide +kernel
theorem dX0_foldPerson_69 : decode cX0_foldPerson 69 = .ok (.iinc 6 1, 3) := by decide +kernel
theorem dX0_foldPerson_72 : decode cX0_foldPerson 72 = .ok (.goto (-27), 3) := by decide +kernel
theorem dX0_foldPerson_75 : decode cX0_foldPerson 75 = .ok (.iconst 0, 1) := by decide +kernel
theorem dX0_foldPerson_76 : decode cX0_foldPerson 76 = .ok (.istore 6, 2) := by decide +kernel
theorem dX0_foldPerson_78 : decode cX0_foldPerson 78 = .ok (.iload 6, 2) := by decide +kernel
theorem dX0_foldPerson_80 : decode cX0_foldPerson 80 = .ok (.aload_n 0, 1) := by decide +kernel
theorem dX0_foldPerson_81 : decode cX0_foldPerson 81 = .ok (.getfield 44, 3) := by decide +kernel
theorem dX0_foldPerson_84 : decode cX0_foldPerson 84 = .ok (.if_icmp .ge 23, 3) := by decide +kernel
theorem dX0_foldPerson_87 : decode cX0_foldPerson 87 = .ok (.lload 4, 2) := by decide +kernel
theorem dX0_foldPerson_89 : decode cX0_foldPerson 89 = .ok (.aload_n 0, 1) := by decide +kernel
theorem dX0_foldPerson_90 : decode cX0_foldPerson 90 = .ok (.iload_n 3, 1) := by decide +kernel
theorem dX0_foldPerson_91 : decode cX0_foldPerson 91 = .ok (.iload 6, 2) := by decide +kernel
theorem dX0_foldPerson_93 : decode cX0_foldPerson 93 = .ok (.invokevirtual 179, 3) := by decide +kernel
theorem dX0_foldPerson_96 : decode cX0_foldPerson 96 = .ok (.invokestatic 150, 3) := by decide +kernel
theorem dX0_foldPerson_99 : decode cX0_foldPerson 99 = .ok (.lstore 4, 2) := by decide +kernel
theorem dX0_foldPerson_101 : decode cX0_foldPerson 101 = .ok (.iinc 6 1, 3) := by decide +kernel
theorem dX0_foldPerson_104 : decode cX0_foldPerson 104 = .ok (.goto (-26), 3) := by decide +kernel
theorem dX0_foldPerson_107 : decode cX0_foldPerson 107 = .ok (.lload 4, 2) := by decide +kernel
theorem dX0_foldPerson_109 : decode cX0_foldPerson 109 = .ok (.lreturn, 1) := by decide +kernel
theorem dX0_fold_0 : decode cX0_fold 0 = .ok (.lload_n 0, 1) := by decide +kernel
theorem dX0_fold_1 : decode cX0_fold 1 = .ok (.ldc2_w 182, 3) := by decide +kernel
theorem dX0_fold_4 : decode cX0_fold 4 = .ok (.lmul, 1) := by decide +kernel
theorem dX0_fold_5 : decode cX0_fold 5 = .ok (.iload_n 2, 1) := by decide +kernel
theorem dX0_fold_6 : decode cX0_fold 6 = .ok (.i2l, 1) := by decide +kernel
theorem dX0_fold_7 : decode cX0_fold 7 = .ok (.ladd, 1) := by decide +kernel
theorem dX0_fold_8 : decode cX0_fold 8 = .ok (.lreturn, 1) := by decide +kernel
theorem dX0_oneIf_0 : decode cX0_oneIf 0 = .ok (.iload_n 0, 1) := by decide +kernel
theorem dX0_oneIf_1 : decode cX0_oneIf 1 = .ok (.ifCond .eq 7, 3) := by decide +kernel
theorem dX0_oneIf_4 : decode cX0_oneIf 4 = .ok (.iconst 1, 1) := by decide +kernel
theorem dX0_oneIf_5 : decode cX0_oneIf 5 = .ok (.goto 4, 3) := by decide +kernel
theorem dX0_oneIf_8 : decode cX0_oneIf 8 = .ok (.iconst 0, 1) := by decide +kernel
theorem dX0_oneIf_9 : decode cX0_oneIf 9 = .ok (.ireturn, 1) := by decide +kernel
theorem dX0_tideOf_0 : decode cX0_tideOf 0 = .ok (.iload_n 0, 1) := by decide +kernel
theorem dX0_tideOf_1 : decode cX0_tideOf 1 = .ok (.bipush 40, 2) := by decide +kernel
theorem dX0_tideOf_3 : decode cX0_tideOf 3 = .ok (.irem, 1) := by decide +kernel
theorem dX0_tideOf_4 : decode cX0_tideOf 4 = .ok (.istore_n 1, 1) := by decide +kernel
theorem dX0_tideOf_5 : decode cX0_tideOf 5 = .ok (.iload_n 1, 1) := by decide +kernel
theorem dX0_tideOf_6 : decode cX0_tideOf 6 = .ok (.bipush 20, 2) := by decide +kernel
theorem dX0_tideOf_8 : decode cX0_tideOf 8 = .ok (.if_icmp .ge 7, 3) := by decide +kernel
theorem dX0_tideOf_11 : decode cX0_tideOf 11 = .ok (.iload_n 1, 1) := by decide +kernel
theorem dX0_tideOf_12 : decode cX0_tideOf 12 = .ok (.iconst 4, 1) := by decide +kernel
theorem dX0_tideOf_13 : decode cX0_tideOf 13 = .ok (.idiv, 1) := by decide +kernel
theorem dX0_tideOf_14 : decode cX0_tideOf 14 = .ok (.ireturn, 1) := by decide +kernel
theorem dX0_tideOf_15 : decode cX0_tideOf 15 = .ok (.bipush 39, 2) := by decide +kernel
theorem dX0_tideOf_17 : decode cX0_tideOf 17 = .ok (.iload_n 1, 1) := by decide +kernel
theorem dX0_tideOf_18 : decode cX0_tideOf 18 = .ok (.isub, 1) := by decide +kernel
theorem dX0_tideOf_19 : decode cX0_tideOf 19 = .ok (.iconst 4, 1) := by decide +kernel
theorem dX0_tideOf_20 : decode cX0_tideOf 20 = .ok (.idiv, 1) := by decide +kernel
theorem dX0_tideOf_21 : decode cX0_tideOf 21 = .ok (.ireturn, 1) := by decide +kernel
set_option maxRecDepth 20000 in
theorem ggX0_duskOf_X0_tideOf : GoodIn wsX0_duskOf wsX0_tideOf := goodIn_r _ [5] (by decide +kernel) (by decide +kernel)
set_option maxRecDepth 20000 in
theorem gX0_duskOf_X0_tideOf : GoodIn wsX0_duskOf (va_wsS RX0 184 yX0_tideOf wsX0_tideOf) := goodIn_app (goodIn_of _ (by decide +kernel)) ggX0_duskOf_X0_tideOf
theorem dX0_duskOf_0 : decode cX0_duskOf 0 = .ok (.bipush 34, 2) := by decide +kernel
theorem dX0_duskOf_2 : decode cX0_duskOf 2 = .ok (.iload_n 1, 1) := by decide +kernel
theorem dX0_duskOf_3 : decode cX0_duskOf 3 = .ok (.invokestatic 184, 3) := by decide +kernel
theorem dX0_duskOf_6 : decode cX0_duskOf 6 = .ok (.iadd, 1) := by decide +kernel
theorem dX0_duskOf_7 : decode cX0_duskOf 7 = .ok (.aload_n 0, 1) := by decide +kernel
theorem dX0_duskOf_8 : decode cX0_duskOf 8 = .ok (.getfield 86, 3) := by decide +kernel
theorem dX0_duskOf_11 : decode cX0_duskOf 11 = .ok (.iadd, 1) := by decide +kernel
theorem dX0_duskOf_12 : decode cX0_duskOf 12 = .ok (.ireturn, 1) := by decide +kernel
set_option maxRecDepth 20000 in
theorem ggX0_dawnOf_X0_tideOf : GoodIn wsX0_dawnOf wsX0_tideOf := goodIn_r _ [4] (by decide +kernel) (by decide +kernel)
set_option maxRecDepth 20000 in
theorem gX0_dawnOf_X0_tideOf : GoodIn wsX0_dawnOf (va_wsS RX0 184 yX0_tideOf wsX0_tideOf) := goodIn_app (goodIn_of _ (by decide +kernel)) ggX0_dawnOf_X0_tideOf
theorem dX0_dawnOf_0 : decode cX0_dawnOf 0 = .ok (.bipush 14, 2) := by decide +kernel
theorem dX0_dawnOf_2 : decode cX0_dawnOf 2 = .ok (.iload_n 0, 1) := by decide +kernel
theorem dX0_dawnOf_3 : decode cX0_dawnOf 3 = .ok (.invokestatic 184, 3) := by decide +kernel
theorem dX0_dawnOf_6 : decode cX0_dawnOf 6 = .ok (.isub, 1) := by decide +kernel
theorem dX0_dawnOf_7 : decode cX0_dawnOf 7 = .ok (.ireturn, 1) := by decide +kernel
set_option maxRecDepth 20000 in
theorem ggX0_isInHours_X0_duskOf : GoodIn wsX0_isInHours wsX0_duskOf := goodIn_r _ [7, 8, 9, 10, 6, 11, 15, 16, 17, 18, 19, 20, 21, 22, 23, 24, 25, 26, 27, 28, 29, 30] (by decide +kernel) (by decide +kernel)
set_option maxRecDepth 20000 in
theorem gX0_isInHours_X0_duskOf : GoodIn wsX0_isInHours (wsV RX0 122 RX0 yX0_duskOf wsX0_duskOf) := goodIn_app (goodIn_of _ (by decide +kernel)) ggX0_isInHours_X0_duskOf
set_option maxRecDepth 20000 in
theorem ggX0_isInHours_X0_dawnOf : GoodIn wsX0_isInHours wsX0_dawnOf := goodIn_r _ [14, 9, 10, 6, 11] (by decide +kernel) (by decide +kernel)
set_option maxRecDepth 20000 in
theorem gX0_isInHours_X0_dawnOf : GoodIn wsX0_isInHours (va_wsS RX0 125 yX0_dawnOf wsX0_dawnOf) := goodIn_app (goodIn_of _ (by decide +kernel)) ggX0_isInHours_X0_dawnOf
theorem dX0_isInHours_0 : decode cX0_isInHours 0 = .ok (.iload_n 2, 1) := by decide +kernel
theorem dX0_isInHours_1 : decode cX0_isInHours 1 = .ok (.bipush 48, 2) := by decide +kernel
theorem dX0_isInHours_3 : decode cX0_isInHours 3 = .ok (.idiv, 1) := by decide +kernel
theorem dX0_isInHours_4 : decode cX0_isInHours 4 = .ok (.istore_n 3, 1) := by decide +kernel
theorem dX0_isInHours_5 : decode cX0_isInHours 5 = .ok (.iload_n 2, 1) := by decide +kernel
theorem dX0_isInHours_6 : decode cX0_isInHours 6 = .ok (.bipush 48, 2) := by decide +kernel
theorem dX0_isInHours_8 : decode cX0_isInHours 8 = .ok (.irem, 1) := by decide +kernel
theorem dX0_isInHours_9 : decode cX0_isInHours 9 = .ok (.istore 4, 2) := by decide +kernel
theorem dX0_isInHours_11 : decode cX0_isInHours 11 = .ok (.iload 4, 2) := by decide +kernel
theorem dX0_isInHours_13 : decode cX0_isInHours 13 = .ok (.aload_n 0, 1) := by decide +kernel
theorem dX0_isInHours_14 : decode cX0_isInHours 14 = .ok (.iload_n 3, 1) := by decide +kernel
theorem dX0_isInHours_15 : decode cX0_isInHours 15 = .ok (.invokevirtual 122, 3) := by decide +kernel
theorem dX0_isInHours_18 : decode cX0_isInHours 18 = .ok (.aload_n 0, 1) := by decide +kernel
theorem dX0_isInHours_19 : decode cX0_isInHours 19 = .ok (.getfield 13, 3) := by decide +kernel
theorem dX0_isInHours_22 : decode cX0_isInHours 22 = .ok (.iload_n 1, 1) := by decide +kernel
theorem dX0_isInHours_23 : decode cX0_isInHours 23 = .ok (.iaload, 1) := by decide +kernel
theorem dX0_isInHours_24 : decode cX0_isInHours 24 = .ok (.isub, 1) := by decide +kernel
theorem dX0_isInHours_25 : decode cX0_isInHours 25 = .ok (.if_icmp .ge 19, 3) := by decide +kernel
theorem dX0_isInHours_28 : decode cX0_isInHours 28 = .ok (.iload 4, 2) := by decide +kernel
theorem dX0_isInHours_30 : decode cX0_isInHours 30 = .ok (.iload_n 3, 1) := by decide +kernel
theorem dX0_isInHours_31 : decode cX0_isInHours 31 = .ok (.invokestatic 125, 3) := by decide +kernel
theorem dX0_isInHours_34 : decode cX0_isInHours 34 = .ok (.aload_n 0, 1) := by decide +kernel
theorem dX0_isInHours_35 : decode cX0_isInHours 35 = .ok (.getfield 16, 3) := by decide +kernel
theorem dX0_isInHours_38 : decode cX0_isInHours 38 = .ok (.iload_n 1, 1) := by decide +kernel
theorem dX0_isInHours_39 : decode cX0_isInHours 39 = .ok (.iaload, 1) := by decide +kernel
theorem dX0_isInHours_40 : decode cX0_isInHours 40 = .ok (.iadd, 1) := by decide +kernel
theorem dX0_isInHours_41 : decode cX0_isInHours 41 = .ok (.if_icmp .ge 7, 3) := by decide +kernel
theorem dX0_isInHours_44 : decode cX0_isInHours 44 = .ok (.iconst 1, 1) := by decide +kernel
theorem dX0_isInHours_45 : decode cX0_isInHours 45 = .ok (.goto 4, 3) := by decide +kernel
theorem dX0_isInHours_48 : decode cX0_isInHours 48 = .ok (.iconst 0, 1) := by decide +kernel
theorem dX0_isInHours_49 : decode cX0_isInHours 49 = .ok (.ireturn, 1) := by decide +kernel
set_option maxRecDepth 20000 in
theorem ggX0_isOnAt_X0_isInHours : GoodIn wsX0_isOnAt wsX0_isInHours := goodIn_r _ [6, 7, 8, 9, 10, 11, 5, 12, 13, 14, 15, 16, 17, 18, 19, 20, 21, 22, 23, 24, 25, 26, 27, 28, 29, 30, 31, 32, 33, 34, 35] (by decide +kernel) (by decide +kernel)
set_option maxRecDepth 20000 in
theorem gX0_isOnAt_X0_isInHours : GoodIn wsX0_isOnAt (wsV RX0 139 RX0 yX0_isInHours wsX0_isInHours) := goodIn_app (goodIn_of _ (by decide +kernel)) ggX0_isOnAt_X0_isInHours
theorem dX0_isOnAt_0 : decode cX0_isOnAt 0 = .ok (.aload_n 0, 1) := by decide +kernel
theorem dX0_isOnAt_1 : decode cX0_isOnAt 1 = .ok (.getfield 22, 3) := by decide +kernel
theorem dX0_isOnAt_4 : decode cX0_isOnAt 4 = .ok (.iload_n 1, 1) := by decide +kernel
theorem dX0_isOnAt_5 : decode cX0_isOnAt 5 = .ok (.baload, 1) := by decide +kernel
theorem dX0_isOnAt_6 : decode cX0_isOnAt 6 = .ok (.ifCond .eq 16, 3) := by decide +kernel
theorem dX0_isOnAt_9 : decode cX0_isOnAt 9 = .ok (.aload_n 0, 1) := by decide +kernel
theorem dX0_isOnAt_10 : decode cX0_isOnAt 10 = .ok (.iload_n 1, 1) := by decide +kernel
theorem dX0_isOnAt_11 : decode cX0_isOnAt 11 = .ok (.iload_n 2, 1) := by decide +kernel
theorem dX0_isOnAt_12 : decode cX0_isOnAt 12 = .ok (.invokevirtual 139, 3) := by decide +kernel
theorem dX0_isOnAt_15 : decode cX0_isOnAt 15 = .ok (.ifCond .eq 7, 3) := by decide +kernel
theorem dX0_isOnAt_18 : decode cX0_isOnAt 18 = .ok (.iconst 1, 1) := by decide +kernel
theorem dX0_isOnAt_19 : decode cX0_isOnAt 19 = .ok (.goto 4, 3) := by decide +kernel
theorem dX0_isOnAt_22 : decode cX0_isOnAt 22 = .ok (.iconst 0, 1) := by decide +kernel
theorem dX0_isOnAt_23 : decode cX0_isOnAt 23 = .ok (.ireturn, 1) := by decide +kernel
theorem dX0_exempts_0 : decode cX0_exempts 0 = .ok (.aload_n 0, 1) := by decide +kernel
theorem dX0_exempts_1 : decode cX0_exempts 1 = .ok (.getfield 26, 3) := by decide +kernel
theorem dX0_exempts_4 : decode cX0_exempts 4 = .ok (.iload_n 1, 1) := by decide +kernel
theorem dX0_exempts_5 : decode cX0_exempts 5 = .ok (.iaload, 1) := by decide +kernel
theorem dX0_exempts_6 : decode cX0_exempts 6 = .ok (.iload_n 2, 1) := by decide +kernel
theorem dX0_exempts_7 : decode cX0_exempts 7 = .ok (.ishr, 1) := by decide +kernel
theorem dX0_exempts_8 : decode cX0_exempts 8 = .ok (.iconst 1, 1) := by decide +kernel
theorem dX0_exempts_9 : decode cX0_exempts 9 = .ok (.iand, 1) := by decide +kernel
theorem dX0_exempts_10 : decode cX0_exempts 10 = .ok (.ifCond .eq 7, 3) := by decide +kernel
theorem dX0_exempts_13 : decode cX0_exempts 13 = .ok (.iconst 1, 1) := by decide +kernel
theorem dX0_exempts_14 : decode cX0_exempts 14 = .ok (.goto 4, 3) := by decide +kernel
theorem dX0_exempts_17 : decode cX0_exempts 17 = .ok (.iconst 0, 1) := by decide +kernel
theorem dX0_exempts_18 : decode cX0_exempts 18 = .ok (.ireturn, 1) := by decide +kernel
set_option maxRecDepth 20000 in
theorem ggX0_bars_X0_exempts : GoodIn wsX0_bars wsX0_exempts := goodIn_r _ [8, 9, 27, 28, 29, 30, 31, 32, 33, 34, 35, 36, 37, 38, 39, 40, 41, 42] (by decide +kernel) (by decide +kernel)
set_option maxRecDepth 20000 in
theorem gX0_bars_X0_exempts : GoodIn wsX0_bars (wsV RX0 82 RX0 yX0_exempts wsX0_exempts) := goodIn_app (goodIn_of _ (by decide +kernel)) ggX0_bars_X0_exempts
set_option maxRecDepth 20000 in
theorem ggX0_bars_X0_isInHours : GoodIn wsX0_bars wsX0_isInHours := goodIn_r _ [13, 14, 15, 16, 17, 18, 7, 19, 20, 21, 22, 23, 24, 25, 26, 27, 28, 29, 30, 31, 32, 33, 34, 35, 36, 37, 38, 39, 40, 41, 42] (by decide +kernel) (by decide +kernel)
set_option maxRecDepth 20000 in
theorem gX0_bars_X0_isInHours : GoodIn wsX0_bars (wsV RX0 139 RX0 yX0_isInHours wsX0_isInHours) := goodIn_app (goodIn_of _ (by decide +kernel)) ggX0_bars_X0_isInHours
theorem dX0_bars_0 : decode cX0_bars 0 = .ok (.aload_n 0, 1) := by decide +kernel
theorem dX0_bars_1 : decode cX0_bars 1 = .ok (.getfield 9, 3) := by decide +kernel
theorem dX0_bars_4 : decode cX0_bars 4 = .ok (.iload_n 1, 1) := by decide +kernel
theorem dX0_bars_5 : decode cX0_bars 5 = .ok (.iaload, 1) := by decide +kernel
theorem dX0_bars_6 : decode cX0_bars 6 = .ok (.iload_n 3, 1) := by decide +kernel
theorem dX0_bars_7 : decode cX0_bars 7 = .ok (.if_icmp .ne 40, 3) := by decide +kernel
theorem dX0_bars_10 : decode cX0_bars 10 = .ok (.aload_n 0, 1) := by decide +kernel
theorem dX0_bars_11 : decode cX0_bars 11 = .ok (.iload_n 1, 1) := by decide +kernel
theorem dX0_bars_12 : decode cX0_bars 12 = .ok (.aload_n 0, 1) := by decide +kernel
theorem dX0_bars_13 : decode cX0_bars 13 = .ok (.getfield 29, 3) := by decide +kernel
theorem dX0_bars_16 : decode cX0_bars 16 = .ok (.iload_n 2, 1) := by decide +kernel
theorem dX0_bars_17 : decode cX0_bars 17 = .ok (.iaload, 1) := by decide +kernel
theorem dX0_bars_18 : decode cX0_bars 18 = .ok (.invokevirtual 82, 3) := by decide +kernel
theorem dX0_bars_21 : decode cX0_bars 21 = .ok (.ifCond .ne 26, 3) := by decide +kernel
theorem dX0_bars_24 : decode cX0_bars 24 = .ok (.aload_n 0, 1) := by decide +kernel
theorem dX0_bars_25 : decode cX0_bars 25 = .ok (.getfield 22, 3) := by decide +kernel
theorem dX0_bars_28 : decode cX0_bars 28 = .ok (.iload_n 1, 1) := by decide +kernel
theorem dX0_bars_29 : decode cX0_bars 29 = .ok (.baload, 1) := by decide +kernel
theorem dX0_bars_30 : decode cX0_bars 30 = .ok (.ifCond .eq 17, 3) := by decide +kernel
theorem dX0_bars_33 : decode cX0_bars 33 = .ok (.aload_n 0, 1) := by decide +kernel
theorem dX0_bars_34 : decode cX0_bars 34 = .ok (.iload_n 1, 1) := by decide +kernel
theorem dX0_bars_35 : decode cX0_bars 35 = .ok (.iload 4, 2) := by decide +kernel
theorem dX0_bars_37 : decode cX0_bars 37 = .ok (.invokevirtual 139, 3) := by decide +kernel
theorem dX0_bars_40 : decode cX0_bars 40 = .ok (.ifCond .eq 7, 3) := by decide +kernel
theorem dX0_bars_43 : decode cX0_bars 43 = .ok (.iconst 1, 1) := by decide +kernel
theorem dX0_bars_44 : decode cX0_bars 44 = .ok (.goto 4, 3) := by decide +kernel
theorem dX0_bars_47 : decode cX0_bars 47 = .ok (.iconst 0, 1) := by decide +kernel
theorem dX0_bars_48 : decode cX0_bars 48 = .ok (.ireturn, 1) := by decide +kernel
set_option maxRecDepth 20000 in
theorem ggX0_isFreeAt_X0_bars : GoodIn wsX0_isFreeAt wsX0_bars := goodIn_r _ [6, 7, 8, 9, 10, 11, 12, 5, 13, 14, 15, 16, 17, 18, 19, 20, 21, 22, 23, 24, 25, 26, 27, 28, 29, 30, 31, 32, 33, 34, 35, 36, 37, 38, 39, 40, 41, 42, 43, 44, 45, 46, 47] (by decide +kernel) (by decide +kernel)
set_option maxRecDepth 20000 in
theorem gX0_isFreeAt_X0_bars : GoodIn wsX0_isFreeAt (wsV RX0 104 RX0 yX0_bars wsX0_bars) := goodIn_app (goodIn_of _ (by decide +kernel)) ggX0_isFreeAt_X0_bars
theorem dX0_isFreeAt_0 : decode cX0_isFreeAt 0 = .ok (.iconst 0, 1) := by decide +kernel
theorem dX0_isFreeAt_1 : decode cX0_isFreeAt 1 = .ok (.istore 4, 2) := by decide +kernel
theorem dX0_isFreeAt_3 : decode cX0_isFreeAt 3 = .ok (.iload 4, 2) := by decide +kernel
theorem dX0_isFreeAt_5 : decode cX0_isFreeAt 5 = .ok (.aload_n 0, 1) := by decide +kernel
theorem dX0_isFreeAt_6 : decode cX0_isFreeAt 6 = .ok (.getfield 74, 3) := by decide +kernel
theorem dX0_isFreeAt_9 : decode cX0_isFreeAt 9 = .ok (.if_icmp .ge 23, 3) := by decide +kernel
theorem dX0_isFreeAt_12 : decode cX0_isFreeAt 12 = .ok (.aload_n 0, 1) := by decide +kernel
theorem dX0_isFreeAt_13 : decode cX0_isFreeAt 13 = .ok (.iload 4, 2) := by decide +kernel
theorem dX0_isFreeAt_15 : decode cX0_isFreeAt 15 = .ok (.iload_n 1, 1) := by decide +kernel
theorem dX0_isFreeAt_16 : decode cX0_isFreeAt 16 = .ok (.iload_n 2, 1) := by decide +kernel
theorem dX0_isFreeAt_17 : decode cX0_isFreeAt 17 = .ok (.iload_n 3, 1) := by decide +kernel
theorem dX0_isFreeAt_18 : decode cX0_isFreeAt 18 = .ok (.invokevirtual 104, 3) := by decide +kernel
theorem dX0_isFreeAt_21 : decode cX0_isFreeAt 21 = .ok (.ifCond .eq 5, 3) := by decide +kernel
theorem dX0_isFreeAt_24 : decode cX0_isFreeAt 24 = .ok (.iconst 0, 1) := by decide +kernel
theorem dX0_isFreeAt_25 : decode cX0_isFreeAt 25 = .ok (.ireturn, 1) := by decide +kernel
theorem dX0_isFreeAt_26 : decode cX0_isFreeAt 26 = .ok (.iinc 4 1, 3) := by decide +kernel
theorem dX0_isFreeAt_29 : decode cX0_isFreeAt 29 = .ok (.goto (-26), 3) := by decide +kernel
theorem dX0_isFreeAt_32 : decode cX0_isFreeAt 32 = .ok (.iconst 1, 1) := by decide +kernel
theorem dX0_isFreeAt_33 : decode cX0_isFreeAt 33 = .ok (.ireturn, 1) := by decide +kernel
set_option maxRecDepth 20000 in
theorem ggX0_timesBegun_X0_isOnAt : GoodIn wsX0_timesBegun wsX0_isOnAt := goodIn_r _ [6, 7, 8, 9, 10, 5, 11, 12, 13, 14, 15, 16, 17, 18, 19, 20, 21, 22, 23, 24, 25, 26, 27, 28, 29, 30, 31, 32, 33, 34, 35, 36, 37, 38, 39, 40] (by decide +kernel) (by decide +kernel)
set_option maxRecDepth 20000 in
theorem gX0_timesBegun_X0_isOnAt : GoodIn wsX0_timesBegun (wsV RX0 128 RX0 yX0_isOnAt wsX0_isOnAt) := goodIn_app (goodIn_of _ (by decide +kernel)) ggX0_timesBegun_X0_isOnAt
theorem dX0_timesBegun_0 : decode cX0_timesBegun 0 = .ok (.iconst 0, 1) := by decide +kernel
theorem dX0_timesBegun_1 : decode cX0_timesBegun 1 = .ok (.istore_n 3, 1) := by decide +kernel
theorem dX0_timesBegun_2 : decode cX0_timesBegun 2 = .ok (.aload_n 0, 1) := by decide +kernel
theorem dX0_timesBegun_3 : decode cX0_timesBegun 3 = .ok (.iload_n 1, 1) := by decide +kernel
theorem dX0_timesBegun_4 : decode cX0_timesBegun 4 = .ok (.aload_n 0, 1) := by decide +kernel
theorem dX0_timesBegun_5 : decode cX0_timesBegun 5 = .ok (.getfield 101, 3) := by decide +kernel
theorem dX0_timesBegun_8 : decode cX0_timesBegun 8 = .ok (.invokevirtual 128, 3) := by decide +kernel
theorem dX0_timesBegun_11 : decode cX0_timesBegun 11 = .ok (.istore 4, 2) := by decide +kernel
theorem dX0_timesBegun_13 : decode cX0_timesBegun 13 = .ok (.iconst 1, 1) := by decide +kernel
theorem dX0_timesBegun_14 : decode cX0_timesBegun 14 = .ok (.istore 5, 2) := by decide +kernel
theorem dX0_timesBegun_16 : decode cX0_timesBegun 16 = .ok (.iload 5, 2) := by decide +kernel
theorem dX0_timesBegun_18 : decode cX0_timesBegun 18 = .ok (.iload_n 2, 1) := by decide +kernel
theorem dX0_timesBegun_19 : decode cX0_timesBegun 19 = .ok (.if_icmp .gt 40, 3) := by decide +kernel
theorem dX0_timesBegun_22 : decode cX0_timesBegun 22 = .ok (.aload_n 0, 1) := by decide +kernel
theorem dX0_timesBegun_23 : decode cX0_timesBegun 23 = .ok (.iload_n 1, 1) := by decide +kernel
theorem dX0_timesBegun_24 : decode cX0_timesBegun 24 = .ok (.aload_n 0, 1) := by decide +kernel
theorem dX0_timesBegun_25 : decode cX0_timesBegun 25 = .ok (.getfield 101, 3) := by decide +kernel
theorem dX0_timesBegun_28 : decode cX0_timesBegun 28 = .ok (.iload 5, 2) := by decide +kernel
theorem dX0_timesBegun_30 : decode cX0_timesBegun 30 = .ok (.iadd, 1) := by decide +kernel
theorem dX0_timesBegun_31 : decode cX0_timesBegun 31 = .ok (.invokevirtual 128, 3) := by decide +kernel
theorem dX0_timesBegun_34 : decode cX0_timesBegun 34 = .ok (.istore 6, 2) := by decide +kernel
theorem dX0_timesBegun_36 : decode cX0_timesBegun 36 = .ok (.iload 6, 2) := by decide +kernel
theorem dX0_timesBegun_38 : decode cX0_timesBegun 38 = .ok (.ifCond .eq 11, 3) := by decide +kernel
theorem dX0_timesBegun_41 : decode cX0_timesBegun 41 = .ok (.iload 4, 2) := by decide +kernel
theorem dX0_timesBegun_43 : decode cX0_timesBegun 43 = .ok (.ifCond .ne 6, 3) := by decide +kernel
theorem dX0_timesBegun_46 : decode cX0_timesBegun 46 = .ok (.iinc 3 1, 3) := by decide +kernel
theorem dX0_timesBegun_49 : decode cX0_timesBegun 49 = .ok (.iload 6, 2) := by decide +kernel
theorem dX0_timesBegun_51 : decode cX0_timesBegun 51 = .ok (.istore 4, 2) := by decide +kernel
theorem dX0_timesBegun_53 : decode cX0_timesBegun 53 = .ok (.iinc 5 1, 3) := by decide +kernel
theorem dX0_timesBegun_56 : decode cX0_timesBegun 56 = .ok (.goto (-40), 3) := by decide +kernel
theorem dX0_timesBegun_59 : decode cX0_timesBegun 59 = .ok (.iload_n 3, 1) := by decide +kernel
theorem dX0_timesBegun_60 : decode cX0_timesBegun 60 = .ok (.ireturn, 1) := by decide +kernel
set_option maxRecDepth 20000 in
theorem ggX0_pairsFreedBy_X0_missing : GoodIn wsX0_pairsFreedBy wsX0_missing := goodIn_r _ [7, 8, 9, 10, 11, 12, 13, 14, 15, 16, 17, 18, 6, 19, 1, 20, 21, 22, 23, 24, 25, 26, 27, 28, 29, 30, 31, 32, 33, 34, 35, 36, 37, 38, 39, 40, 41, 42, 43, 44, 45, 46, 47, 48, 49, 50, 51, 52, 53, 54, 55, 56, 57, 58, 59, 60, 61, 62] (by decide +kernel) (by decide +kernel)
set_option maxRecDepth 20000 in
theorem gX0_pairsFreedBy_X0_missing : GoodIn wsX0_pairsFreedBy (wsV RX0 131 RX0 yX0_missing wsX0_missing) := goodIn_app (goodIn_of _ (by decide +kernel)) ggX0_pairsFreedBy_X0_missing
theorem dX0_pairsFreedBy_0 : decode cX0_pairsFreedBy 0 = .ok (.aload_n 0, 1) := by decide +kernel
theorem dX0_pairsFreedBy_1 : decode cX0_pairsFreedBy 1 = .ok (.getfield 9, 3) := by decide +kernel
theorem dX0_pairsFreedBy_4 : decode cX0_pairsFreedBy 4 = .ok (.iload_n 1, 1) := by decide +kernel
theorem dX0_pairsFreedBy_5 : decode cX0_pairsFreedBy 5 = .ok (.iaload, 1) := by decide +kernel
theorem dX0_pairsFreedBy_6 : decode cX0_pairsFreedBy 6 = .ok (.istore_n 2, 1) := by decide +kernel
theorem dX0_pairsFreedBy_7 : decode cX0_pairsFreedBy 7 = .ok (.iconst 0, 1) := by decide +kernel
theorem dX0_pairsFreedBy_8 : decode cX0_pairsFreedBy 8 = .ok (.istore_n 3, 1) := by decide +kernel
theorem dX0_pairsFreedBy_9 : decode cX0_pairsFreedBy 9 = .ok (.iconst 0, 1) := by decide +kernel
theorem dX0_pairsFreedBy_10 : decode cX0_pairsFreedBy 10 = .ok (.istore 4, 2) := by decide +kernel
theorem dX0_pairsFreedBy_12 : decode cX0_pairsFreedBy 12 = .ok (.iload 4, 2) := by decide +kernel
theorem dX0_pairsFreedBy_14 : decode cX0_pairsFreedBy 14 = .ok (.aload_n 0, 1) := by decide +kernel
theorem dX0_pairsFreedBy_15 : decode cX0_pairsFreedBy 15 = .ok (.getfield 59, 3) := by decide +kernel
theorem dX0_pairsFreedBy_18 : decode cX0_pairsFreedBy 18 = .ok (.if_icmp .ge 34, 3) := by decide +kernel
theorem dX0_pairsFreedBy_21 : decode cX0_pairsFreedBy 21 = .ok (.aload_n 0, 1) := by decide +kernel
theorem dX0_pairsFreedBy_22 : decode cX0_pairsFreedBy 22 = .ok (.iload 4, 2) := by decide +kernel
theorem dX0_pairsFreedBy_24 : decode cX0_pairsFreedBy 24 = .ok (.iload_n 2, 1) := by decide +kernel
theorem dX0_pairsFreedBy_25 : decode cX0_pairsFreedBy 25 = .ok (.iconst (-1), 1) := by decide +kernel
theorem dX0_pairsFreedBy_26 : decode cX0_pairsFreedBy 26 = .ok (.invokevirtual 131, 3) := by decide +kernel
theorem dX0_pairsFreedBy_29 : decode cX0_pairsFreedBy 29 = .ok (.ifCond .le 17, 3) := by decide +kernel
theorem dX0_pairsFreedBy_32 : decode cX0_pairsFreedBy 32 = .ok (.aload_n 0, 1) := by decide +kernel
theorem dX0_pairsFreedBy_33 : decode cX0_pairsFreedBy 33 = .ok (.iload 4, 2) := by decide +kernel
theorem dX0_pairsFreedBy_35 : decode cX0_pairsFreedBy 35 = .ok (.iload_n 2, 1) := by decide +kernel
theorem dX0_pairsFreedBy_36 : decode cX0_pairsFreedBy 36 = .ok (.iload_n 1, 1) := by decide +kernel
theorem dX0_pairsFreedBy_37 : decode cX0_pairsFreedBy 37 = .ok (.invokevirtual 131, 3) := by decide +kernel
theorem dX0_pairsFreedBy_40 : decode cX0_pairsFreedBy 40 = .ok (.ifCond .ne 6, 3) := by decide +kernel
theorem dX0_pairsFreedBy_43 : decode cX0_pairsFreedBy 43 = .ok (.iinc 3 1, 3) := by decide +kernel
theorem dX0_pairsFreedBy_46 : decode cX0_pairsFreedBy 46 = .ok (.iinc 4 1, 3) := by decide +kernel
theorem dX0_pairsFreedBy_49 : decode cX0_pairsFreedBy 49 = .ok (.goto (-37), 3) := by decide +kernel
theorem dX0_pairsFreedBy_52 : decode cX0_pairsFreedBy 52 = .ok (.iload_n 3, 1) := by decide +kernel
theorem dX0_pairsFreedBy_53 : decode cX0_pairsFreedBy 53 = .ok (.ireturn, 1) := by decide +kernel
theorem dX0_stampPlace_0 : decode cX0_stampPlace 0 = .ok (.iload_n 0, 1) := by decide +kernel
theorem dX0_stampPlace_1 : decode cX0_stampPlace 1 = .ok (.iconst 4, 1) := by decide +kernel
theorem dX0_stampPlace_2 : decode cX0_stampPlace 2 = .ok (.imul, 1) := by decide +kernel
theorem dX0_stampPlace_3 : decode cX0_stampPlace 3 = .ok (.iload_n 1, 1) := by decide +kernel
theorem dX0_stampPlace_4 : decode cX0_stampPlace 4 = .ok (.iadd, 1) := by decide +kernel
theorem dX0_stampPlace_5 : decode cX0_stampPlace 5 = .ok (.ireturn, 1) := by decide +kernel
set_option maxRecDepth 20000 in
theorem ggX0_useStamp_X0_stampPlace : GoodIn wsX0_useStamp wsX0_stampPlace := goodIn_r _ [6] (by decide +kernel) (by decide +kernel)
set_option maxRecDepth 20000 in
theorem gX0_useStamp_X0_stampPlace : GoodIn wsX0_useStamp (va_wsS RX0 92 yX0_stampPlace wsX0_stampPlace) := goodIn_app (goodIn_of _ (by decide +kernel)) ggX0_useStamp_X0_stampPlace
theorem dX0_useStamp_0 : decode cX0_useStamp 0 = .ok (.iload_n 1, 1) := by decide +kernel
theorem dX0_useStamp_1 : decode cX0_useStamp 1 = .ok (.iload_n 2, 1) := by decide +kernel
theorem dX0_useStamp_2 : decode cX0_useStamp 2 = .ok (.invokestatic 92, 3) := by decide +kernel
theorem dX0_useStamp_5 : decode cX0_useStamp 5 = .ok (.istore_n 3, 1) := by decide +kernel
theorem dX0_useStamp_6 : decode cX0_useStamp 6 = .ok (.aload_n 0, 1) := by decide +kernel
theorem dX0_useStamp_7 : decode cX0_useStamp 7 = .ok (.getfield 38, 3) := by decide +kernel
theorem dX0_useStamp_10 : decode cX0_useStamp 10 = .ok (.iload_n 3, 1) := by decide +kernel
theorem dX0_useStamp_11 : decode cX0_useStamp 11 = .ok (.iaload, 1) := by decide +kernel
theorem dX0_useStamp_12 : decode cX0_useStamp 12 = .ok (.ifCond .ne 5, 3) := by decide +kernel
theorem dX0_useStamp_15 : decode cX0_useStamp 15 = .ok (.iconst 0, 1) := by decide +kernel
theorem dX0_useStamp_16 : decode cX0_useStamp 16 = .ok (.ireturn, 1) := by decide +kernel
theorem dX0_useStamp_17 : decode cX0_useStamp 17 = .ok (.aload_n 0, 1) := by decide +kernel
theorem dX0_useStamp_18 : decode cX0_useStamp 18 = .ok (.getfield 38, 3) := by decide +kernel
theorem dX0_useStamp_21 : decode cX0_useStamp 21 = .ok (.iload_n 3, 1) := by decide +kernel
theorem dX0_useStamp_22 : decode cX0_useStamp 22 = .ok (.dup2, 1) := by decide +kernel
theorem dX0_useStamp_23 : decode cX0_useStamp 23 = .ok (.iaload, 1) := by decide +kernel
theorem dX0_useStamp_24 : decode cX0_useStamp 24 = .ok (.iconst 1, 1) := by decide +kernel
theorem dX0_useStamp_25 : decode cX0_useStamp 25 = .ok (.isub, 1) := by decide +kernel
theorem dX0_useStamp_26 : decode cX0_useStamp 26 = .ok (.iastore, 1) := by decide +kernel
theorem dX0_useStamp_27 : decode cX0_useStamp 27 = .ok (.aload_n 0, 1) := by decide +kernel
theorem dX0_useStamp_28 : decode cX0_useStamp 28 = .ok (.getfield 41, 3) := by decide +kernel
theorem dX0_useStamp_31 : decode cX0_useStamp 31 = .ok (.iload_n 2, 1) := by decide +kernel
theorem dX0_useStamp_32 : decode cX0_useStamp 32 = .ok (.dup2, 1) := by decide +kernel
theorem dX0_useStamp_33 : decode cX0_useStamp 33 = .ok (.iaload, 1) := by decide +kernel
theorem dX0_useStamp_34 : decode cX0_useStamp 34 = .ok (.iconst 1, 1) := by decide +kernel
theorem dX0_useStamp_35 : decode cX0_useStamp 35 = .ok (.iadd, 1) := by decide +kernel
theorem dX0_useStamp_36 : decode cX0_useStamp 36 = .ok (.iastore, 1) := by decide +kernel
theorem dX0_useStamp_37 : decode cX0_useStamp 37 = .ok (.iconst 1, 1) := by decide +kernel
theorem dX0_useStamp_38 : decode cX0_useStamp 38 = .ok (.ireturn, 1) := by decide +kernel
theorem dX0_fineOnce_0 : decode cX0_fineOnce 0 = .ok (.aload_n 0, 1) := by decide +kernel
theorem dX0_fineOnce_1 : decode cX0_fineOnce 1 = .ok (.getfield 32, 3) := by decide +kernel
theorem dX0_fineOnce_4 : decode cX0_fineOnce 4 = .ok (.iload_n 1, 1) := by decide +kernel
theorem dX0_fineOnce_5 : decode cX0_fineOnce 5 = .ok (.dup2, 1) := by decide +kernel
theorem dX0_fineOnce_6 : decode cX0_fineOnce 6 = .ok (.iaload, 1) := by decide +kernel
theorem dX0_fineOnce_7 : decode cX0_fineOnce 7 = .ok (.iconst 1, 1) := by decide +kernel
theorem dX0_fineOnce_8 : decode cX0_fineOnce 8 = .ok (.iadd, 1) := by decide +kernel
theorem dX0_fineOnce_9 : decode cX0_fineOnce 9 = .ok (.iastore, 1) := by decide +kernel
theorem dX0_fineOnce_10 : decode cX0_fineOnce 10 = .ok (.bipush 10, 2) := by decide +kernel
theorem dX0_fineOnce_12 : decode cX0_fineOnce 12 = .ok (.aload_n 0, 1) := by decide +kernel
theorem dX0_fineOnce_13 : decode cX0_fineOnce 13 = .ok (.getfield 32, 3) := by decide +kernel
theorem dX0_fineOnce_16 : decode cX0_fineOnce 16 = .ok (.iload_n 1, 1) := by decide +kernel
theorem dX0_fineOnce_17 : decode cX0_fineOnce 17 = .ok (.iaload, 1) := by decide +kernel
theorem dX0_fineOnce_18 : decode cX0_fineOnce 18 = .ok (.imul, 1) := by decide +kernel
theorem dX0_fineOnce_19 : decode cX0_fineOnce 19 = .ok (.istore_n 2, 1) := by decide +kernel
theorem dX0_fineOnce_20 : decode cX0_fineOnce 20 = .ok (.aload_n 0, 1) := by decide +kernel
theorem dX0_fineOnce_21 : decode cX0_fineOnce 21 = .ok (.getfield 35, 3) := by decide +kernel
theorem dX0_fineOnce_24 : decode cX0_fineOnce 24 = .ok (.iload_n 1, 1) := by decide +kernel
theorem dX0_fineOnce_25 : decode cX0_fineOnce 25 = .ok (.dup2, 1) := by decide +kernel
theorem dX0_fineOnce_26 : decode cX0_fineOnce 26 = .ok (.iaload, 1) := by decide +kernel
theorem dX0_fineOnce_27 : decode cX0_fineOnce 27 = .ok (.iload_n 2, 1) := by decide +kernel
theorem dX0_fineOnce_28 : decode cX0_fineOnce 28 = .ok (.iadd, 1) := by decide +kernel
theorem dX0_fineOnce_29 : decode cX0_fineOnce 29 = .ok (.iastore, 1) := by decide +kernel
theorem dX0_fineOnce_30 : decode cX0_fineOnce 30 = .ok (.iload_n 2, 1) := by decide +kernel
theorem dX0_fineOnce_31 : decode cX0_fineOnce 31 = .ok (.ireturn, 1) := by decide +kernel
set_option maxRecDepth 20000 in
theorem ggX0_missing_X0_bars : GoodIn wsX0_missing wsX0_bars := goodIn_r _ [13, 14, 15, 16, 17, 18, 19, 12, 20, 21, 22, 23, 24, 25, 26, 27, 28, 29, 30, 31, 32, 33, 34, 35, 36, 37, 38, 42, 43, 44, 45, 46, 47, 48, 49, 50, 51, 52, 53, 54, 55, 56, 57] (by decide +kernel) (by decide +kernel)
set_option maxRecDepth 20000 in
theorem gX0_missing_X0_bars : GoodIn wsX0_missing (wsV RX0 104 RX0 yX0_bars wsX0_bars) := goodIn_app (goodIn_of _ (by decide +kernel)) ggX0_missing_X0_bars
set_option maxRecDepth 20000 in
theorem ggX0_missing_X0_stampPlace : GoodIn wsX0_missing wsX0_stampPlace := goodIn_r _ [41] (by decide +kernel) (by decide +kernel)
set_option maxRecDepth 20000 in
theorem gX0_missing_X0_stampPlace : GoodIn wsX0_missing (va_wsS RX0 92 yX0_stampPlace wsX0_stampPlace) := goodIn_app (goodIn_of _ (by decide +kernel)) ggX0_missing_X0_stampPlace
theorem dX0_missing_0 : decode cX0_missing 0 = .ok (.iconst 0, 1) := by decide +kernel
theorem dX0_missing_1 : decode cX0_missing 1 = .ok (.istore 4, 2) := by decide +kernel
theorem dX0_missing_3 : decode cX0_missing 3 = .ok (.iconst 0, 1) := by decide +kernel
theorem dX0_missing_4 : decode cX0_missing 4 = .ok (.istore 5, 2) := by decide +kernel
theorem dX0_missing_6 : decode cX0_missing 6 = .ok (.iload 5, 2) := by decide +kernel
theorem dX0_missing_8 : decode cX0_missing 8 = .ok (.iconst 4, 1) := by decide +kernel
theorem dX0_missing_9 : decode cX0_missing 9 = .ok (.if_icmp .ge 89, 3) := by decide +kernel
theorem dX0_missing_12 : decode cX0_missing 12 = .ok (.iconst 0, 1) := by decide +kernel
theorem dX0_missing_13 : decode cX0_missing 13 = .ok (.istore 6, 2) := by decide +kernel
theorem dX0_missing_15 : decode cX0_missing 15 = .ok (.iconst 0, 1) := by decide +kernel
theorem dX0_missing_16 : decode cX0_missing 16 = .ok (.istore 7, 2) := by decide +kernel
theorem dX0_missing_18 : decode cX0_missing 18 = .ok (.iload 7, 2) := by decide +kernel
theorem dX0_missing_20 : decode cX0_missing 20 = .ok (.aload_n 0, 1) := by decide +kernel
theorem dX0_missing_21 : decode cX0_missing 21 = .ok (.getfield 74, 3) := by decide +kernel
theorem dX0_missing_24 : decode cX0_missing 24 = .ok (.if_icmp .ge 45, 3) := by decide +kernel
theorem dX0_missing_27 : decode cX0_missing 27 = .ok (.iload 7, 2) := by decide +kernel
theorem dX0_missing_29 : decode cX0_missing 29 = .ok (.iload_n 3, 1) := by decide +kernel
theorem dX0_missing_30 : decode cX0_missing 30 = .ok (.if_icmp .eq 33, 3) := by decide +kernel
theorem dX0_missing_33 : decode cX0_missing 33 = .ok (.aload_n 0, 1) := by decide +kernel
theorem dX0_missing_34 : decode cX0_missing 34 = .ok (.getfield 19, 3) := by decide +kernel
theorem dX0_missing_37 : decode cX0_missing 37 = .ok (.iload 7, 2) := by decide +kernel
theorem dX0_missing_39 : decode cX0_missing 39 = .ok (.iaload, 1) := by decide +kernel
theorem dX0_missing_40 : decode cX0_missing 40 = .ok (.iload 5, 2) := by decide +kernel
theorem dX0_missing_42 : decode cX0_missing 42 = .ok (.if_icmp .ne 21, 3) := by decide +kernel
theorem dX0_missing_45 : decode cX0_missing 45 = .ok (.aload_n 0, 1) := by decide +kernel
theorem dX0_missing_46 : decode cX0_missing 46 = .ok (.iload 7, 2) := by decide +kernel
theorem dX0_missing_48 : decode cX0_missing 48 = .ok (.iload_n 1, 1) := by decide +kernel
theorem dX0_missing_49 : decode cX0_missing 49 = .ok (.iload_n 2, 1) := by decide +kernel
theorem dX0_missing_50 : decode cX0_missing 50 = .ok (.aload_n 0, 1) := by decide +kernel
theorem dX0_missing_51 : decode cX0_missing 51 = .ok (.getfield 101, 3) := by decide +kernel
theorem dX0_missing_54 : decode cX0_missing 54 = .ok (.invokevirtual 104, 3) := by decide +kernel
theorem dX0_missing_57 : decode cX0_missing 57 = .ok (.ifCond .eq 6, 3) := by decide +kernel
theorem dX0_missing_60 : decode cX0_missing 60 = .ok (.iinc 6 1, 3) := by decide +kernel
theorem dX0_missing_63 : decode cX0_missing 63 = .ok (.iinc 7 1, 3) := by decide +kernel
theorem dX0_missing_66 : decode cX0_missing 66 = .ok (.goto (-48), 3) := by decide +kernel
theorem dX0_missing_69 : decode cX0_missing 69 = .ok (.iload 4, 2) := by decide +kernel
theorem dX0_missing_71 : decode cX0_missing 71 = .ok (.iconst 0, 1) := by decide +kernel
theorem dX0_missing_72 : decode cX0_missing 72 = .ok (.iload 6, 2) := by decide +kernel
theorem dX0_missing_74 : decode cX0_missing 74 = .ok (.aload_n 0, 1) := by decide +kernel
theorem dX0_missing_75 : decode cX0_missing 75 = .ok (.getfield 38, 3) := by decide +kernel
theorem dX0_missing_78 : decode cX0_missing 78 = .ok (.iload_n 1, 1) := by decide +kernel
theorem dX0_missing_79 : decode cX0_missing 79 = .ok (.iload 5, 2) := by decide +kernel
theorem dX0_missing_81 : decode cX0_missing 81 = .ok (.invokestatic 92, 3) := by decide +kernel
theorem dX0_missing_84 : decode cX0_missing 84 = .ok (.iaload, 1) := by decide +kernel
theorem dX0_missing_85 : decode cX0_missing 85 = .ok (.isub, 1) := by decide +kernel
theorem dX0_missing_86 : decode cX0_missing 86 = .ok (.invokestatic 187, 3) := by decide +kernel
theorem dX0_missing_89 : decode cX0_missing 89 = .ok (.iadd, 1) := by decide +kernel
theorem dX0_missing_90 : decode cX0_missing 90 = .ok (.istore 4, 2) := by decide +kernel
theorem dX0_missing_92 : decode cX0_missing 92 = .ok (.iinc 5 1, 3) := by decide +kernel
theorem dX0_missing_95 : decode cX0_missing 95 = .ok (.goto (-89), 3) := by decide +kernel
theorem dX0_missing_98 : decode cX0_missing 98 = .ok (.iload 4, 2) := by decide +kernel
theorem dX0_missing_100 : decode cX0_missing 100 = .ok (.ireturn, 1) := by decide +kernel
theorem dX0_requireQuarter_0 : decode cX0_requireQuarter 0 = .ok (.iload_n 1, 1) := by decide +kernel
theorem dX0_requireQuarter_1 : decode cX0_requireQuarter 1 = .ok (.ifCond .lt 11, 3) := by decide +kernel
theorem dX0_requireQuarter_4 : decode cX0_requireQuarter 4 = .ok (.iload_n 1, 1) := by decide +kernel
theorem dX0_requireQuarter_5 : decode cX0_requireQuarter 5 = .ok (.aload_n 0, 1) := by decide +kernel
theorem dX0_requireQuarter_6 : decode cX0_requireQuarter 6 = .ok (.getfield 44, 3) := by decide +kernel
theorem dX0_requireQuarter_9 : decode cX0_requireQuarter 9 = .ok (.if_icmp .lt 13, 3) := by decide +kernel
theorem dX0_requireQuarter_12 : decode cX0_requireQuarter 12 = .ok (.new 190, 3) := by decide +kernel
theorem dX0_requireQuarter_15 : decode cX0_requireQuarter 15 = .ok (.dup, 1) := by decide +kernel
theorem dX0_requireQuarter_16 : decode cX0_requireQuarter 16 = .ok (.ldc 192, 2) := by decide +kernel
theorem dX0_requireQuarter_18 : decode cX0_requireQuarter 18 = .ok (.invokespecial 194, 3) := by decide +kernel
theorem dX0_requireQuarter_21 : decode cX0_requireQuarter 21 = .ok (.athrow, 1) := by decide +kernel
theorem dX0_requireQuarter_22 : decode cX0_requireQuarter 22 = .ok (.return_, 1) := by decide +kernel
theorem dX0_requireOrder_0 : decode cX0_requireOrder 0 = .ok (.iload_n 1, 1) := by decide +kernel
theorem dX0_requireOrder_1 : decode cX0_requireOrder 1 = .ok (.ifCond .lt 11, 3) := by decide +kernel
theorem dX0_requireOrder_4 : decode cX0_requireOrder 4 = .ok (.iload_n 1, 1) := by decide +kernel
theorem dX0_requireOrder_5 : decode cX0_requireOrder 5 = .ok (.aload_n 0, 1) := by decide +kernel
theorem dX0_requireOrder_6 : decode cX0_requireOrder 6 = .ok (.getfield 74, 3) := by decide +kernel
theorem dX0_requireOrder_9 : decode cX0_requireOrder 9 = .ok (.if_icmp .lt 13, 3) := by decide +kernel
theorem dX0_requireOrder_12 : decode cX0_requireOrder 12 = .ok (.new 190, 3) := by decide +kernel
theorem dX0_requireOrder_15 : decode cX0_requireOrder 15 = .ok (.dup, 1) := by decide +kernel
theorem dX0_requireOrder_16 : decode cX0_requireOrder 16 = .ok (.ldc 195, 2) := by decide +kernel
theorem dX0_requireOrder_18 : decode cX0_requireOrder 18 = .ok (.invokespecial 194, 3) := by decide +kernel
theorem dX0_requireOrder_21 : decode cX0_requireOrder 21 = .ok (.athrow, 1) := by decide +kernel
theorem dX0_requireOrder_22 : decode cX0_requireOrder 22 = .ok (.return_, 1) := by decide +kernel
theorem dX0_requirePerson_0 : decode cX0_requirePerson 0 = .ok (.iload_n 1, 1) := by decide +kernel
theorem dX0_requirePerson_1 : decode cX0_requirePerson 1 = .ok (.ifCond .lt 11, 3) := by decide +kernel
theorem dX0_requirePerson_4 : decode cX0_requirePerson 4 = .ok (.iload_n 1, 1) := by decide +kernel
theorem dX0_requirePerson_5 : decode cX0_requirePerson 5 = .ok (.aload_n 0, 1) := by decide +kernel
theorem dX0_requirePerson_6 : decode cX0_requirePerson 6 = .ok (.getfield 59, 3) := by decide +kernel
theorem dX0_requirePerson_9 : decode cX0_requirePerson 9 = .ok (.if_icmp .lt 13, 3) := by decide +kernel
theorem dX0_requirePerson_12 : decode cX0_requirePerson 12 = .ok (.new 190, 3) := by decide +kernel
theorem dX0_requirePerson_15 : decode cX0_requirePerson 15 = .ok (.dup, 1) := by decide +kernel
theorem dX0_requirePerson_16 : decode cX0_requirePerson 16 = .ok (.ldc 197, 2) := by decide +kernel
theorem dX0_requirePerson_18 : decode cX0_requirePerson 18 = .ok (.invokespecial 194, 3) := by decide +kernel
theorem dX0_requirePerson_21 : decode cX0_requirePerson 21 = .ok (.athrow, 1) := by decide +kernel
theorem dX0_requirePerson_22 : decode cX0_requirePerson 22 = .ok (.return_, 1) := by decide +kernel
theorem dX0_requireTrade_0 : decode cX0_requireTrade 0 = .ok (.iload_n 0, 1) := by decide +kernel
theorem dX0_requireTrade_1 : decode cX0_requireTrade 1 = .ok (.ifCond .lt 9, 3) := by decide +kernel
theorem dX0_requireTrade_4 : decode cX0_requireTrade 4 = .ok (.iload_n 0, 1) := by decide +kernel
theorem dX0_requireTrade_5 : decode cX0_requireTrade 5 = .ok (.bipush 8, 2) := by decide +kernel
theorem dX0_requireTrade_7 : decode cX0_requireTrade 7 = .ok (.if_icmp .lt 13, 3) := by decide +kernel
theorem dX0_requireTrade_10 : decode cX0_requireTrade 10 = .ok (.new 190, 3) := by decide +kernel
theorem dX0_requireTrade_13 : decode cX0_requireTrade 13 = .ok (.dup, 1) := by decide +kernel
theorem dX0_requireTrade_14 : decode cX0_requireTrade 14 = .ok (.ldc 199, 2) := by decide +kernel
theorem dX0_requireTrade_16 : decode cX0_requireTrade 16 = .ok (.invokespecial 194, 3) := by decide +kernel
theorem dX0_requireTrade_19 : decode cX0_requireTrade 19 = .ok (.athrow, 1) := by decide +kernel
theorem dX0_requireTrade_20 : decode cX0_requireTrade 20 = .ok (.return_, 1) := by decide +kernel
theorem dX0_requireColour_0 : decode cX0_requireColour 0 = .ok (.iload_n 0, 1) := by decide +kernel
theorem dX0_requireColour_1 : decode cX0_requireColour 1 = .ok (.ifCond .lt 8, 3) := by decide +kernel
theorem dX0_requireColour_4 : decode cX0_requireColour 4 = .ok (.iload_n 0, 1) := by decide +kernel
theorem dX0_requireColour_5 : decode cX0_requireColour 5 = .ok (.iconst 4, 1) := by decide +kernel
theorem dX0_requireColour_6 : decode cX0_requireColour 6 = .ok (.if_icmp .lt 13, 3) := by decide +kernel
theorem dX0_requireColour_9 : decode cX0_requireColour 9 = .ok (.new 190, 3) := by decide +kernel
theorem dX0_requireColour_12 : decode cX0_requireColour 12 = .ok (.dup, 1) := by decide +kernel
theorem dX0_requireColour_13 : decode cX0_requireColour 13 = .ok (.ldc 201, 2) := by decide +kernel
theorem dX0_requireColour_15 : decode cX0_requireColour 15 = .ok (.invokespecial 194, 3) := by decide +kernel
theorem dX0_requireColour_18 : decode cX0_requireColour 18 = .ok (.athrow, 1) := by decide +kernel
theorem dX0_requireColour_19 : decode cX0_requireColour 19 = .ok (.return_, 1) := by decide +kernel
theorem dX0_requireWithin_0 : decode cX0_requireWithin 0 = .ok (.iload_n 0, 1) := by decide +kernel
theorem dX0_requireWithin_1 : decode cX0_requireWithin 1 = .ok (.iload_n 1, 1) := by decide +kernel
theorem dX0_requireWithin_2 : decode cX0_requireWithin 2 = .ok (.if_icmp .lt 8, 3) := by decide +kernel
theorem dX0_requireWithin_5 : decode cX0_requireWithin 5 = .ok (.iload_n 0, 1) := by decide +kernel
theorem dX0_requireWithin_6 : decode cX0_requireWithin 6 = .ok (.iload_n 2, 1) := by decide +kernel
theorem dX0_requireWithin_7 : decode cX0_requireWithin 7 = .ok (.if_icmp .le 13, 3) := by decide +kernel
theorem dX0_requireWithin_10 : decode cX0_requireWithin 10 = .ok (.new 203, 3) := by decide +kernel
theorem dX0_requireWithin_13 : decode cX0_requireWithin 13 = .ok (.dup, 1) := by decide +kernel
theorem dX0_requireWithin_14 : decode cX0_requireWithin 14 = .ok (.ldc 205, 2) := by decide +kernel
theorem dX0_requireWithin_16 : decode cX0_requireWithin 16 = .ok (.invokespecial 207, 3) := by decide +kernel
theorem dX0_requireWithin_19 : decode cX0_requireWithin 19 = .ok (.athrow, 1) := by decide +kernel
theorem dX0_requireWithin_20 : decode cX0_requireWithin 20 = .ok (.return_, 1) := by decide +kernel
