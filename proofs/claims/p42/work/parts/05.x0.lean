theorem dX0_init_0 : decode cX0_init 0 = .ok (.aload_n 0, 1) := by decide +kernel
theorem dX0_init_1 : decode cX0_init 1 = .ok (.invokespecial 1, 3) := by decide +kernel
theorem dX0_init_4 : decode cX0_init 4 = .ok (.aload_n 0, 1) := by decide +kernel
theorem dX0_init_5 : decode cX0_init 5 = .ok (.bipush 10, 2) := by decide +kernel
theorem dX0_init_7 : decode cX0_init 7 = .ok (.newarray .int, 2) := by decide +kernel
theorem dX0_init_9 : decode cX0_init 9 = .ok (.putfield 9, 3) := by decide +kernel
theorem dX0_init_12 : decode cX0_init 12 = .ok (.aload_n 0, 1) := by decide +kernel
theorem dX0_init_13 : decode cX0_init 13 = .ok (.bipush 10, 2) := by decide +kernel
theorem dX0_init_15 : decode cX0_init 15 = .ok (.newarray .int, 2) := by decide +kernel
theorem dX0_init_17 : decode cX0_init 17 = .ok (.putfield 13, 3) := by decide +kernel
theorem dX0_init_20 : decode cX0_init 20 = .ok (.aload_n 0, 1) := by decide +kernel
theorem dX0_init_21 : decode cX0_init 21 = .ok (.bipush 10, 2) := by decide +kernel
theorem dX0_init_23 : decode cX0_init 23 = .ok (.newarray .int, 2) := by decide +kernel
theorem dX0_init_25 : decode cX0_init 25 = .ok (.putfield 16, 3) := by decide +kernel
theorem dX0_init_28 : decode cX0_init 28 = .ok (.aload_n 0, 1) := by decide +kernel
theorem dX0_init_29 : decode cX0_init 29 = .ok (.bipush 10, 2) := by decide +kernel
theorem dX0_init_31 : decode cX0_init 31 = .ok (.newarray .int, 2) := by decide +kernel
theorem dX0_init_33 : decode cX0_init 33 = .ok (.putfield 19, 3) := by decide +kernel
theorem dX0_init_36 : decode cX0_init 36 = .ok (.aload_n 0, 1) := by decide +kernel
theorem dX0_init_37 : decode cX0_init 37 = .ok (.bipush 10, 2) := by decide +kernel
theorem dX0_init_39 : decode cX0_init 39 = .ok (.newarray .boolean, 2) := by decide +kernel
theorem dX0_init_41 : decode cX0_init 41 = .ok (.putfield 22, 3) := by decide +kernel
theorem dX0_init_44 : decode cX0_init 44 = .ok (.aload_n 0, 1) := by decide +kernel
theorem dX0_init_45 : decode cX0_init 45 = .ok (.bipush 10, 2) := by decide +kernel
theorem dX0_init_47 : decode cX0_init 47 = .ok (.newarray .int, 2) := by decide +kernel
theorem dX0_init_49 : decode cX0_init 49 = .ok (.putfield 26, 3) := by decide +kernel
theorem dX0_init_52 : decode cX0_init 52 = .ok (.aload_n 0, 1) := by decide +kernel
theorem dX0_init_53 : decode cX0_init 53 = .ok (.bipush 20, 2) := by decide +kernel
theorem dX0_init_55 : decode cX0_init 55 = .ok (.newarray .int, 2) := by decide +kernel
theorem dX0_init_57 : decode cX0_init 57 = .ok (.putfield 29, 3) := by decide +kernel
theorem dX0_init_60 : decode cX0_init 60 = .ok (.aload_n 0, 1) := by decide +kernel
theorem dX0_init_61 : decode cX0_init 61 = .ok (.bipush 20, 2) := by decide +kernel
theorem dX0_init_63 : decode cX0_init 63 = .ok (.newarray .int, 2) := by decide +kernel
theorem dX0_init_65 : decode cX0_init 65 = .ok (.putfield 32, 3) := by decide +kernel
theorem dX0_init_68 : decode cX0_init 68 = .ok (.aload_n 0, 1) := by decide +kernel
theorem dX0_init_69 : decode cX0_init 69 = .ok (.bipush 20, 2) := by decide +kernel
theorem dX0_init_71 : decode cX0_init 71 = .ok (.newarray .int, 2) := by decide +kernel
theorem dX0_init_73 : decode cX0_init 73 = .ok (.putfield 35, 3) := by decide +kernel
theorem dX0_init_76 : decode cX0_init 76 = .ok (.aload_n 0, 1) := by decide +kernel
theorem dX0_init_77 : decode cX0_init 77 = .ok (.bipush 80, 2) := by decide +kernel
theorem dX0_init_79 : decode cX0_init 79 = .ok (.newarray .int, 2) := by decide +kernel
theorem dX0_init_81 : decode cX0_init 81 = .ok (.putfield 38, 3) := by decide +kernel
theorem dX0_init_84 : decode cX0_init 84 = .ok (.aload_n 0, 1) := by decide +kernel
theorem dX0_init_85 : decode cX0_init 85 = .ok (.iconst 4, 1) := by decide +kernel
theorem dX0_init_86 : decode cX0_init 86 = .ok (.newarray .int, 2) := by decide +kernel
theorem dX0_init_88 : decode cX0_init 88 = .ok (.putfield 41, 3) := by decide +kernel
theorem dX0_init_91 : decode cX0_init 91 = .ok (.return_, 1) := by decide +kernel
theorem dX0_addQuarter_0 : decode cX0_addQuarter 0 = .ok (.aload_n 0, 1) := by decide +kernel
theorem dX0_addQuarter_1 : decode cX0_addQuarter 1 = .ok (.getfield 44, 3) := by decide +kernel
theorem dX0_addQuarter_4 : decode cX0_addQuarter 4 = .ok (.bipush 6, 2) := by decide +kernel
theorem dX0_addQuarter_6 : decode cX0_addQuarter 6 = .ok (.if_icmp .lt 13, 3) := by decide +kernel
theorem dX0_addQuarter_9 : decode cX0_addQuarter 9 = .ok (.new 48, 3) := by decide +kernel
theorem dX0_addQuarter_12 : decode cX0_addQuarter 12 = .ok (.dup, 1) := by decide +kernel
theorem dX0_addQuarter_13 : decode cX0_addQuarter 13 = .ok (.ldc 50, 2) := by decide +kernel
theorem dX0_addQuarter_15 : decode cX0_addQuarter 15 = .ok (.invokespecial 52, 3) := by decide +kernel
theorem dX0_addQuarter_18 : decode cX0_addQuarter 18 = .ok (.athrow, 1) := by decide +kernel
theorem dX0_addQuarter_19 : decode cX0_addQuarter 19 = .ok (.aload_n 0, 1) := by decide +kernel
theorem dX0_addQuarter_20 : decode cX0_addQuarter 20 = .ok (.getfield 44, 3) := by decide +kernel
theorem dX0_addQuarter_23 : decode cX0_addQuarter 23 = .ok (.istore_n 1, 1) := by decide +kernel
theorem dX0_addQuarter_24 : decode cX0_addQuarter 24 = .ok (.aload_n 0, 1) := by decide +kernel
theorem dX0_addQuarter_25 : decode cX0_addQuarter 25 = .ok (.dup, 1) := by decide +kernel
theorem dX0_addQuarter_26 : decode cX0_addQuarter 26 = .ok (.getfield 44, 3) := by decide +kernel
theorem dX0_addQuarter_29 : decode cX0_addQuarter 29 = .ok (.iconst 1, 1) := by decide +kernel
theorem dX0_addQuarter_30 : decode cX0_addQuarter 30 = .ok (.iadd, 1) := by decide +kernel
theorem dX0_addQuarter_31 : decode cX0_addQuarter 31 = .ok (.putfield 44, 3) := by decide +kernel
theorem dX0_addQuarter_34 : decode cX0_addQuarter 34 = .ok (.iload_n 1, 1) := by decide +kernel
theorem dX0_addQuarter_35 : decode cX0_addQuarter 35 = .ok (.ireturn, 1) := by decide +kernel
set_option maxRecDepth 20000 in
theorem ggX0_addPerson_X0_requireTrade : GoodIn wsX0_addPerson wsX0_requireTrade := goodIn_ca (goodIn_r _ [8, 9, 10] (by decide +kernel) (by decide +kernel)) (goodIn_sub (fun _ h => List.mem_cons_of_mem _ (List.mem_append_right _ h)) (by decide +kernel))
set_option maxRecDepth 20000 in
theorem gX0_addPerson_X0_requireTrade : GoodIn wsX0_addPerson (va_wsS RX0 55 yX0_requireTrade wsX0_requireTrade) := goodIn_app (goodIn_of _ (by decide +kernel)) ggX0_addPerson_X0_requireTrade
theorem dX0_addPerson_0 : decode cX0_addPerson 0 = .ok (.iload_n 1, 1) := by decide +kernel
theorem dX0_addPerson_1 : decode cX0_addPerson 1 = .ok (.invokestatic 55, 3) := by decide +kernel
theorem dX0_addPerson_4 : decode cX0_addPerson 4 = .ok (.aload_n 0, 1) := by decide +kernel
theorem dX0_addPerson_5 : decode cX0_addPerson 5 = .ok (.getfield 59, 3) := by decide +kernel
theorem dX0_addPerson_8 : decode cX0_addPerson 8 = .ok (.bipush 20, 2) := by decide +kernel
theorem dX0_addPerson_10 : decode cX0_addPerson 10 = .ok (.if_icmp .lt 13, 3) := by decide +kernel
theorem dX0_addPerson_13 : decode cX0_addPerson 13 = .ok (.new 48, 3) := by decide +kernel
theorem dX0_addPerson_16 : decode cX0_addPerson 16 = .ok (.dup, 1) := by decide +kernel
theorem dX0_addPerson_17 : decode cX0_addPerson 17 = .ok (.ldc 62, 2) := by decide +kernel
theorem dX0_addPerson_19 : decode cX0_addPerson 19 = .ok (.invokespecial 52, 3) := by decide +kernel
theorem dX0_addPerson_22 : decode cX0_addPerson 22 = .ok (.athrow, 1) := by decide +kernel
theorem dX0_addPerson_23 : decode cX0_addPerson 23 = .ok (.aload_n 0, 1) := by decide +kernel
theorem dX0_addPerson_24 : decode cX0_addPerson 24 = .ok (.getfield 59, 3) := by decide +kernel
theorem dX0_addPerson_27 : decode cX0_addPerson 27 = .ok (.istore_n 2, 1) := by decide +kernel
theorem dX0_addPerson_28 : decode cX0_addPerson 28 = .ok (.aload_n 0, 1) := by decide +kernel
theorem dX0_addPerson_29 : decode cX0_addPerson 29 = .ok (.getfield 29, 3) := by decide +kernel
theorem dX0_addPerson_32 : decode cX0_addPerson 32 = .ok (.iload_n 2, 1) := by decide +kernel
theorem dX0_addPerson_33 : decode cX0_addPerson 33 = .ok (.iload_n 1, 1) := by decide +kernel
theorem dX0_addPerson_34 : decode cX0_addPerson 34 = .ok (.iastore, 1) := by decide +kernel
theorem dX0_addPerson_35 : decode cX0_addPerson 35 = .ok (.aload_n 0, 1) := by decide +kernel
theorem dX0_addPerson_36 : decode cX0_addPerson 36 = .ok (.dup, 1) := by decide +kernel
theorem dX0_addPerson_37 : decode cX0_addPerson 37 = .ok (.getfield 59, 3) := by decide +kernel
theorem dX0_addPerson_40 : decode cX0_addPerson 40 = .ok (.iconst 1, 1) := by decide +kernel
theorem dX0_addPerson_41 : decode cX0_addPerson 41 = .ok (.iadd, 1) := by decide +kernel
theorem dX0_addPerson_42 : decode cX0_addPerson 42 = .ok (.putfield 59, 3) := by decide +kernel
theorem dX0_addPerson_45 : decode cX0_addPerson 45 = .ok (.iload_n 2, 1) := by decide +kernel
theorem dX0_addPerson_46 : decode cX0_addPerson 46 = .ok (.ireturn, 1) := by decide +kernel
set_option maxRecDepth 20000 in
theorem ggX0_addOrder_X0_requireQuarter : GoodIn wsX0_addOrder wsX0_requireQuarter := goodIn_ca (goodIn_r _ [13, 14, 15, 16, 25, 26, 27, 28, 29, 30, 31, 32, 33, 34, 35, 36, 37, 38, 39, 40] (by decide +kernel) (by decide +kernel)) (goodIn_sub (fun _ h => List.mem_cons_of_mem _ (List.mem_append_left _ (List.mem_append_right _ h))) (by decide +kernel))
set_option maxRecDepth 20000 in
theorem gX0_addOrder_X0_requireQuarter : GoodIn wsX0_addOrder (wsV RX0 64 RX0 yX0_requireQuarter wsX0_requireQuarter) := goodIn_app (goodIn_of _ (by decide +kernel)) ggX0_addOrder_X0_requireQuarter
set_option maxRecDepth 20000 in
theorem ggX0_addOrder_X0_requireColour : GoodIn wsX0_addOrder wsX0_requireColour := goodIn_ca (goodIn_r _ [19, 14, 15] (by decide +kernel) (by decide +kernel)) (goodIn_sub (fun _ h => List.mem_cons_of_mem _ (List.mem_append_left _ (List.mem_append_right _ h))) (by decide +kernel))
set_option maxRecDepth 20000 in
theorem gX0_addOrder_X0_requireColour : GoodIn wsX0_addOrder (va_wsS RX0 67 yX0_requireColour wsX0_requireColour) := goodIn_app (goodIn_of _ (by decide +kernel)) ggX0_addOrder_X0_requireColour
set_option maxRecDepth 20000 in
theorem ggX0_addOrder_X0_requireWithin : GoodIn wsX0_addOrder wsX0_requireWithin := goodIn_ca (goodIn_r _ [22, 23, 24] (by decide +kernel) (by decide +kernel)) (goodIn_sub (fun _ h => List.mem_cons_of_mem _ (List.mem_append_right _ h)) (by decide +kernel))
set_option maxRecDepth 20000 in
theorem gX0_addOrder_X0_requireWithin : GoodIn wsX0_addOrder (va_wsS RX0 70 yX0_requireWithin wsX0_requireWithin) := goodIn_app (goodIn_of _ (by decide +kernel)) ggX0_addOrder_X0_requireWithin
theorem dX0_addOrder_0 : decode cX0_addOrder 0 = .ok (.aload_n 0, 1) := by decide +kernel
theorem dX0_addOrder_1 : decode cX0_addOrder 1 = .ok (.iload_n 1, 1) := by decide +kernel
theorem dX0_addOrder_2 : decode cX0_addOrder 2 = .ok (.invokevirtual 64, 3) := by decide +kernel
theorem dX0_addOrder_5 : decode cX0_addOrder 5 = .ok (.iload 4, 2) := by decide +kernel
theorem dX0_addOrder_7 : decode cX0_addOrder 7 = .ok (.invokestatic 67, 3) := by decide +kernel
theorem dX0_addOrder_10 : decode cX0_addOrder 10 = .ok (.iload_n 2, 1) := by decide +kernel
theorem dX0_addOrder_11 : decode cX0_addOrder 11 = .ok (.iconst 0, 1) := by decide +kernel
theorem dX0_addOrder_12 : decode cX0_addOrder 12 = .ok (.iconst 4, 1) := by decide +kernel
theorem dX0_addOrder_13 : decode cX0_addOrder 13 = .ok (.invokestatic 70, 3) := by decide +kernel
theorem dX0_addOrder_16 : decode cX0_addOrder 16 = .ok (.iload_n 3, 1) := by decide +kernel
theorem dX0_addOrder_17 : decode cX0_addOrder 17 = .ok (.iconst 0, 1) := by decide +kernel
theorem dX0_addOrder_18 : decode cX0_addOrder 18 = .ok (.iconst 4, 1) := by decide +kernel
theorem dX0_addOrder_19 : decode cX0_addOrder 19 = .ok (.invokestatic 70, 3) := by decide +kernel
theorem dX0_addOrder_22 : decode cX0_addOrder 22 = .ok (.aload_n 0, 1) := by decide +kernel
theorem dX0_addOrder_23 : decode cX0_addOrder 23 = .ok (.getfield 74, 3) := by decide +kernel
theorem dX0_addOrder_26 : decode cX0_addOrder 26 = .ok (.bipush 10, 2) := by decide +kernel
theorem dX0_addOrder_28 : decode cX0_addOrder 28 = .ok (.if_icmp .lt 13, 3) := by decide +kernel
theorem dX0_addOrder_31 : decode cX0_addOrder 31 = .ok (.new 48, 3) := by decide +kernel
theorem dX0_addOrder_34 : decode cX0_addOrder 34 = .ok (.dup, 1) := by decide +kernel
theorem dX0_addOrder_35 : decode cX0_addOrder 35 = .ok (.ldc 77, 2) := by decide +kernel
theorem dX0_addOrder_37 : decode cX0_addOrder 37 = .ok (.invokespecial 52, 3) := by decide +kernel
theorem dX0_addOrder_40 : decode cX0_addOrder 40 = .ok (.athrow, 1) := by decide +kernel
theorem dX0_addOrder_41 : decode cX0_addOrder 41 = .ok (.aload_n 0, 1) := by decide +kernel
theorem dX0_addOrder_42 : decode cX0_addOrder 42 = .ok (.getfield 74, 3) := by decide +kernel
theorem dX0_addOrder_45 : decode cX0_addOrder 45 = .ok (.istore 5, 2) := by decide +kernel
theorem dX0_addOrder_47 : decode cX0_addOrder 47 = .ok (.aload_n 0, 1) := by decide +kernel
theorem dX0_addOrder_48 : decode cX0_addOrder 48 = .ok (.getfield 9, 3) := by decide +kernel
theorem dX0_addOrder_51 : decode cX0_addOrder 51 = .ok (.iload 5, 2) := by decide +kernel
theorem dX0_addOrder_53 : decode cX0_addOrder 53 = .ok (.iload_n 1, 1) := by decide +kernel
theorem dX0_addOrder_54 : decode cX0_addOrder 54 = .ok (.iastore, 1) := by decide +kernel
theorem dX0_addOrder_55 : decode cX0_addOrder 55 = .ok (.aload_n 0, 1) := by decide +kernel
theorem dX0_addOrder_56 : decode cX0_addOrder 56 = .ok (.getfield 13, 3) := by decide +kernel
theorem dX0_addOrder_59 : decode cX0_addOrder 59 = .ok (.iload 5, 2) := by decide +kernel
theorem dX0_addOrder_61 : decode cX0_addOrder 61 = .ok (.iload_n 2, 1) := by decide +kernel
theorem dX0_addOrder_62 : decode cX0_addOrder 62 = .ok (.iastore, 1) := by decide +kernel
theorem dX0_addOrder_63 : decode cX0_addOrder 63 = .ok (.aload_n 0, 1) := by decide +kernel
theorem dX0_addOrder_64 : decode cX0_addOrder 64 = .ok (.getfield 16, 3) := by decide +kernel
theorem dX0_addOrder_67 : decode cX0_addOrder 67 = .ok (.iload 5, 2) := by decide +kernel
theorem dX0_addOrder_69 : decode cX0_addOrder 69 = .ok (.iload_n 3, 1) := by decide +kernel
theorem dX0_addOrder_70 : decode cX0_addOrder 70 = .ok (.iastore, 1) := by decide +kernel
theorem dX0_addOrder_71 : decode cX0_addOrder 71 = .ok (.aload_n 0, 1) := by decide +kernel
theorem dX0_addOrder_72 : decode cX0_addOrder 72 = .ok (.getfield 19, 3) := by decide +kernel
theorem dX0_addOrder_75 : decode cX0_addOrder 75 = .ok (.iload 5, 2) := by decide +kernel
theorem dX0_addOrder_77 : decode cX0_addOrder 77 = .ok (.iload 4, 2) := by decide +kernel
theorem dX0_addOrder_79 : decode cX0_addOrder 79 = .ok (.iastore, 1) := by decide +kernel
theorem dX0_addOrder_80 : decode cX0_addOrder 80 = .ok (.aload_n 0, 1) := by decide +kernel
theorem dX0_addOrder_81 : decode cX0_addOrder 81 = .ok (.getfield 22, 3) := by decide +kernel
theorem dX0_addOrder_84 : decode cX0_addOrder 84 = .ok (.iload 5, 2) := by decide +kernel
theorem dX0_addOrder_86 : decode cX0_addOrder 86 = .ok (.iconst 1, 1) := by decide +kernel
theorem dX0_addOrder_87 : decode cX0_addOrder 87 = .ok (.bastore, 1) := by decide +kernel
theorem dX0_addOrder_88 : decode cX0_addOrder 88 = .ok (.aload_n 0, 1) := by decide +kernel
theorem dX0_addOrder_89 : decode cX0_addOrder 89 = .ok (.dup, 1) := by decide +kernel
theorem dX0_addOrder_90 : decode cX0_addOrder 90 = .ok (.getfield 74, 3) := by decide +kernel
theorem dX0_addOrder_93 : decode cX0_addOrder 93 = .ok (.iconst 1, 1) := by decide +kernel
theorem dX0_addOrder_94 : decode cX0_addOrder 94 = .ok (.iadd, 1) := by decide +kernel
theorem dX0_addOrder_95 : decode cX0_addOrder 95 = .ok (.putfield 74, 3) := by decide +kernel
theorem dX0_addOrder_98 : decode cX0_addOrder 98 = .ok (.iload 5, 2) := by decide +kernel
theorem dX0_addOrder_100 : decode cX0_addOrder 100 = .ok (.ireturn, 1) := by decide +kernel
set_option maxRecDepth 20000 in
theorem ggX0_pass_X0_requireWithin : GoodIn wsX0_pass wsX0_requireWithin := goodIn_ca (goodIn_r _ [6, 7, 8] (by decide +kernel) (by decide +kernel)) (goodIn_sub (fun _ h => List.mem_cons_of_mem _ (List.mem_append_right _ h)) (by decide +kernel))
set_option maxRecDepth 20000 in
theorem gX0_pass_X0_requireWithin : GoodIn wsX0_pass (va_wsS RX0 70 yX0_requireWithin wsX0_requireWithin) := goodIn_app (goodIn_of _ (by decide +kernel)) ggX0_pass_X0_requireWithin
set_option maxRecDepth 20000 in
theorem ggX0_pass_X0_timesBegun : GoodIn wsX0_pass wsX0_timesBegun := goodIn_r _ [12, 2, 13, 14, 15, 5, 16, 17, 18, 19, 20, 21, 22, 23, 24, 25, 26, 27, 28, 29, 30, 31, 32, 33, 34, 35, 36, 37, 38, 39, 40, 41, 42, 43, 44, 45, 46, 47, 48, 49, 50] (by decide +kernel) (by decide +kernel)
set_option maxRecDepth 20000 in
theorem gX0_pass_X0_timesBegun : GoodIn wsX0_pass (wsV RX0 115 RX0 yX0_timesBegun wsX0_timesBegun) := goodIn_app (goodIn_of _ (by decide +kernel)) ggX0_pass_X0_timesBegun
theorem dX0_pass_0 : decode cX0_pass 0 = .ok (.iload_n 1, 1) := by decide +kernel
theorem dX0_pass_1 : decode cX0_pass 1 = .ok (.iconst 1, 1) := by decide +kernel
theorem dX0_pass_2 : decode cX0_pass 2 = .ok (.sipush 200, 3) := by decide +kernel
theorem dX0_pass_5 : decode cX0_pass 5 = .ok (.invokestatic 70, 3) := by decide +kernel
theorem dX0_pass_8 : decode cX0_pass 8 = .ok (.iconst 0, 1) := by decide +kernel
theorem dX0_pass_9 : decode cX0_pass 9 = .ok (.istore_n 2, 1) := by decide +kernel
theorem dX0_pass_10 : decode cX0_pass 10 = .ok (.iconst 0, 1) := by decide +kernel
theorem dX0_pass_11 : decode cX0_pass 11 = .ok (.istore_n 3, 1) := by decide +kernel
theorem dX0_pass_12 : decode cX0_pass 12 = .ok (.iload_n 3, 1) := by decide +kernel
theorem dX0_pass_13 : decode cX0_pass 13 = .ok (.aload_n 0, 1) := by decide +kernel
theorem dX0_pass_14 : decode cX0_pass 14 = .ok (.getfield 74, 3) := by decide +kernel
theorem dX0_pass_17 : decode cX0_pass 17 = .ok (.if_icmp .ge 18, 3) := by decide +kernel
theorem dX0_pass_20 : decode cX0_pass 20 = .ok (.iload_n 2, 1) := by decide +kernel
theorem dX0_pass_21 : decode cX0_pass 21 = .ok (.aload_n 0, 1) := by decide +kernel
theorem dX0_pass_22 : decode cX0_pass 22 = .ok (.iload_n 3, 1) := by decide +kernel
theorem dX0_pass_23 : decode cX0_pass 23 = .ok (.iload_n 1, 1) := by decide +kernel
theorem dX0_pass_24 : decode cX0_pass 24 = .ok (.invokevirtual 115, 3) := by decide +kernel
theorem dX0_pass_27 : decode cX0_pass 27 = .ok (.iadd, 1) := by decide +kernel
theorem dX0_pass_28 : decode cX0_pass 28 = .ok (.istore_n 2, 1) := by decide +kernel
theorem dX0_pass_29 : decode cX0_pass 29 = .ok (.iinc 3 1, 3) := by decide +kernel
theorem dX0_pass_32 : decode cX0_pass 32 = .ok (.goto (-20), 3) := by decide +kernel
theorem dX0_pass_35 : decode cX0_pass 35 = .ok (.aload_n 0, 1) := by decide +kernel
theorem dX0_pass_36 : decode cX0_pass 36 = .ok (.dup, 1) := by decide +kernel
theorem dX0_pass_37 : decode cX0_pass 37 = .ok (.getfield 101, 3) := by decide +kernel
theorem dX0_pass_40 : decode cX0_pass 40 = .ok (.iload_n 1, 1) := by decide +kernel
theorem dX0_pass_41 : decode cX0_pass 41 = .ok (.iadd, 1) := by decide +kernel
theorem dX0_pass_42 : decode cX0_pass 42 = .ok (.putfield 101, 3) := by decide +kernel
theorem dX0_pass_45 : decode cX0_pass 45 = .ok (.iload_n 2, 1) := by decide +kernel
theorem dX0_pass_46 : decode cX0_pass 46 = .ok (.ireturn, 1) := by decide +kernel
theorem dX0_tideOf_0 : decode cX0_tideOf 0 = .ok (.iload_n 0, 1) := by decide +kernel
theorem dX0_tideOf_1 : decode cX0_tideOf 1 = .ok (.bipush 40, 2) := by decide +kernel
theorem dX0_tideOf_3 : decode cX0_tideOf 3 = .ok (.irem, 1) := by decide +kernel
theorem dX0_tideOf_4 : decode cX0_tideOf 4 = .ok (.istore_n 1, 1) := by decide +kernel
theorem dX0_tideOf_5 : decode cX0_tideOf 5 = .ok (.iload_n 1, 1) := by decide +kernel
theorem dX0_tideOf_6 : decode cX0_tideOf 6 = .ok (.bipush 20, 2) := by decide +kernel
theorem dX0_tideOf_8 : decode cX0_tideOf 8 = .ok (.if_icmp .ge 7, 3) := by decide +kernel
theorem dX0_tideOf_11 : decode cX0_tideOf 11 = .ok (.iload_n 1, 1) := by decide +kernel
theorem dX0_tideOf_12 : decode cX0_tideOf 12 = .ok (.iconst 4, 1) := by decide +kernel
theorem dX0_tideOf_13 : decode cX0_tideOf 13 = .ok (.idiv, 1) := by decide +kernel
theorem dX0_tideOf_14 : decode cX0_tideOf 14 = .ok (.ireturn, 1) := by decide +kernel
theorem dX0_tideOf_15 : decode cX0_tideOf 15 = .ok (.bipush 39, 2) := by decide +kernel
theorem dX0_tideOf_17 : decode cX0_tideOf 17 = .ok (.iload_n 1, 1) := by decide +kernel
theorem dX0_tideOf_18 : decode cX0_tideOf 18 = .ok (.isub, 1) := by decide +kernel
theorem dX0_tideOf_19 : decode cX0_tideOf 19 = .ok (.iconst 4, 1) := by decide +kernel
theorem dX0_tideOf_20 : decode cX0_tideOf 20 = .ok (.idiv, 1) := by decide +kernel
theorem dX0_tideOf_21 : decode cX0_tideOf 21 = .ok (.ireturn, 1) := by decide +kernel
set_option maxRecDepth 20000 in
theorem ggX0_duskOf_X0_tideOf : GoodIn wsX0_duskOf wsX0_tideOf := goodIn_r _ [5] (by decide +kernel) (by decide +kernel)
set_option maxRecDepth 20000 in
theorem gX0_duskOf_X0_tideOf : GoodIn wsX0_duskOf (va_wsS RX0 184 yX0_tideOf wsX0_tideOf) := goodIn_app (goodIn_of _ (by decide +kernel)) ggX0_duskOf_X0_tideOf
theorem dX0_duskOf_0 : decode cX0_duskOf 0 = .ok (.bipush 34, 2) := by decide +kernel
theorem dX0_duskOf_2 : decode cX0_duskOf 2 = .ok (.iload_n 1, 1) := by decide +kernel
theorem dX0_duskOf_3 : decode cX0_duskOf 3 = .ok (.invokestatic 184, 3) := by decide +kernel
theorem dX0_duskOf_6 : decode cX0_duskOf 6 = .ok (.iadd, 1) := by decide +kernel
theorem dX0_duskOf_7 : decode cX0_duskOf 7 = .ok (.aload_n 0, 1) := by decide +kernel
theorem dX0_duskOf_8 : decode cX0_duskOf 8 = .ok (.getfield 86, 3) := by decide +kernel
theorem dX0_duskOf_11 : decode cX0_duskOf 11 = .ok (.iadd, 1) := by decide +kernel
theorem dX0_duskOf_12 : decode cX0_duskOf 12 = .ok (.ireturn, 1) := by decide +kernel
set_option maxRecDepth 20000 in
theorem ggX0_dawnOf_X0_tideOf : GoodIn wsX0_dawnOf wsX0_tideOf := goodIn_r _ [4] (by decide +kernel) (by decide +kernel)
set_option maxRecDepth 20000 in
theorem gX0_dawnOf_X0_tideOf : GoodIn wsX0_dawnOf (va_wsS RX0 184 yX0_tideOf wsX0_tideOf) := goodIn_app (goodIn_of _ (by decide +kernel)) ggX0_dawnOf_X0_tideOf
theorem dX0_dawnOf_0 : decode cX0_dawnOf 0 = .ok (.bipush 14, 2) := by decide +kernel
theorem dX0_dawnOf_2 : decode cX0_dawnOf 2 = .ok (.iload_n 0, 1) := by decide +kernel
theorem dX0_dawnOf_3 : decode cX0_dawnOf 3 = .ok (.invokestatic 184, 3) := by decide +kernel
theorem dX0_dawnOf_6 : decode cX0_dawnOf 6 = .ok (.isub, 1) := by decide +kernel
theorem dX0_dawnOf_7 : decode cX0_dawnOf 7 = .ok (.ireturn, 1) := by decide +kernel
set_option maxRecDepth 20000 in
theorem ggX0_isInHours_X0_duskOf : GoodIn wsX0_isInHours wsX0_duskOf := goodIn_r _ [7, 8, 9, 10, 6, 11, 15, 16, 17, 18, 19, 20, 21, 22, 23, 24, 25, 26, 27, 28, 29, 30] (by decide +kernel) (by decide +kernel)
set_option maxRecDepth 20000 in
theorem gX0_isInHours_X0_duskOf : GoodIn wsX0_isInHours (wsV RX0 122 RX0 yX0_duskOf wsX0_duskOf) := goodIn_app (goodIn_of _ (by decide +kernel)) ggX0_isInHours_X0_duskOf
set_option maxRecDepth 20000 in
theorem ggX0_isInHours_X0_dawnOf : GoodIn wsX0_isInHours wsX0_dawnOf := goodIn_r _ [14, 9, 10, 6, 11] (by decide +kernel) (by decide +kernel)
set_option maxRecDepth 20000 in
theorem gX0_isInHours_X0_dawnOf : GoodIn wsX0_isInHours (va_wsS RX0 125 yX0_dawnOf wsX0_dawnOf) := goodIn_app (goodIn_of _ (by decide +kernel)) ggX0_isInHours_X0_dawnOf
theorem dX0_isInHours_0 : decode cX0_isInHours 0 = .ok (.iload_n 2, 1) := by decide +kernel
theorem dX0_isInHours_1 : decode cX0_isInHours 1 = .ok (.bipush 48, 2) := by decide +kernel
theorem dX0_isInHours_3 : decode cX0_isInHours 3 = .ok (.idiv, 1) := by decide +kernel
theorem dX0_isInHours_4 : decode cX0_isInHours 4 = .ok (.istore_n 3, 1) := by decide +kernel
theorem dX0_isInHours_5 : decode cX0_isInHours 5 = .ok (.iload_n 2, 1) := by decide +kernel
theorem dX0_isInHours_6 : decode cX0_isInHours 6 = .ok (.bipush 48, 2) := by decide +kernel
theorem dX0_isInHours_8 : decode cX0_isInHours 8 = .ok (.irem, 1) := by decide +kernel
theorem dX0_isInHours_9 : decode cX0_isInHours 9 = .ok (.istore 4, 2) := by decide +kernel
theorem dX0_isInHours_11 : decode cX0_isInHours 11 = .ok (.iload 4, 2) := by decide +kernel
theorem dX0_isInHours_13 : decode cX0_isInHours 13 = .ok (.aload_n 0, 1) := by decide +kernel
theorem dX0_isInHours_14 : decode cX0_isInHours 14 = .ok (.iload_n 3, 1) := by decide +kernel
theorem dX0_isInHours_15 : decode cX0_isInHours 15 = .ok (.invokevirtual 122, 3) := by decide +kernel
theorem dX0_isInHours_18 : decode cX0_isInHours 18 = .ok (.aload_n 0, 1) := by decide +kernel
theorem dX0_isInHours_19 : decode cX0_isInHours 19 = .ok (.getfield 13, 3) := by decide +kernel
theorem dX0_isInHours_22 : decode cX0_isInHours 22 = .ok (.iload_n 1, 1) := by decide +kernel
theorem dX0_isInHours_23 : decode cX0_isInHours 23 = .ok (.iaload, 1) := by decide +kernel
theorem dX0_isInHours_24 : decode cX0_isInHours 24 = .ok (.isub, 1) := by decide +kernel
theorem dX0_isInHours_25 : decode cX0_isInHours 25 = .ok (.if_icmp .ge 19, 3) := by decide +kernel
theorem dX0_isInHours_28 : decode cX0_isInHours 28 = .ok (.iload 4, 2) := by decide +kernel
theorem dX0_isInHours_30 : decode cX0_isInHours 30 = .ok (.iload_n 3, 1) := by decide +kernel
theorem dX0_isInHours_31 : decode cX0_isInHours 31 = .ok (.invokestatic 125, 3) := by decide +kernel
theorem dX0_isInHours_34 : decode cX0_isInHours 34 = .ok (.aload_n 0, 1) := by decide +kernel
theorem dX0_isInHours_35 : decode cX0_isInHours 35 = .ok (.getfield 16, 3) := by decide +kernel
theorem dX0_isInHours_38 : decode cX0_isInHours 38 = .ok (.iload_n 1, 1) := by decide +kernel
theorem dX0_isInHours_39 : decode cX0_isInHours 39 = .ok (.iaload, 1) := by decide +kernel
theorem dX0_isInHours_40 : decode cX0_isInHours 40 = .ok (.iadd, 1) := by decide +kernel
theorem dX0_isInHours_41 : decode cX0_isInHours 41 = .ok (.if_icmp .ge 7, 3) := by decide +kernel
theorem dX0_isInHours_44 : decode cX0_isInHours 44 = .ok (.iconst 1, 1) := by decide +kernel
theorem dX0_isInHours_45 : decode cX0_isInHours 45 = .ok (.goto 4, 3) := by decide +kernel
theorem dX0_isInHours_48 : decode cX0_isInHours 48 = .ok (.iconst 0, 1) := by decide +kernel
theorem dX0_isInHours_49 : decode cX0_isInHours 49 = .ok (.ireturn, 1) := by decide +kernel
set_option maxRecDepth 20000 in
theorem ggX0_isOnAt_X0_isInHours : GoodIn wsX0_isOnAt wsX0_isInHours := goodIn_r _ [6, 7, 8, 9, 10, 11, 5, 12, 13, 14, 15, 16, 17, 18, 19, 20, 21, 22, 23, 24, 25, 26, 27, 28, 29, 30, 31, 32, 33, 34, 35] (by decide +kernel) (by decide +kernel)
set_option maxRecDepth 20000 in
theorem gX0_isOnAt_X0_isInHours : GoodIn wsX0_isOnAt (wsV RX0 139 RX0 yX0_isInHours wsX0_isInHours) := goodIn_app (goodIn_of _ (by decide +kernel)) ggX0_isOnAt_X0_isInHours
theorem dX0_isOnAt_0 : decode cX0_isOnAt 0 = .ok (.aload_n 0, 1) := by decide +kernel
theorem dX0_isOnAt_1 : decode cX0_isOnAt 1 = .ok (.getfield 22, 3) := by decide +kernel
theorem dX0_isOnAt_4 : decode cX0_isOnAt 4 = .ok (.iload_n 1, 1) := by decide +kernel
theorem dX0_isOnAt_5 : decode cX0_isOnAt 5 = .ok (.baload, 1) := by decide +kernel
theorem dX0_isOnAt_6 : decode cX0_isOnAt 6 = .ok (.ifCond .eq 16, 3) := by decide +kernel
theorem dX0_isOnAt_9 : decode cX0_isOnAt 9 = .ok (.aload_n 0, 1) := by decide +kernel
theorem dX0_isOnAt_10 : decode cX0_isOnAt 10 = .ok (.iload_n 1, 1) := by decide +kernel
theorem dX0_isOnAt_11 : decode cX0_isOnAt 11 = .ok (.iload_n 2, 1) := by decide +kernel
theorem dX0_isOnAt_12 : decode cX0_isOnAt 12 = .ok (.invokevirtual 139, 3) := by decide +kernel
theorem dX0_isOnAt_15 : decode cX0_isOnAt 15 = .ok (.ifCond .eq 7, 3) := by decide +kernel
theorem dX0_isOnAt_18 : decode cX0_isOnAt 18 = .ok (.iconst 1, 1) := by decide +kernel
theorem dX0_isOnAt_19 : decode cX0_isOnAt 19 = .ok (.goto 4, 3) := by decide +kernel
theorem dX0_isOnAt_22 : decode cX0_isOnAt 22 = .ok (.iconst 0, 1) := by decide +kernel
theorem dX0_isOnAt_23 : decode cX0_isOnAt 23 = .ok (.ireturn, 1) := by decide +kernel
set_option maxRecDepth 20000 in
theorem ggX0_timesBegun_X0_isOnAt : GoodIn wsX0_timesBegun wsX0_isOnAt := goodIn_r _ [6, 7, 8, 9, 10, 5, 11, 12, 13, 14, 15, 16, 17, 18, 19, 20, 21, 22, 23, 24, 25, 26, 27, 28, 29, 30, 31, 32, 33, 34, 35, 36, 37, 38, 39, 40] (by decide +kernel) (by decide +kernel)
set_option maxRecDepth 20000 in
theorem gX0_timesBegun_X0_isOnAt : GoodIn wsX0_timesBegun (wsV RX0 128 RX0 yX0_isOnAt wsX0_isOnAt) := goodIn_app (goodIn_of _ (by decide +kernel)) ggX0_timesBegun_X0_isOnAt
theorem dX0_timesBegun_0 : decode cX0_timesBegun 0 = .ok (.iconst 0, 1) := by decide +kernel
theorem dX0_timesBegun_1 : decode cX0_timesBegun 1 = .ok (.istore_n 3, 1) := by decide +kernel
theorem dX0_timesBegun_2 : decode cX0_timesBegun 2 = .ok (.aload_n 0, 1) := by decide +kernel
theorem dX0_timesBegun_3 : decode cX0_timesBegun 3 = .ok (.iload_n 1, 1) := by decide +kernel
theorem dX0_timesBegun_4 : decode cX0_timesBegun 4 = .ok (.aload_n 0, 1) := by decide +kernel
theorem dX0_timesBegun_5 : decode cX0_timesBegun 5 = .ok (.getfield 101, 3) := by decide +kernel
theorem dX0_timesBegun_8 : decode cX0_timesBegun 8 = .ok (.invokevirtual 128, 3) := by decide +kernel
theorem dX0_timesBegun_11 : decode cX0_timesBegun 11 = .ok (.istore 4, 2) := by decide +kernel
theorem dX0_timesBegun_13 : decode cX0_timesBegun 13 = .ok (.iconst 1, 1) := by decide +kernel
theorem dX0_timesBegun_14 : decode cX0_timesBegun 14 = .ok (.istore 5, 2) := by decide +kernel
theorem dX0_timesBegun_16 : decode cX0_timesBegun 16 = .ok (.iload 5, 2) := by decide +kernel
theorem dX0_timesBegun_18 : decode cX0_timesBegun 18 = .ok (.iload_n 2, 1) := by decide +kernel
theorem dX0_timesBegun_19 : decode cX0_timesBegun 19 = .ok (.if_icmp .gt 40, 3) := by decide +kernel
theorem dX0_timesBegun_22 : decode cX0_timesBegun 22 = .ok (.aload_n 0, 1) := by decide +kernel
theorem dX0_timesBegun_23 : decode cX0_timesBegun 23 = .ok (.iload_n 1, 1) := by decide +kernel
theorem dX0_timesBegun_24 : decode cX0_timesBegun 24 = .ok (.aload_n 0, 1) := by decide +kernel
theorem dX0_timesBegun_25 : decode cX0_timesBegun 25 = .ok (.getfield 101, 3) := by decide +kernel
theorem dX0_timesBegun_28 : decode cX0_timesBegun 28 = .ok (.iload 5, 2) := by decide +kernel
theorem dX0_timesBegun_30 : decode cX0_timesBegun 30 = .ok (.iadd, 1) := by decide +kernel
theorem dX0_timesBegun_31 : decode cX0_timesBegun 31 = .ok (.invokevirtual 128, 3) := by decide +kernel
theorem dX0_timesBegun_34 : decode cX0_timesBegun 34 = .ok (.istore 6, 2) := by decide +kernel
theorem dX0_timesBegun_36 : decode cX0_timesBegun 36 = .ok (.iload 6, 2) := by decide +kernel
theorem dX0_timesBegun_38 : decode cX0_timesBegun 38 = .ok (.ifCond .eq 11, 3) := by decide +kernel
theorem dX0_timesBegun_41 : decode cX0_timesBegun 41 = .ok (.iload 4, 2) := by decide +kernel
theorem dX0_timesBegun_43 : decode cX0_timesBegun 43 = .ok (.ifCond .ne 6, 3) := by decide +kernel
theorem dX0_timesBegun_46 : decode cX0_timesBegun 46 = .ok (.iinc 3 1, 3) := by decide +kernel
theorem dX0_timesBegun_49 : decode cX0_timesBegun 49 = .ok (.iload 6, 2) := by decide +kernel
theorem dX0_timesBegun_51 : decode cX0_timesBegun 51 = .ok (.istore 4, 2) := by decide +kernel
theorem dX0_timesBegun_53 : decode cX0_timesBegun 53 = .ok (.iinc 5 1, 3) := by decide +kernel
theorem dX0_timesBegun_56 : decode cX0_timesBegun 56 = .ok (.goto (-40), 3) := by decide +kernel
theorem dX0_timesBegun_59 : decode cX0_timesBegun 59 = .ok (.iload_n 3, 1) := by decide +kernel
theorem dX0_timesBegun_60 : decode cX0_timesBegun 60 = .ok (.ireturn, 1) := by decide +kernel
theorem dX0_requireQuarter_0 : decode cX0_requireQuarter 0 = .ok (.iload_n 1, 1) := by decide +kernel
theorem dX0_requireQuarter_1 : decode cX0_requireQuarter 1 = .ok (.ifCond .lt 11, 3) := by decide +kernel
theorem dX0_requireQuarter_4 : decode cX0_requireQuarter 4 = .ok (.iload_n 1, 1) := by decide +kernel
theorem dX0_requireQuarter_5 : decode cX0_requireQuarter 5 = .ok (.aload_n 0, 1) := by decide +kernel
theorem dX0_requireQuarter_6 : decode cX0_requireQuarter 6 = .ok (.getfield 44, 3) := by decide +kernel
theorem dX0_requireQuarter_9 : decode cX0_requireQuarter 9 = .ok (.if_icmp .lt 13, 3) := by decide +kernel
theorem dX0_requireQuarter_12 : decode cX0_requireQuarter 12 = .ok (.new 190, 3) := by decide +kernel
theorem dX0_requireQuarter_15 : decode cX0_requireQuarter 15 = .ok (.dup, 1) := by decide +kernel
theorem dX0_requireQuarter_16 : decode cX0_requireQuarter 16 = .ok (.ldc 192, 2) := by decide +kernel
theorem dX0_requireQuarter_18 : decode cX0_requireQuarter 18 = .ok (.invokespecial 194, 3) := by decide +kernel
theorem dX0_requireQuarter_21 : decode cX0_requireQuarter 21 = .ok (.athrow, 1) := by decide +kernel
theorem dX0_requireQuarter_22 : decode cX0_requireQuarter 22 = .ok (.return_, 1) := by decide +kernel
theorem dX0_requireTrade_0 : decode cX0_requireTrade 0 = .ok (.iload_n 0, 1) := by decide +kernel
theorem dX0_requireTrade_1 : decode cX0_requireTrade 1 = .ok (.ifCond .lt 9, 3) := by decide +kernel
theorem dX0_requireTrade_4 : decode cX0_requireTrade 4 = .ok (.iload_n 0, 1) := by decide +kernel
theorem dX0_requireTrade_5 : decode cX0_requireTrade 5 = .ok (.bipush 8, 2) := by decide +kernel
theorem dX0_requireTrade_7 : decode cX0_requireTrade 7 = .ok (.if_icmp .lt 13, 3) := by decide +kernel
theorem dX0_requireTrade_10 : decode cX0_requireTrade 10 = .ok (.new 190, 3) := by decide +kernel
theorem dX0_requireTrade_13 : decode cX0_requireTrade 13 = .ok (.dup, 1) := by decide +kernel
theorem dX0_requireTrade_14 : decode cX0_requireTrade 14 = .ok (.ldc 199, 2) := by decide +kernel
theorem dX0_requireTrade_16 : decode cX0_requireTrade 16 = .ok (.invokespecial 194, 3) := by decide +kernel
theorem dX0_requireTrade_19 : decode cX0_requireTrade 19 = .ok (.athrow, 1) := by decide +kernel
theorem dX0_requireTrade_20 : decode cX0_requireTrade 20 = .ok (.return_, 1) := by decide +kernel
theorem dX0_requireColour_0 : decode cX0_requireColour 0 = .ok (.iload_n 0, 1) := by decide +kernel
theorem dX0_requireColour_1 : decode cX0_requireColour 1 = .ok (.ifCond .lt 8, 3) := by decide +kernel
theorem dX0_requireColour_4 : decode cX0_requireColour 4 = .ok (.iload_n 0, 1) := by decide +kernel
theorem dX0_requireColour_5 : decode cX0_requireColour 5 = .ok (.iconst 4, 1) := by decide +kernel
theorem dX0_requireColour_6 : decode cX0_requireColour 6 = .ok (.if_icmp .lt 13, 3) := by decide +kernel
theorem dX0_requireColour_9 : decode cX0_requireColour 9 = .ok (.new 190, 3) := by decide +kernel
theorem dX0_requireColour_12 : decode cX0_requireColour 12 = .ok (.dup, 1) := by decide +kernel
theorem dX0_requireColour_13 : decode cX0_requireColour 13 = .ok (.ldc 201, 2) := by decide +kernel
theorem dX0_requireColour_15 : decode cX0_requireColour 15 = .ok (.invokespecial 194, 3) := by decide +kernel
theorem dX0_requireColour_18 : decode cX0_requireColour 18 = .ok (.athrow, 1) := by decide +kernel
theorem dX0_requireColour_19 : decode cX0_requireColour 19 = .ok (.return_, 1) := by decide +kernel
theorem dX0_requireWithin_0 : decode cX0_requireWithin 0 = .ok (.iload_n 0, 1) := by decide +kernel
theorem dX0_requireWithin_1 : decode cX0_requireWithin 1 = .ok (.iload_n 1, 1) := by decide +kernel
theorem dX0_requireWithin_2 : decode cX0_requireWithin 2 = .ok (.if_icmp .lt 8, 3) := by decide +kernel
theorem dX0_requireWithin_5 : decode cX0_requireWithin 5 = .ok (.iload_n 0, 1) := by decide +kernel
theorem dX0_requireWithin_6 : decode cX0_requireWithin 6 = .ok (.iload_n 2, 1) := by decide +kernel
theorem dX0_requireWithin_7 : decode cX0_requireWithin 7 = .ok (.if_icmp .le 13, 3) := by decide +kernel
theorem dX0_requireWithin_10 : decode cX0_requireWithin 10 = .ok (.new 203, 3) := by decide +kernel
theorem dX0_requireWithin_13 : decode cX0_requireWithin 13 = .ok (.dup, 1) := by decide +kernel
theorem dX0_requireWithin_14 : decode cX0_requireWithin 14 = .ok (.ldc 205, 2) := by decide +kernel
theorem dX0_requireWithin_16 : decode cX0_requireWithin 16 = .ok (.invokespecial 207, 3) := by decide +kernel
theorem dX0_requireWithin_19 : decode cX0_requireWithin 19 = .ok (.athrow, 1) := by decide +kernel
theorem dX0_requireWithin_20 : decode cX0_requireWithin 20 = .ok (.return_, 1) := by decide +kernel
