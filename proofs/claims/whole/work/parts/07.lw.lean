set_option maxRecDepth 20000 in
theorem ggL_addQuarter_X0_addQuarter : GoodIn wsL_addQuarter wsX0_addQuarter := goodIn_ca (goodIn_r _ [6, 7, 8, 9, 10, 11, 12, 13, 14, 15, 16, 17, 18, 19, 20, 21, 22, 23, 24, 25] (by decide +kernel) (by decide +kernel)) (goodIn_sub (fun _ h => List.mem_cons_of_mem _ (List.mem_append_right _ h)) (by decide +kernel))
set_option maxRecDepth 20000 in
theorem gL_addQuarter_X0_addQuarter : GoodIn wsL_addQuarter (wsV RL 7 RX0 yX0_addQuarter wsX0_addQuarter) := goodIn_app (goodIn_of _ (by decide +kernel)) ggL_addQuarter_X0_addQuarter
theorem dL_addQuarter_0 : decode cL_addQuarter 0 = .ok (.aload_n 1, 1) := by decide +kernel
theorem dL_addQuarter_1 : decode cL_addQuarter 1 = .ok (.iconst 0, 1) := by decide +kernel
theorem dL_addQuarter_2 : decode cL_addQuarter 2 = .ok (.aload_n 0, 1) := by decide +kernel
theorem dL_addQuarter_3 : decode cL_addQuarter 3 = .ok (.invokevirtual 7, 3) := by decide +kernel
theorem dL_addQuarter_6 : decode cL_addQuarter 6 = .ok (.i2l, 1) := by decide +kernel
theorem dL_addQuarter_7 : decode cL_addQuarter 7 = .ok (.lastore, 1) := by decide +kernel
theorem dL_addQuarter_8 : decode cL_addQuarter 8 = .ok (.goto 6, 3) := by decide +kernel
theorem dL_addQuarter_11 : decode cL_addQuarter 11 = .ok (.astore_n 2, 1) := by decide +kernel
theorem dL_addQuarter_12 : decode cL_addQuarter 12 = .ok (.iconst 1, 1) := by decide +kernel
theorem dL_addQuarter_13 : decode cL_addQuarter 13 = .ok (.ireturn, 1) := by decide +kernel
theorem dL_addQuarter_14 : decode cL_addQuarter 14 = .ok (.iconst 0, 1) := by decide +kernel
theorem dL_addQuarter_15 : decode cL_addQuarter 15 = .ok (.ireturn, 1) := by decide +kernel
set_option maxRecDepth 20000 in
theorem ggL_addPerson_X0_addPerson : GoodIn wsL_addPerson wsX0_addPerson := goodIn_ca (goodIn_ca (goodIn_r _ [7, 8, 9, 10, 11, 12, 13, 6, 14, 15, 16, 17, 18, 19, 20, 21, 22, 23, 24, 25, 26, 27, 28, 29, 30, 31, 32] (by decide +kernel) (by decide +kernel)) (goodIn_sub (fun _ h => List.mem_cons_of_mem _ (List.mem_append_left _ (List.mem_append_right _ h))) (by decide +kernel))) (goodIn_sub (fun _ h => List.mem_cons_of_mem _ (List.mem_append_right _ h)) (by decide +kernel))
set_option maxRecDepth 20000 in
theorem gL_addPerson_X0_addPerson : GoodIn wsL_addPerson (wsV RL 15 RX0 yX0_addPerson wsX0_addPerson) := goodIn_app (goodIn_of _ (by decide +kernel)) ggL_addPerson_X0_addPerson
theorem dL_addPerson_0 : decode cL_addPerson 0 = .ok (.aload_n 2, 1) := by decide +kernel
theorem dL_addPerson_1 : decode cL_addPerson 1 = .ok (.iconst 0, 1) := by decide +kernel
theorem dL_addPerson_2 : decode cL_addPerson 2 = .ok (.aload_n 0, 1) := by decide +kernel
theorem dL_addPerson_3 : decode cL_addPerson 3 = .ok (.iload_n 1, 1) := by decide +kernel
theorem dL_addPerson_4 : decode cL_addPerson 4 = .ok (.invokevirtual 15, 3) := by decide +kernel
theorem dL_addPerson_7 : decode cL_addPerson 7 = .ok (.i2l, 1) := by decide +kernel
theorem dL_addPerson_8 : decode cL_addPerson 8 = .ok (.lastore, 1) := by decide +kernel
theorem dL_addPerson_9 : decode cL_addPerson 9 = .ok (.goto 9, 3) := by decide +kernel
theorem dL_addPerson_12 : decode cL_addPerson 12 = .ok (.astore_n 3, 1) := by decide +kernel
theorem dL_addPerson_13 : decode cL_addPerson 13 = .ok (.iconst 1, 1) := by decide +kernel
theorem dL_addPerson_14 : decode cL_addPerson 14 = .ok (.ireturn, 1) := by decide +kernel
theorem dL_addPerson_15 : decode cL_addPerson 15 = .ok (.astore_n 3, 1) := by decide +kernel
theorem dL_addPerson_16 : decode cL_addPerson 16 = .ok (.iconst 2, 1) := by decide +kernel
theorem dL_addPerson_17 : decode cL_addPerson 17 = .ok (.ireturn, 1) := by decide +kernel
theorem dL_addPerson_18 : decode cL_addPerson 18 = .ok (.iconst 0, 1) := by decide +kernel
theorem dL_addPerson_19 : decode cL_addPerson 19 = .ok (.ireturn, 1) := by decide +kernel
set_option maxRecDepth 20000 in
theorem ggL_addOrder_X0_addOrder : GoodIn wsL_addOrder wsX0_addOrder := goodIn_ca (goodIn_ca (goodIn_ca (goodIn_r _ [8, 9, 10, 11, 12, 13, 14, 15, 16, 17, 18, 19, 7, 20, 21, 22, 23, 24, 25, 26, 27, 28, 29, 30, 31, 32, 33, 34, 35, 36, 37, 38, 39, 40, 41, 42, 43, 44, 45, 46, 47] (by decide +kernel) (by decide +kernel)) (goodIn_sub (fun _ h => List.mem_cons_of_mem _ (List.mem_append_left _ (List.mem_append_left _ (List.mem_append_right _ h)))) (by decide +kernel))) (goodIn_sub (fun _ h => List.mem_cons_of_mem _ (List.mem_append_left _ (List.mem_append_right _ h))) (by decide +kernel))) (goodIn_sub (fun _ h => List.mem_cons_of_mem _ (List.mem_append_right _ h)) (by decide +kernel))
set_option maxRecDepth 20000 in
theorem gL_addOrder_X0_addOrder : GoodIn wsL_addOrder (wsV RL 21 RX0 yX0_addOrder wsX0_addOrder) := goodIn_app (goodIn_of _ (by decide +kernel)) ggL_addOrder_X0_addOrder
theorem dL_addOrder_0 : decode cL_addOrder 0 = .ok (.aload 5, 2) := by decide +kernel
theorem dL_addOrder_2 : decode cL_addOrder 2 = .ok (.iconst 0, 1) := by decide +kernel
theorem dL_addOrder_3 : decode cL_addOrder 3 = .ok (.aload_n 0, 1) := by decide +kernel
theorem dL_addOrder_4 : decode cL_addOrder 4 = .ok (.iload_n 1, 1) := by decide +kernel
theorem dL_addOrder_5 : decode cL_addOrder 5 = .ok (.iload_n 2, 1) := by decide +kernel
theorem dL_addOrder_6 : decode cL_addOrder 6 = .ok (.iload_n 3, 1) := by decide +kernel
theorem dL_addOrder_7 : decode cL_addOrder 7 = .ok (.iload 4, 2) := by decide +kernel
theorem dL_addOrder_9 : decode cL_addOrder 9 = .ok (.invokevirtual 21, 3) := by decide +kernel
theorem dL_addOrder_12 : decode cL_addOrder 12 = .ok (.i2l, 1) := by decide +kernel
theorem dL_addOrder_13 : decode cL_addOrder 13 = .ok (.lastore, 1) := by decide +kernel
theorem dL_addOrder_14 : decode cL_addOrder 14 = .ok (.goto 15, 3) := by decide +kernel
theorem dL_addOrder_17 : decode cL_addOrder 17 = .ok (.astore 6, 2) := by decide +kernel
theorem dL_addOrder_19 : decode cL_addOrder 19 = .ok (.iconst 1, 1) := by decide +kernel
theorem dL_addOrder_20 : decode cL_addOrder 20 = .ok (.ireturn, 1) := by decide +kernel
theorem dL_addOrder_21 : decode cL_addOrder 21 = .ok (.astore 6, 2) := by decide +kernel
theorem dL_addOrder_23 : decode cL_addOrder 23 = .ok (.iconst 2, 1) := by decide +kernel
theorem dL_addOrder_24 : decode cL_addOrder 24 = .ok (.ireturn, 1) := by decide +kernel
theorem dL_addOrder_25 : decode cL_addOrder 25 = .ok (.astore 6, 2) := by decide +kernel
theorem dL_addOrder_27 : decode cL_addOrder 27 = .ok (.iconst 3, 1) := by decide +kernel
theorem dL_addOrder_28 : decode cL_addOrder 28 = .ok (.ireturn, 1) := by decide +kernel
theorem dL_addOrder_29 : decode cL_addOrder 29 = .ok (.iconst 0, 1) := by decide +kernel
theorem dL_addOrder_30 : decode cL_addOrder 30 = .ok (.ireturn, 1) := by decide +kernel
set_option maxRecDepth 20000 in
theorem ggL_turnExempt_X0_turnExempt : GoodIn wsL_turnExempt wsX0_turnExempt := goodIn_ca (goodIn_r _ [6, 7, 8, 9, 10, 5, 11, 12, 13, 14, 15, 16, 17, 18, 19, 20, 21, 22, 23, 24, 25, 26, 27, 28, 29, 30, 31, 32, 33, 34, 35, 36, 37] (by decide +kernel) (by decide +kernel)) (goodIn_sub (fun _ h => List.mem_cons_of_mem _ (List.mem_append_right _ h)) (by decide +kernel))
set_option maxRecDepth 20000 in
theorem gL_turnExempt_X0_turnExempt : GoodIn wsL_turnExempt (wsV RL 27 RX0 yX0_turnExempt wsX0_turnExempt) := goodIn_app (goodIn_of _ (by decide +kernel)) ggL_turnExempt_X0_turnExempt
theorem dL_turnExempt_0 : decode cL_turnExempt 0 = .ok (.aload_n 3, 1) := by decide +kernel
theorem dL_turnExempt_1 : decode cL_turnExempt 1 = .ok (.iconst 0, 1) := by decide +kernel
theorem dL_turnExempt_2 : decode cL_turnExempt 2 = .ok (.aload_n 0, 1) := by decide +kernel
theorem dL_turnExempt_3 : decode cL_turnExempt 3 = .ok (.iload_n 1, 1) := by decide +kernel
theorem dL_turnExempt_4 : decode cL_turnExempt 4 = .ok (.iload_n 2, 1) := by decide +kernel
theorem dL_turnExempt_5 : decode cL_turnExempt 5 = .ok (.invokevirtual 27, 3) := by decide +kernel
theorem dL_turnExempt_8 : decode cL_turnExempt 8 = .ok (.ifCond .eq 7, 3) := by decide +kernel
theorem dL_turnExempt_11 : decode cL_turnExempt 11 = .ok (.lconst 1, 1) := by decide +kernel
theorem dL_turnExempt_12 : decode cL_turnExempt 12 = .ok (.goto 4, 3) := by decide +kernel
theorem dL_turnExempt_15 : decode cL_turnExempt 15 = .ok (.lconst 0, 1) := by decide +kernel
theorem dL_turnExempt_16 : decode cL_turnExempt 16 = .ok (.lastore, 1) := by decide +kernel
theorem dL_turnExempt_17 : decode cL_turnExempt 17 = .ok (.goto 7, 3) := by decide +kernel
theorem dL_turnExempt_20 : decode cL_turnExempt 20 = .ok (.astore 4, 2) := by decide +kernel
theorem dL_turnExempt_22 : decode cL_turnExempt 22 = .ok (.iconst 1, 1) := by decide +kernel
theorem dL_turnExempt_23 : decode cL_turnExempt 23 = .ok (.ireturn, 1) := by decide +kernel
theorem dL_turnExempt_24 : decode cL_turnExempt 24 = .ok (.iconst 0, 1) := by decide +kernel
theorem dL_turnExempt_25 : decode cL_turnExempt 25 = .ok (.ireturn, 1) := by decide +kernel
set_option maxRecDepth 20000 in
theorem ggL_turnOrder_X0_turnOrder : GoodIn wsL_turnOrder wsX0_turnOrder := goodIn_ca (goodIn_r _ [6, 7, 8, 9, 10, 5, 11, 12, 13, 14, 15, 16, 17, 18, 19, 20, 21, 22, 23, 24, 25, 26, 27, 28, 29, 30] (by decide +kernel) (by decide +kernel)) (goodIn_sub (fun _ h => List.mem_cons_of_mem _ (List.mem_append_right _ h)) (by decide +kernel))
set_option maxRecDepth 20000 in
theorem gL_turnOrder_X0_turnOrder : GoodIn wsL_turnOrder (wsV RL 31 RX0 yX0_turnOrder wsX0_turnOrder) := goodIn_app (goodIn_of _ (by decide +kernel)) ggL_turnOrder_X0_turnOrder
theorem dL_turnOrder_0 : decode cL_turnOrder 0 = .ok (.aload_n 2, 1) := by decide +kernel
theorem dL_turnOrder_1 : decode cL_turnOrder 1 = .ok (.iconst 0, 1) := by decide +kernel
theorem dL_turnOrder_2 : decode cL_turnOrder 2 = .ok (.aload_n 0, 1) := by decide +kernel
theorem dL_turnOrder_3 : decode cL_turnOrder 3 = .ok (.iload_n 1, 1) := by decide +kernel
theorem dL_turnOrder_4 : decode cL_turnOrder 4 = .ok (.invokevirtual 31, 3) := by decide +kernel
theorem dL_turnOrder_7 : decode cL_turnOrder 7 = .ok (.ifCond .eq 7, 3) := by decide +kernel
theorem dL_turnOrder_10 : decode cL_turnOrder 10 = .ok (.lconst 1, 1) := by decide +kernel
theorem dL_turnOrder_11 : decode cL_turnOrder 11 = .ok (.goto 4, 3) := by decide +kernel
theorem dL_turnOrder_14 : decode cL_turnOrder 14 = .ok (.lconst 0, 1) := by decide +kernel
theorem dL_turnOrder_15 : decode cL_turnOrder 15 = .ok (.lastore, 1) := by decide +kernel
theorem dL_turnOrder_16 : decode cL_turnOrder 16 = .ok (.goto 6, 3) := by decide +kernel
theorem dL_turnOrder_19 : decode cL_turnOrder 19 = .ok (.astore_n 3, 1) := by decide +kernel
theorem dL_turnOrder_20 : decode cL_turnOrder 20 = .ok (.iconst 1, 1) := by decide +kernel
theorem dL_turnOrder_21 : decode cL_turnOrder 21 = .ok (.ireturn, 1) := by decide +kernel
theorem dL_turnOrder_22 : decode cL_turnOrder 22 = .ok (.iconst 0, 1) := by decide +kernel
theorem dL_turnOrder_23 : decode cL_turnOrder 23 = .ok (.ireturn, 1) := by decide +kernel
set_option maxRecDepth 20000 in
theorem ggL_setShift_X0_setShift : GoodIn wsL_setShift wsX0_setShift := goodIn_ca (goodIn_r _ [6, 7, 8, 9, 5, 10, 11, 12, 13, 14, 15, 16, 17, 18, 19, 20, 21, 22, 23, 24, 25, 26, 27, 28] (by decide +kernel) (by decide +kernel)) (goodIn_sub (fun _ h => List.mem_cons_of_mem _ (List.mem_append_right _ h)) (by decide +kernel))
set_option maxRecDepth 20000 in
theorem gL_setShift_X0_setShift : GoodIn wsL_setShift (wsV RL 35 RX0 yX0_setShift wsX0_setShift) := goodIn_app (goodIn_of _ (by decide +kernel)) ggL_setShift_X0_setShift
theorem dL_setShift_0 : decode cL_setShift 0 = .ok (.aload_n 2, 1) := by decide +kernel
theorem dL_setShift_1 : decode cL_setShift 1 = .ok (.iconst 0, 1) := by decide +kernel
theorem dL_setShift_2 : decode cL_setShift 2 = .ok (.aload_n 0, 1) := by decide +kernel
theorem dL_setShift_3 : decode cL_setShift 3 = .ok (.iload_n 1, 1) := by decide +kernel
theorem dL_setShift_4 : decode cL_setShift 4 = .ok (.invokevirtual 35, 3) := by decide +kernel
theorem dL_setShift_7 : decode cL_setShift 7 = .ok (.i2l, 1) := by decide +kernel
theorem dL_setShift_8 : decode cL_setShift 8 = .ok (.lastore, 1) := by decide +kernel
theorem dL_setShift_9 : decode cL_setShift 9 = .ok (.goto 6, 3) := by decide +kernel
theorem dL_setShift_12 : decode cL_setShift 12 = .ok (.astore_n 3, 1) := by decide +kernel
theorem dL_setShift_13 : decode cL_setShift 13 = .ok (.iconst 1, 1) := by decide +kernel
theorem dL_setShift_14 : decode cL_setShift 14 = .ok (.ireturn, 1) := by decide +kernel
theorem dL_setShift_15 : decode cL_setShift 15 = .ok (.iconst 0, 1) := by decide +kernel
theorem dL_setShift_16 : decode cL_setShift 16 = .ok (.ireturn, 1) := by decide +kernel
set_option maxRecDepth 20000 in
theorem ggL_givePass_X0_givePass : GoodIn wsL_givePass wsX0_givePass := goodIn_ca (goodIn_ca (goodIn_r _ [7, 8, 9, 10, 11, 12, 13, 14, 15, 6, 16, 17, 18, 19, 20, 21, 22, 23, 24, 25, 26, 27, 28, 29, 30, 31, 32, 33, 34, 35, 36, 37, 38, 39, 40, 41, 42, 43, 44, 45, 46] (by decide +kernel) (by decide +kernel)) (goodIn_sub (fun _ h => List.mem_cons_of_mem _ (List.mem_append_left _ (List.mem_append_right _ h))) (by decide +kernel))) (goodIn_sub (fun _ h => List.mem_cons_of_mem _ (List.mem_append_right _ h)) (by decide +kernel))
set_option maxRecDepth 20000 in
theorem gL_givePass_X0_givePass : GoodIn wsL_givePass (wsV RL 38 RX0 yX0_givePass wsX0_givePass) := goodIn_app (goodIn_of _ (by decide +kernel)) ggL_givePass_X0_givePass
theorem dL_givePass_0 : decode cL_givePass 0 = .ok (.aload 4, 2) := by decide +kernel
theorem dL_givePass_2 : decode cL_givePass 2 = .ok (.iconst 0, 1) := by decide +kernel
theorem dL_givePass_3 : decode cL_givePass 3 = .ok (.aload_n 0, 1) := by decide +kernel
theorem dL_givePass_4 : decode cL_givePass 4 = .ok (.iload_n 1, 1) := by decide +kernel
theorem dL_givePass_5 : decode cL_givePass 5 = .ok (.iload_n 2, 1) := by decide +kernel
theorem dL_givePass_6 : decode cL_givePass 6 = .ok (.iload_n 3, 1) := by decide +kernel
theorem dL_givePass_7 : decode cL_givePass 7 = .ok (.invokevirtual 38, 3) := by decide +kernel
theorem dL_givePass_10 : decode cL_givePass 10 = .ok (.i2l, 1) := by decide +kernel
theorem dL_givePass_11 : decode cL_givePass 11 = .ok (.lastore, 1) := by decide +kernel
theorem dL_givePass_12 : decode cL_givePass 12 = .ok (.goto 11, 3) := by decide +kernel
theorem dL_givePass_15 : decode cL_givePass 15 = .ok (.astore 5, 2) := by decide +kernel
theorem dL_givePass_17 : decode cL_givePass 17 = .ok (.iconst 1, 1) := by decide +kernel
theorem dL_givePass_18 : decode cL_givePass 18 = .ok (.ireturn, 1) := by decide +kernel
theorem dL_givePass_19 : decode cL_givePass 19 = .ok (.astore 5, 2) := by decide +kernel
theorem dL_givePass_21 : decode cL_givePass 21 = .ok (.iconst 2, 1) := by decide +kernel
theorem dL_givePass_22 : decode cL_givePass 22 = .ok (.ireturn, 1) := by decide +kernel
theorem dL_givePass_23 : decode cL_givePass 23 = .ok (.iconst 0, 1) := by decide +kernel
theorem dL_givePass_24 : decode cL_givePass 24 = .ok (.ireturn, 1) := by decide +kernel
set_option maxRecDepth 20000 in
theorem ggL_takePass_X0_takePass : GoodIn wsL_takePass wsX0_takePass := goodIn_ca (goodIn_r _ [6, 7, 8, 9, 10, 5, 11, 12, 13, 14, 15, 16, 17, 18, 19, 20, 21, 22, 23, 24, 25, 26, 27, 28, 29, 30, 31, 32, 33, 34, 35, 36] (by decide +kernel) (by decide +kernel)) (goodIn_sub (fun _ h => List.mem_cons_of_mem _ (List.mem_append_right _ h)) (by decide +kernel))
set_option maxRecDepth 20000 in
theorem gL_takePass_X0_takePass : GoodIn wsL_takePass (wsV RL 42 RX0 yX0_takePass wsX0_takePass) := goodIn_app (goodIn_of _ (by decide +kernel)) ggL_takePass_X0_takePass
theorem dL_takePass_0 : decode cL_takePass 0 = .ok (.aload_n 3, 1) := by decide +kernel
theorem dL_takePass_1 : decode cL_takePass 1 = .ok (.iconst 0, 1) := by decide +kernel
theorem dL_takePass_2 : decode cL_takePass 2 = .ok (.aload_n 0, 1) := by decide +kernel
theorem dL_takePass_3 : decode cL_takePass 3 = .ok (.iload_n 1, 1) := by decide +kernel
theorem dL_takePass_4 : decode cL_takePass 4 = .ok (.iload_n 2, 1) := by decide +kernel
theorem dL_takePass_5 : decode cL_takePass 5 = .ok (.invokevirtual 42, 3) := by decide +kernel
theorem dL_takePass_8 : decode cL_takePass 8 = .ok (.i2l, 1) := by decide +kernel
theorem dL_takePass_9 : decode cL_takePass 9 = .ok (.lastore, 1) := by decide +kernel
theorem dL_takePass_10 : decode cL_takePass 10 = .ok (.goto 7, 3) := by decide +kernel
theorem dL_takePass_13 : decode cL_takePass 13 = .ok (.astore 4, 2) := by decide +kernel
theorem dL_takePass_15 : decode cL_takePass 15 = .ok (.iconst 1, 1) := by decide +kernel
theorem dL_takePass_16 : decode cL_takePass 16 = .ok (.ireturn, 1) := by decide +kernel
theorem dL_takePass_17 : decode cL_takePass 17 = .ok (.iconst 0, 1) := by decide +kernel
theorem dL_takePass_18 : decode cL_takePass 18 = .ok (.ireturn, 1) := by decide +kernel
set_option maxRecDepth 20000 in
theorem ggL_goOut_X0_goOut : GoodIn wsL_goOut wsX0_goOut := goodIn_ca (goodIn_r _ [6, 7, 8, 9, 10, 11, 12, 5, 13, 14, 15, 16, 17, 18, 19, 20, 21, 22, 23, 24, 25, 26, 27, 28, 29, 30, 31, 32, 33, 34, 35, 36, 37, 38, 39, 40, 41, 42, 43, 44, 45, 46, 47, 48, 49, 50, 51, 52, 53, 54, 55, 56, 57, 58, 59, 60, 61, 62, 63, 64, 65, 66, 67, 68, 69, 70, 71, 72, 73, 74, 75, 76, 77, 78, 79, 80, 81] (by decide +kernel) (by decide +kernel)) (goodIn_sub (fun _ h => List.mem_cons_of_mem _ (List.mem_append_right _ h)) (by decide +kernel))
set_option maxRecDepth 20000 in
theorem gL_goOut_X0_goOut : GoodIn wsL_goOut (wsV RL 46 RX0 yX0_goOut wsX0_goOut) := goodIn_app (goodIn_of _ (by decide +kernel)) ggL_goOut_X0_goOut
theorem dL_goOut_0 : decode cL_goOut 0 = .ok (.aload_n 3, 1) := by decide +kernel
theorem dL_goOut_1 : decode cL_goOut 1 = .ok (.iconst 0, 1) := by decide +kernel
theorem dL_goOut_2 : decode cL_goOut 2 = .ok (.aload_n 0, 1) := by decide +kernel
theorem dL_goOut_3 : decode cL_goOut 3 = .ok (.iload_n 1, 1) := by decide +kernel
theorem dL_goOut_4 : decode cL_goOut 4 = .ok (.iload_n 2, 1) := by decide +kernel
theorem dL_goOut_5 : decode cL_goOut 5 = .ok (.invokevirtual 46, 3) := by decide +kernel
theorem dL_goOut_8 : decode cL_goOut 8 = .ok (.i2l, 1) := by decide +kernel
theorem dL_goOut_9 : decode cL_goOut 9 = .ok (.lastore, 1) := by decide +kernel
theorem dL_goOut_10 : decode cL_goOut 10 = .ok (.goto 7, 3) := by decide +kernel
theorem dL_goOut_13 : decode cL_goOut 13 = .ok (.astore 4, 2) := by decide +kernel
theorem dL_goOut_15 : decode cL_goOut 15 = .ok (.iconst 1, 1) := by decide +kernel
theorem dL_goOut_16 : decode cL_goOut 16 = .ok (.ireturn, 1) := by decide +kernel
theorem dL_goOut_17 : decode cL_goOut 17 = .ok (.iconst 0, 1) := by decide +kernel
theorem dL_goOut_18 : decode cL_goOut 18 = .ok (.ireturn, 1) := by decide +kernel
set_option maxRecDepth 20000 in
theorem ggL_pass_X0_pass : GoodIn wsL_pass wsX0_pass := goodIn_ca (goodIn_r _ [6, 7, 8, 9, 10, 5, 11, 12, 13, 14, 15, 16, 17, 18, 19, 20, 21, 22, 23, 24, 25, 26, 27, 28, 29, 30, 31, 32, 33, 34, 35, 36, 37, 38, 39, 40, 41, 42, 43, 44, 45, 46, 47, 48, 49, 50, 51, 52, 53, 54, 55] (by decide +kernel) (by decide +kernel)) (goodIn_sub (fun _ h => List.mem_cons_of_mem _ (List.mem_append_right _ h)) (by decide +kernel))
set_option maxRecDepth 20000 in
theorem gL_pass_X0_pass : GoodIn wsL_pass (wsV RL 49 RX0 yX0_pass wsX0_pass) := goodIn_app (goodIn_of _ (by decide +kernel)) ggL_pass_X0_pass
theorem dL_pass_0 : decode cL_pass 0 = .ok (.aload_n 2, 1) := by decide +kernel
theorem dL_pass_1 : decode cL_pass 1 = .ok (.iconst 0, 1) := by decide +kernel
theorem dL_pass_2 : decode cL_pass 2 = .ok (.aload_n 0, 1) := by decide +kernel
theorem dL_pass_3 : decode cL_pass 3 = .ok (.iload_n 1, 1) := by decide +kernel
theorem dL_pass_4 : decode cL_pass 4 = .ok (.invokevirtual 49, 3) := by decide +kernel
theorem dL_pass_7 : decode cL_pass 7 = .ok (.i2l, 1) := by decide +kernel
theorem dL_pass_8 : decode cL_pass 8 = .ok (.lastore, 1) := by decide +kernel
theorem dL_pass_9 : decode cL_pass 9 = .ok (.goto 6, 3) := by decide +kernel
theorem dL_pass_12 : decode cL_pass 12 = .ok (.astore_n 3, 1) := by decide +kernel
theorem dL_pass_13 : decode cL_pass 13 = .ok (.iconst 1, 1) := by decide +kernel
theorem dL_pass_14 : decode cL_pass 14 = .ok (.ireturn, 1) := by decide +kernel
theorem dL_pass_15 : decode cL_pass 15 = .ok (.iconst 0, 1) := by decide +kernel
theorem dL_pass_16 : decode cL_pass 16 = .ok (.ireturn, 1) := by decide +kernel
set_option maxRecDepth 20000 in
theorem ggL_duskIn_X0_duskIn : GoodIn wsL_duskIn wsX0_duskIn := goodIn_ca (goodIn_r _ [6, 7, 8, 5, 9, 10, 11, 12, 13, 14, 15, 16, 17, 18, 19, 20, 21, 22, 23, 24, 25, 26, 27, 28, 29, 30, 31, 32, 33, 34, 35, 36, 37, 38, 39, 40] (by decide +kernel) (by decide +kernel)) (goodIn_sub (fun _ h => List.mem_cons_of_mem _ (List.mem_append_right _ h)) (by decide +kernel))
set_option maxRecDepth 20000 in
theorem gL_duskIn_X0_duskIn : GoodIn wsL_duskIn (wsV RL 52 RX0 yX0_duskIn wsX0_duskIn) := goodIn_app (goodIn_of _ (by decide +kernel)) ggL_duskIn_X0_duskIn
theorem dL_duskIn_0 : decode cL_duskIn 0 = .ok (.aload_n 2, 1) := by decide +kernel
theorem dL_duskIn_1 : decode cL_duskIn 1 = .ok (.iconst 0, 1) := by decide +kernel
theorem dL_duskIn_2 : decode cL_duskIn 2 = .ok (.aload_n 0, 1) := by decide +kernel
theorem dL_duskIn_3 : decode cL_duskIn 3 = .ok (.iload_n 1, 1) := by decide +kernel
theorem dL_duskIn_4 : decode cL_duskIn 4 = .ok (.invokevirtual 52, 3) := by decide +kernel
theorem dL_duskIn_7 : decode cL_duskIn 7 = .ok (.i2l, 1) := by decide +kernel
theorem dL_duskIn_8 : decode cL_duskIn 8 = .ok (.lastore, 1) := by decide +kernel
theorem dL_duskIn_9 : decode cL_duskIn 9 = .ok (.goto 6, 3) := by decide +kernel
theorem dL_duskIn_12 : decode cL_duskIn 12 = .ok (.astore_n 3, 1) := by decide +kernel
theorem dL_duskIn_13 : decode cL_duskIn 13 = .ok (.iconst 1, 1) := by decide +kernel
theorem dL_duskIn_14 : decode cL_duskIn 14 = .ok (.ireturn, 1) := by decide +kernel
theorem dL_duskIn_15 : decode cL_duskIn 15 = .ok (.iconst 0, 1) := by decide +kernel
theorem dL_duskIn_16 : decode cL_duskIn 16 = .ok (.ireturn, 1) := by decide +kernel
set_option maxRecDepth 20000 in
theorem ggL_dawnIn_X0_dawnIn : GoodIn wsL_dawnIn wsX0_dawnIn := goodIn_ca (goodIn_r _ [6, 7, 8, 5, 9, 10, 11, 12, 13, 14, 15, 16, 17, 18, 19, 20, 21, 22, 23, 24, 25, 26, 27, 28, 29, 30, 31, 32, 33, 34, 35, 36, 37, 38] (by decide +kernel) (by decide +kernel)) (goodIn_sub (fun _ h => List.mem_cons_of_mem _ (List.mem_append_right _ h)) (by decide +kernel))
set_option maxRecDepth 20000 in
theorem gL_dawnIn_X0_dawnIn : GoodIn wsL_dawnIn (wsV RL 55 RX0 yX0_dawnIn wsX0_dawnIn) := goodIn_app (goodIn_of _ (by decide +kernel)) ggL_dawnIn_X0_dawnIn
theorem dL_dawnIn_0 : decode cL_dawnIn 0 = .ok (.aload_n 2, 1) := by decide +kernel
theorem dL_dawnIn_1 : decode cL_dawnIn 1 = .ok (.iconst 0, 1) := by decide +kernel
theorem dL_dawnIn_2 : decode cL_dawnIn 2 = .ok (.aload_n 0, 1) := by decide +kernel
theorem dL_dawnIn_3 : decode cL_dawnIn 3 = .ok (.iload_n 1, 1) := by decide +kernel
theorem dL_dawnIn_4 : decode cL_dawnIn 4 = .ok (.invokevirtual 55, 3) := by decide +kernel
theorem dL_dawnIn_7 : decode cL_dawnIn 7 = .ok (.i2l, 1) := by decide +kernel
theorem dL_dawnIn_8 : decode cL_dawnIn 8 = .ok (.lastore, 1) := by decide +kernel
theorem dL_dawnIn_9 : decode cL_dawnIn 9 = .ok (.goto 6, 3) := by decide +kernel
theorem dL_dawnIn_12 : decode cL_dawnIn 12 = .ok (.astore_n 3, 1) := by decide +kernel
theorem dL_dawnIn_13 : decode cL_dawnIn 13 = .ok (.iconst 1, 1) := by decide +kernel
theorem dL_dawnIn_14 : decode cL_dawnIn 14 = .ok (.ireturn, 1) := by decide +kernel
theorem dL_dawnIn_15 : decode cL_dawnIn 15 = .ok (.iconst 0, 1) := by decide +kernel
theorem dL_dawnIn_16 : decode cL_dawnIn 16 = .ok (.ireturn, 1) := by decide +kernel
set_option maxRecDepth 20000 in
theorem ggL_quarterOf_X0_quarterOf : GoodIn wsL_quarterOf wsX0_quarterOf := goodIn_ca (goodIn_r _ [6, 7, 8, 9, 10, 5, 11, 12, 13, 14, 15, 16, 17, 18, 19, 20, 21, 22, 23, 24, 25, 26, 27, 28, 29, 30] (by decide +kernel) (by decide +kernel)) (goodIn_sub (fun _ h => List.mem_cons_of_mem _ (List.mem_append_right _ h)) (by decide +kernel))
set_option maxRecDepth 20000 in
theorem gL_quarterOf_X0_quarterOf : GoodIn wsL_quarterOf (wsV RL 58 RX0 yX0_quarterOf wsX0_quarterOf) := goodIn_app (goodIn_of _ (by decide +kernel)) ggL_quarterOf_X0_quarterOf
theorem dL_quarterOf_0 : decode cL_quarterOf 0 = .ok (.aload_n 2, 1) := by decide +kernel
theorem dL_quarterOf_1 : decode cL_quarterOf 1 = .ok (.iconst 0, 1) := by decide +kernel
theorem dL_quarterOf_2 : decode cL_quarterOf 2 = .ok (.aload_n 0, 1) := by decide +kernel
theorem dL_quarterOf_3 : decode cL_quarterOf 3 = .ok (.iload_n 1, 1) := by decide +kernel
theorem dL_quarterOf_4 : decode cL_quarterOf 4 = .ok (.invokevirtual 58, 3) := by decide +kernel
theorem dL_quarterOf_7 : decode cL_quarterOf 7 = .ok (.i2l, 1) := by decide +kernel
theorem dL_quarterOf_8 : decode cL_quarterOf 8 = .ok (.lastore, 1) := by decide +kernel
theorem dL_quarterOf_9 : decode cL_quarterOf 9 = .ok (.goto 6, 3) := by decide +kernel
theorem dL_quarterOf_12 : decode cL_quarterOf 12 = .ok (.astore_n 3, 1) := by decide +kernel
theorem dL_quarterOf_13 : decode cL_quarterOf 13 = .ok (.iconst 1, 1) := by decide +kernel
theorem dL_quarterOf_14 : decode cL_quarterOf 14 = .ok (.ireturn, 1) := by decide +kernel
theorem dL_quarterOf_15 : decode cL_quarterOf 15 = .ok (.iconst 0, 1) := by decide +kernel
theorem dL_quarterOf_16 : decode cL_quarterOf 16 = .ok (.ireturn, 1) := by decide +kernel
set_option maxRecDepth 20000 in
theorem ggL_colourOf_X0_colourOf : GoodIn wsL_colourOf wsX0_colourOf := goodIn_ca (goodIn_r _ [6, 7, 8, 9, 10, 5, 11, 12, 13, 14, 15, 16, 17, 18, 19, 20, 21, 22, 23, 24, 25, 26, 27, 28, 29, 30] (by decide +kernel) (by decide +kernel)) (goodIn_sub (fun _ h => List.mem_cons_of_mem _ (List.mem_append_right _ h)) (by decide +kernel))
set_option maxRecDepth 20000 in
theorem gL_colourOf_X0_colourOf : GoodIn wsL_colourOf (wsV RL 61 RX0 yX0_colourOf wsX0_colourOf) := goodIn_app (goodIn_of _ (by decide +kernel)) ggL_colourOf_X0_colourOf
theorem dL_colourOf_0 : decode cL_colourOf 0 = .ok (.aload_n 2, 1) := by decide +kernel
theorem dL_colourOf_1 : decode cL_colourOf 1 = .ok (.iconst 0, 1) := by decide +kernel
theorem dL_colourOf_2 : decode cL_colourOf 2 = .ok (.aload_n 0, 1) := by decide +kernel
theorem dL_colourOf_3 : decode cL_colourOf 3 = .ok (.iload_n 1, 1) := by decide +kernel
theorem dL_colourOf_4 : decode cL_colourOf 4 = .ok (.invokevirtual 61, 3) := by decide +kernel
theorem dL_colourOf_7 : decode cL_colourOf 7 = .ok (.i2l, 1) := by decide +kernel
theorem dL_colourOf_8 : decode cL_colourOf 8 = .ok (.lastore, 1) := by decide +kernel
theorem dL_colourOf_9 : decode cL_colourOf 9 = .ok (.goto 6, 3) := by decide +kernel
theorem dL_colourOf_12 : decode cL_colourOf 12 = .ok (.astore_n 3, 1) := by decide +kernel
theorem dL_colourOf_13 : decode cL_colourOf 13 = .ok (.iconst 1, 1) := by decide +kernel
theorem dL_colourOf_14 : decode cL_colourOf 14 = .ok (.ireturn, 1) := by decide +kernel
theorem dL_colourOf_15 : decode cL_colourOf 15 = .ok (.iconst 0, 1) := by decide +kernel
theorem dL_colourOf_16 : decode cL_colourOf 16 = .ok (.ireturn, 1) := by decide +kernel
set_option maxRecDepth 20000 in
theorem ggL_isInForce_X0_isInForce : GoodIn wsL_isInForce wsX0_isInForce := goodIn_ca (goodIn_r _ [6, 7, 8, 9, 10, 5, 11, 12, 13, 14, 15, 16, 17, 18, 19, 20, 21, 22, 23, 24, 25, 26, 27, 28, 29, 30] (by decide +kernel) (by decide +kernel)) (goodIn_sub (fun _ h => List.mem_cons_of_mem _ (List.mem_append_right _ h)) (by decide +kernel))
set_option maxRecDepth 20000 in
theorem gL_isInForce_X0_isInForce : GoodIn wsL_isInForce (wsV RL 64 RX0 yX0_isInForce wsX0_isInForce) := goodIn_app (goodIn_of _ (by decide +kernel)) ggL_isInForce_X0_isInForce
theorem dL_isInForce_0 : decode cL_isInForce 0 = .ok (.aload_n 2, 1) := by decide +kernel
theorem dL_isInForce_1 : decode cL_isInForce 1 = .ok (.iconst 0, 1) := by decide +kernel
theorem dL_isInForce_2 : decode cL_isInForce 2 = .ok (.aload_n 0, 1) := by decide +kernel
theorem dL_isInForce_3 : decode cL_isInForce 3 = .ok (.iload_n 1, 1) := by decide +kernel
theorem dL_isInForce_4 : decode cL_isInForce 4 = .ok (.invokevirtual 64, 3) := by decide +kernel
theorem dL_isInForce_7 : decode cL_isInForce 7 = .ok (.ifCond .eq 7, 3) := by decide +kernel
theorem dL_isInForce_10 : decode cL_isInForce 10 = .ok (.lconst 1, 1) := by decide +kernel
theorem dL_isInForce_11 : decode cL_isInForce 11 = .ok (.goto 4, 3) := by decide +kernel
theorem dL_isInForce_14 : decode cL_isInForce 14 = .ok (.lconst 0, 1) := by decide +kernel
theorem dL_isInForce_15 : decode cL_isInForce 15 = .ok (.lastore, 1) := by decide +kernel
theorem dL_isInForce_16 : decode cL_isInForce 16 = .ok (.goto 6, 3) := by decide +kernel
theorem dL_isInForce_19 : decode cL_isInForce 19 = .ok (.astore_n 3, 1) := by decide +kernel
theorem dL_isInForce_20 : decode cL_isInForce 20 = .ok (.iconst 1, 1) := by decide +kernel
theorem dL_isInForce_21 : decode cL_isInForce 21 = .ok (.ireturn, 1) := by decide +kernel
theorem dL_isInForce_22 : decode cL_isInForce 22 = .ok (.iconst 0, 1) := by decide +kernel
theorem dL_isInForce_23 : decode cL_isInForce 23 = .ok (.ireturn, 1) := by decide +kernel
set_option maxRecDepth 20000 in
theorem ggL_isOn_X0_isOn : GoodIn wsL_isOn wsX0_isOn := goodIn_ca (goodIn_r _ [6, 7, 8, 9, 10, 5, 11, 12, 13, 14, 15, 16, 17, 18, 19, 20, 21, 22, 23, 24, 25, 26, 27, 28, 29, 30, 31, 32, 33, 34, 35, 36, 37, 38, 39, 40, 41, 42, 43, 44, 45, 46, 47, 48, 49, 50, 51, 52] (by decide +kernel) (by decide +kernel)) (goodIn_sub (fun _ h => List.mem_cons_of_mem _ (List.mem_append_right _ h)) (by decide +kernel))
set_option maxRecDepth 20000 in
theorem gL_isOn_X0_isOn : GoodIn wsL_isOn (wsV RL 67 RX0 yX0_isOn wsX0_isOn) := goodIn_app (goodIn_of _ (by decide +kernel)) ggL_isOn_X0_isOn
theorem dL_isOn_0 : decode cL_isOn 0 = .ok (.aload_n 2, 1) := by decide +kernel
theorem dL_isOn_1 : decode cL_isOn 1 = .ok (.iconst 0, 1) := by decide +kernel
theorem dL_isOn_2 : decode cL_isOn 2 = .ok (.aload_n 0, 1) := by decide +kernel
theorem dL_isOn_3 : decode cL_isOn 3 = .ok (.iload_n 1, 1) := by decide +kernel
theorem dL_isOn_4 : decode cL_isOn 4 = .ok (.invokevirtual 67, 3) := by decide +kernel
theorem dL_isOn_7 : decode cL_isOn 7 = .ok (.ifCond .eq 7, 3) := by decide +kernel
theorem dL_isOn_10 : decode cL_isOn 10 = .ok (.lconst 1, 1) := by decide +kernel
theorem dL_isOn_11 : decode cL_isOn 11 = .ok (.goto 4, 3) := by decide +kernel
theorem dL_isOn_14 : decode cL_isOn 14 = .ok (.lconst 0, 1) := by decide +kernel
theorem dL_isOn_15 : decode cL_isOn 15 = .ok (.lastore, 1) := by decide +kernel
theorem dL_isOn_16 : decode cL_isOn 16 = .ok (.goto 6, 3) := by decide +kernel
theorem dL_isOn_19 : decode cL_isOn 19 = .ok (.astore_n 3, 1) := by decide +kernel
theorem dL_isOn_20 : decode cL_isOn 20 = .ok (.iconst 1, 1) := by decide +kernel
theorem dL_isOn_21 : decode cL_isOn 21 = .ok (.ireturn, 1) := by decide +kernel
theorem dL_isOn_22 : decode cL_isOn 22 = .ok (.iconst 0, 1) := by decide +kernel
theorem dL_isOn_23 : decode cL_isOn 23 = .ok (.ireturn, 1) := by decide +kernel
set_option maxRecDepth 20000 in
theorem ggL_isExempt_X0_isExempt : GoodIn wsL_isExempt wsX0_isExempt := goodIn_ca (goodIn_r _ [6, 7, 8, 9, 5, 10, 11, 12, 13, 14, 15, 16, 17, 18, 19, 20, 21, 22, 23, 24, 25, 26, 27, 28, 29, 30, 31, 32, 33, 34, 35, 36, 37] (by decide +kernel) (by decide +kernel)) (goodIn_sub (fun _ h => List.mem_cons_of_mem _ (List.mem_append_right _ h)) (by decide +kernel))
set_option maxRecDepth 20000 in
theorem gL_isExempt_X0_isExempt : GoodIn wsL_isExempt (wsV RL 70 RX0 yX0_isExempt wsX0_isExempt) := goodIn_app (goodIn_of _ (by decide +kernel)) ggL_isExempt_X0_isExempt
theorem dL_isExempt_0 : decode cL_isExempt 0 = .ok (.aload_n 3, 1) := by decide +kernel
theorem dL_isExempt_1 : decode cL_isExempt 1 = .ok (.iconst 0, 1) := by decide +kernel
theorem dL_isExempt_2 : decode cL_isExempt 2 = .ok (.aload_n 0, 1) := by decide +kernel
theorem dL_isExempt_3 : decode cL_isExempt 3 = .ok (.iload_n 1, 1) := by decide +kernel
theorem dL_isExempt_4 : decode cL_isExempt 4 = .ok (.iload_n 2, 1) := by decide +kernel
theorem dL_isExempt_5 : decode cL_isExempt 5 = .ok (.invokevirtual 70, 3) := by decide +kernel
theorem dL_isExempt_8 : decode cL_isExempt 8 = .ok (.ifCond .eq 7, 3) := by decide +kernel
theorem dL_isExempt_11 : decode cL_isExempt 11 = .ok (.lconst 1, 1) := by decide +kernel
theorem dL_isExempt_12 : decode cL_isExempt 12 = .ok (.goto 4, 3) := by decide +kernel
theorem dL_isExempt_15 : decode cL_isExempt 15 = .ok (.lconst 0, 1) := by decide +kernel
theorem dL_isExempt_16 : decode cL_isExempt 16 = .ok (.lastore, 1) := by decide +kernel
theorem dL_isExempt_17 : decode cL_isExempt 17 = .ok (.goto 7, 3) := by decide +kernel
theorem dL_isExempt_20 : decode cL_isExempt 20 = .ok (.astore 4, 2) := by decide +kernel
theorem dL_isExempt_22 : decode cL_isExempt 22 = .ok (.iconst 1, 1) := by decide +kernel
theorem dL_isExempt_23 : decode cL_isExempt 23 = .ok (.ireturn, 1) := by decide +kernel
theorem dL_isExempt_24 : decode cL_isExempt 24 = .ok (.iconst 0, 1) := by decide +kernel
theorem dL_isExempt_25 : decode cL_isExempt 25 = .ok (.ireturn, 1) := by decide +kernel
set_option maxRecDepth 20000 in
theorem ggL_barredBy_X0_barredBy : GoodIn wsL_barredBy wsX0_barredBy := goodIn_ca (goodIn_r _ [6, 7, 8, 9, 10, 11, 12, 5, 13, 14, 15, 16, 17, 18, 19, 20, 21, 22, 23, 24, 25, 26, 27, 28, 29, 30, 31, 32, 33, 34, 35, 36, 37, 38, 39, 40, 41, 42, 43, 44, 45, 46, 47, 48, 49, 50, 51, 52, 53, 54, 55, 56, 57, 58, 59, 60] (by decide +kernel) (by decide +kernel)) (goodIn_sub (fun _ h => List.mem_cons_of_mem _ (List.mem_append_right _ h)) (by decide +kernel))
set_option maxRecDepth 20000 in
theorem gL_barredBy_X0_barredBy : GoodIn wsL_barredBy (wsV RL 73 RX0 yX0_barredBy wsX0_barredBy) := goodIn_app (goodIn_of _ (by decide +kernel)) ggL_barredBy_X0_barredBy
theorem dL_barredBy_0 : decode cL_barredBy 0 = .ok (.aload_n 2, 1) := by decide +kernel
theorem dL_barredBy_1 : decode cL_barredBy 1 = .ok (.iconst 0, 1) := by decide +kernel
theorem dL_barredBy_2 : decode cL_barredBy 2 = .ok (.aload_n 0, 1) := by decide +kernel
theorem dL_barredBy_3 : decode cL_barredBy 3 = .ok (.iload_n 1, 1) := by decide +kernel
theorem dL_barredBy_4 : decode cL_barredBy 4 = .ok (.invokevirtual 73, 3) := by decide +kernel
theorem dL_barredBy_7 : decode cL_barredBy 7 = .ok (.i2l, 1) := by decide +kernel
theorem dL_barredBy_8 : decode cL_barredBy 8 = .ok (.lastore, 1) := by decide +kernel
theorem dL_barredBy_9 : decode cL_barredBy 9 = .ok (.goto 6, 3) := by decide +kernel
theorem dL_barredBy_12 : decode cL_barredBy 12 = .ok (.astore_n 3, 1) := by decide +kernel
theorem dL_barredBy_13 : decode cL_barredBy 13 = .ok (.iconst 1, 1) := by decide +kernel
theorem dL_barredBy_14 : decode cL_barredBy 14 = .ok (.ireturn, 1) := by decide +kernel
theorem dL_barredBy_15 : decode cL_barredBy 15 = .ok (.iconst 0, 1) := by decide +kernel
theorem dL_barredBy_16 : decode cL_barredBy 16 = .ok (.ireturn, 1) := by decide +kernel
set_option maxRecDepth 20000 in
theorem ggL_tradeOf_X0_tradeOf : GoodIn wsL_tradeOf wsX0_tradeOf := goodIn_ca (goodIn_r _ [6, 7, 8, 9, 10, 5, 11, 12, 13, 14, 15, 16, 17, 18, 19, 20, 21, 22, 23, 24, 25, 26, 27, 28, 29, 30] (by decide +kernel) (by decide +kernel)) (goodIn_sub (fun _ h => List.mem_cons_of_mem _ (List.mem_append_right _ h)) (by decide +kernel))
set_option maxRecDepth 20000 in
theorem gL_tradeOf_X0_tradeOf : GoodIn wsL_tradeOf (wsV RL 76 RX0 yX0_tradeOf wsX0_tradeOf) := goodIn_app (goodIn_of _ (by decide +kernel)) ggL_tradeOf_X0_tradeOf
theorem dL_tradeOf_0 : decode cL_tradeOf 0 = .ok (.aload_n 2, 1) := by decide +kernel
theorem dL_tradeOf_1 : decode cL_tradeOf 1 = .ok (.iconst 0, 1) := by decide +kernel
theorem dL_tradeOf_2 : decode cL_tradeOf 2 = .ok (.aload_n 0, 1) := by decide +kernel
theorem dL_tradeOf_3 : decode cL_tradeOf 3 = .ok (.iload_n 1, 1) := by decide +kernel
theorem dL_tradeOf_4 : decode cL_tradeOf 4 = .ok (.invokevirtual 76, 3) := by decide +kernel
theorem dL_tradeOf_7 : decode cL_tradeOf 7 = .ok (.i2l, 1) := by decide +kernel
theorem dL_tradeOf_8 : decode cL_tradeOf 8 = .ok (.lastore, 1) := by decide +kernel
theorem dL_tradeOf_9 : decode cL_tradeOf 9 = .ok (.goto 6, 3) := by decide +kernel
theorem dL_tradeOf_12 : decode cL_tradeOf 12 = .ok (.astore_n 3, 1) := by decide +kernel
theorem dL_tradeOf_13 : decode cL_tradeOf 13 = .ok (.iconst 1, 1) := by decide +kernel
theorem dL_tradeOf_14 : decode cL_tradeOf 14 = .ok (.ireturn, 1) := by decide +kernel
theorem dL_tradeOf_15 : decode cL_tradeOf 15 = .ok (.iconst 0, 1) := by decide +kernel
theorem dL_tradeOf_16 : decode cL_tradeOf 16 = .ok (.ireturn, 1) := by decide +kernel
set_option maxRecDepth 20000 in
theorem ggL_stampsOf_X0_stampsOf : GoodIn wsL_stampsOf wsX0_stampsOf := goodIn_ca (goodIn_r _ [6, 7, 8, 9, 10, 5, 11, 12, 13, 14, 15, 16, 17, 18, 19, 20, 21, 22, 23, 24, 25, 26, 27, 28, 29, 30, 31, 32, 33, 34, 35, 36] (by decide +kernel) (by decide +kernel)) (goodIn_sub (fun _ h => List.mem_cons_of_mem _ (List.mem_append_right _ h)) (by decide +kernel))
set_option maxRecDepth 20000 in
theorem gL_stampsOf_X0_stampsOf : GoodIn wsL_stampsOf (wsV RL 79 RX0 yX0_stampsOf wsX0_stampsOf) := goodIn_app (goodIn_of _ (by decide +kernel)) ggL_stampsOf_X0_stampsOf
theorem dL_stampsOf_0 : decode cL_stampsOf 0 = .ok (.aload_n 3, 1) := by decide +kernel
theorem dL_stampsOf_1 : decode cL_stampsOf 1 = .ok (.iconst 0, 1) := by decide +kernel
theorem dL_stampsOf_2 : decode cL_stampsOf 2 = .ok (.aload_n 0, 1) := by decide +kernel
theorem dL_stampsOf_3 : decode cL_stampsOf 3 = .ok (.iload_n 1, 1) := by decide +kernel
theorem dL_stampsOf_4 : decode cL_stampsOf 4 = .ok (.iload_n 2, 1) := by decide +kernel
theorem dL_stampsOf_5 : decode cL_stampsOf 5 = .ok (.invokevirtual 79, 3) := by decide +kernel
theorem dL_stampsOf_8 : decode cL_stampsOf 8 = .ok (.i2l, 1) := by decide +kernel
theorem dL_stampsOf_9 : decode cL_stampsOf 9 = .ok (.lastore, 1) := by decide +kernel
theorem dL_stampsOf_10 : decode cL_stampsOf 10 = .ok (.goto 7, 3) := by decide +kernel
theorem dL_stampsOf_13 : decode cL_stampsOf 13 = .ok (.astore 4, 2) := by decide +kernel
theorem dL_stampsOf_15 : decode cL_stampsOf 15 = .ok (.iconst 1, 1) := by decide +kernel
theorem dL_stampsOf_16 : decode cL_stampsOf 16 = .ok (.ireturn, 1) := by decide +kernel
theorem dL_stampsOf_17 : decode cL_stampsOf 17 = .ok (.iconst 0, 1) := by decide +kernel
theorem dL_stampsOf_18 : decode cL_stampsOf 18 = .ok (.ireturn, 1) := by decide +kernel
set_option maxRecDepth 20000 in
theorem ggL_owes_X0_owes : GoodIn wsL_owes wsX0_owes := goodIn_ca (goodIn_r _ [6, 7, 8, 9, 10, 5, 11, 12, 13, 14, 15, 16, 17, 18, 19, 20, 21, 22, 23, 24, 25, 26, 27, 28, 29, 30] (by decide +kernel) (by decide +kernel)) (goodIn_sub (fun _ h => List.mem_cons_of_mem _ (List.mem_append_right _ h)) (by decide +kernel))
set_option maxRecDepth 20000 in
theorem gL_owes_X0_owes : GoodIn wsL_owes (wsV RL 82 RX0 yX0_owes wsX0_owes) := goodIn_app (goodIn_of _ (by decide +kernel)) ggL_owes_X0_owes
theorem dL_owes_0 : decode cL_owes 0 = .ok (.aload_n 2, 1) := by decide +kernel
theorem dL_owes_1 : decode cL_owes 1 = .ok (.iconst 0, 1) := by decide +kernel
theorem dL_owes_2 : decode cL_owes 2 = .ok (.aload_n 0, 1) := by decide +kernel
theorem dL_owes_3 : decode cL_owes 3 = .ok (.iload_n 1, 1) := by decide +kernel
theorem dL_owes_4 : decode cL_owes 4 = .ok (.invokevirtual 82, 3) := by decide +kernel
theorem dL_owes_7 : decode cL_owes 7 = .ok (.i2l, 1) := by decide +kernel
theorem dL_owes_8 : decode cL_owes 8 = .ok (.lastore, 1) := by decide +kernel
theorem dL_owes_9 : decode cL_owes 9 = .ok (.goto 6, 3) := by decide +kernel
theorem dL_owes_12 : decode cL_owes 12 = .ok (.astore_n 3, 1) := by decide +kernel
theorem dL_owes_13 : decode cL_owes 13 = .ok (.iconst 1, 1) := by decide +kernel
theorem dL_owes_14 : decode cL_owes 14 = .ok (.ireturn, 1) := by decide +kernel
theorem dL_owes_15 : decode cL_owes 15 = .ok (.iconst 0, 1) := by decide +kernel
theorem dL_owes_16 : decode cL_owes 16 = .ok (.ireturn, 1) := by decide +kernel
set_option maxRecDepth 20000 in
theorem ggL_timesFined_X0_timesFined : GoodIn wsL_timesFined wsX0_timesFined := goodIn_ca (goodIn_r _ [6, 7, 8, 9, 10, 5, 11, 12, 13, 14, 15, 16, 17, 18, 19, 20, 21, 22, 23, 24, 25, 26, 27, 28, 29, 30] (by decide +kernel) (by decide +kernel)) (goodIn_sub (fun _ h => List.mem_cons_of_mem _ (List.mem_append_right _ h)) (by decide +kernel))
set_option maxRecDepth 20000 in
theorem gL_timesFined_X0_timesFined : GoodIn wsL_timesFined (wsV RL 85 RX0 yX0_timesFined wsX0_timesFined) := goodIn_app (goodIn_of _ (by decide +kernel)) ggL_timesFined_X0_timesFined
theorem dL_timesFined_0 : decode cL_timesFined 0 = .ok (.aload_n 2, 1) := by decide +kernel
theorem dL_timesFined_1 : decode cL_timesFined 1 = .ok (.iconst 0, 1) := by decide +kernel
theorem dL_timesFined_2 : decode cL_timesFined 2 = .ok (.aload_n 0, 1) := by decide +kernel
theorem dL_timesFined_3 : decode cL_timesFined 3 = .ok (.iload_n 1, 1) := by decide +kernel
theorem dL_timesFined_4 : decode cL_timesFined 4 = .ok (.invokevirtual 85, 3) := by decide +kernel
theorem dL_timesFined_7 : decode cL_timesFined 7 = .ok (.i2l, 1) := by decide +kernel
theorem dL_timesFined_8 : decode cL_timesFined 8 = .ok (.lastore, 1) := by decide +kernel
theorem dL_timesFined_9 : decode cL_timesFined 9 = .ok (.goto 6, 3) := by decide +kernel
theorem dL_timesFined_12 : decode cL_timesFined 12 = .ok (.astore_n 3, 1) := by decide +kernel
theorem dL_timesFined_13 : decode cL_timesFined 13 = .ok (.iconst 1, 1) := by decide +kernel
theorem dL_timesFined_14 : decode cL_timesFined 14 = .ok (.ireturn, 1) := by decide +kernel
theorem dL_timesFined_15 : decode cL_timesFined 15 = .ok (.iconst 0, 1) := by decide +kernel
theorem dL_timesFined_16 : decode cL_timesFined 16 = .ok (.ireturn, 1) := by decide +kernel
set_option maxRecDepth 20000 in
theorem ggL_ordersAgainst_X0_ordersAgainst : GoodIn wsL_ordersAgainst wsX0_ordersAgainst := goodIn_ca (goodIn_r _ [6, 7, 8, 9, 10, 11, 5, 12, 13, 14, 15, 16, 17, 18, 19, 20, 21, 22, 23, 24, 25, 26, 27, 28, 29, 30, 31, 32, 33, 34, 35, 36, 37, 38, 39, 40, 41, 42, 43, 44, 45, 46, 47, 48, 49, 50, 51, 52, 53, 54, 55, 56, 57, 58, 59, 60, 61, 62, 63, 64, 65] (by decide +kernel) (by decide +kernel)) (goodIn_sub (fun _ h => List.mem_cons_of_mem _ (List.mem_append_right _ h)) (by decide +kernel))
set_option maxRecDepth 20000 in
theorem gL_ordersAgainst_X0_ordersAgainst : GoodIn wsL_ordersAgainst (wsV RL 88 RX0 yX0_ordersAgainst wsX0_ordersAgainst) := goodIn_app (goodIn_of _ (by decide +kernel)) ggL_ordersAgainst_X0_ordersAgainst
theorem dL_ordersAgainst_0 : decode cL_ordersAgainst 0 = .ok (.aload_n 3, 1) := by decide +kernel
theorem dL_ordersAgainst_1 : decode cL_ordersAgainst 1 = .ok (.iconst 0, 1) := by decide +kernel
theorem dL_ordersAgainst_2 : decode cL_ordersAgainst 2 = .ok (.aload_n 0, 1) := by decide +kernel
theorem dL_ordersAgainst_3 : decode cL_ordersAgainst 3 = .ok (.iload_n 1, 1) := by decide +kernel
theorem dL_ordersAgainst_4 : decode cL_ordersAgainst 4 = .ok (.iload_n 2, 1) := by decide +kernel
theorem dL_ordersAgainst_5 : decode cL_ordersAgainst 5 = .ok (.invokevirtual 88, 3) := by decide +kernel
theorem dL_ordersAgainst_8 : decode cL_ordersAgainst 8 = .ok (.i2l, 1) := by decide +kernel
theorem dL_ordersAgainst_9 : decode cL_ordersAgainst 9 = .ok (.lastore, 1) := by decide +kernel
theorem dL_ordersAgainst_10 : decode cL_ordersAgainst 10 = .ok (.goto 7, 3) := by decide +kernel
theorem dL_ordersAgainst_13 : decode cL_ordersAgainst 13 = .ok (.astore 4, 2) := by decide +kernel
theorem dL_ordersAgainst_15 : decode cL_ordersAgainst 15 = .ok (.iconst 1, 1) := by decide +kernel
theorem dL_ordersAgainst_16 : decode cL_ordersAgainst 16 = .ok (.ireturn, 1) := by decide +kernel
theorem dL_ordersAgainst_17 : decode cL_ordersAgainst 17 = .ok (.iconst 0, 1) := by decide +kernel
theorem dL_ordersAgainst_18 : decode cL_ordersAgainst 18 = .ok (.ireturn, 1) := by decide +kernel
set_option maxRecDepth 20000 in
theorem ggL_mayGo_X0_mayGo : GoodIn wsL_mayGo wsX0_mayGo := goodIn_ca (goodIn_r _ [6, 7, 8, 9, 5, 10, 11, 12, 13, 14, 15, 16, 17, 18, 19, 20, 21, 22, 23, 24, 25, 26, 27, 28, 29, 30, 31, 32, 33, 34, 35, 36, 37, 38, 39, 40, 41, 42, 43, 44, 45, 46, 47, 48, 49, 50, 51, 52, 53, 54, 55, 56, 57, 58, 59, 60, 61, 62, 63, 64, 65, 66, 67, 68, 69, 70, 71, 72, 73, 74, 75, 76, 77, 78] (by decide +kernel) (by decide +kernel)) (goodIn_sub (fun _ h => List.mem_cons_of_mem _ (List.mem_append_right _ h)) (by decide +kernel))
set_option maxRecDepth 20000 in
theorem gL_mayGo_X0_mayGo : GoodIn wsL_mayGo (wsV RL 91 RX0 yX0_mayGo wsX0_mayGo) := goodIn_app (goodIn_of _ (by decide +kernel)) ggL_mayGo_X0_mayGo
theorem dL_mayGo_0 : decode cL_mayGo 0 = .ok (.aload_n 3, 1) := by decide +kernel
theorem dL_mayGo_1 : decode cL_mayGo 1 = .ok (.iconst 0, 1) := by decide +kernel
theorem dL_mayGo_2 : decode cL_mayGo 2 = .ok (.aload_n 0, 1) := by decide +kernel
theorem dL_mayGo_3 : decode cL_mayGo 3 = .ok (.iload_n 1, 1) := by decide +kernel
theorem dL_mayGo_4 : decode cL_mayGo 4 = .ok (.iload_n 2, 1) := by decide +kernel
theorem dL_mayGo_5 : decode cL_mayGo 5 = .ok (.invokevirtual 91, 3) := by decide +kernel
theorem dL_mayGo_8 : decode cL_mayGo 8 = .ok (.ifCond .eq 7, 3) := by decide +kernel
theorem dL_mayGo_11 : decode cL_mayGo 11 = .ok (.lconst 1, 1) := by decide +kernel
theorem dL_mayGo_12 : decode cL_mayGo 12 = .ok (.goto 4, 3) := by decide +kernel
theorem dL_mayGo_15 : decode cL_mayGo 15 = .ok (.lconst 0, 1) := by decide +kernel
theorem dL_mayGo_16 : decode cL_mayGo 16 = .ok (.lastore, 1) := by decide +kernel
theorem dL_mayGo_17 : decode cL_mayGo 17 = .ok (.goto 7, 3) := by decide +kernel
theorem dL_mayGo_20 : decode cL_mayGo 20 = .ok (.astore 4, 2) := by decide +kernel
theorem dL_mayGo_22 : decode cL_mayGo 22 = .ok (.iconst 1, 1) := by decide +kernel
theorem dL_mayGo_23 : decode cL_mayGo 23 = .ok (.ireturn, 1) := by decide +kernel
theorem dL_mayGo_24 : decode cL_mayGo 24 = .ok (.iconst 0, 1) := by decide +kernel
theorem dL_mayGo_25 : decode cL_mayGo 25 = .ok (.ireturn, 1) := by decide +kernel
set_option maxRecDepth 20000 in
theorem ggL_stampsMissing_X0_stampsMissing : GoodIn wsL_stampsMissing wsX0_stampsMissing := goodIn_ca (goodIn_r _ [6, 7, 8, 9, 5, 10, 11, 12, 13, 14, 15, 16, 17, 18, 19, 20, 21, 22, 23, 24, 25, 26, 27, 28, 29, 30, 31, 32, 33, 34, 35, 36, 37, 38, 39, 40, 41, 42, 43, 44, 45, 46, 47, 48, 49, 50, 51, 52, 53, 54, 55, 56, 57, 58, 59, 60, 61, 62, 63, 64, 65, 66, 67, 68, 69, 70, 71, 72, 73, 74, 75, 76, 77, 78] (by decide +kernel) (by decide +kernel)) (goodIn_sub (fun _ h => List.mem_cons_of_mem _ (List.mem_append_right _ h)) (by decide +kernel))
set_option maxRecDepth 20000 in
theorem gL_stampsMissing_X0_stampsMissing : GoodIn wsL_stampsMissing (wsV RL 94 RX0 yX0_stampsMissing wsX0_stampsMissing) := goodIn_app (goodIn_of _ (by decide +kernel)) ggL_stampsMissing_X0_stampsMissing
theorem dL_stampsMissing_0 : decode cL_stampsMissing 0 = .ok (.aload_n 3, 1) := by decide +kernel
theorem dL_stampsMissing_1 : decode cL_stampsMissing 1 = .ok (.iconst 0, 1) := by decide +kernel
theorem dL_stampsMissing_2 : decode cL_stampsMissing 2 = .ok (.aload_n 0, 1) := by decide +kernel
theorem dL_stampsMissing_3 : decode cL_stampsMissing 3 = .ok (.iload_n 1, 1) := by decide +kernel
theorem dL_stampsMissing_4 : decode cL_stampsMissing 4 = .ok (.iload_n 2, 1) := by decide +kernel
theorem dL_stampsMissing_5 : decode cL_stampsMissing 5 = .ok (.invokevirtual 94, 3) := by decide +kernel
theorem dL_stampsMissing_8 : decode cL_stampsMissing 8 = .ok (.i2l, 1) := by decide +kernel
theorem dL_stampsMissing_9 : decode cL_stampsMissing 9 = .ok (.lastore, 1) := by decide +kernel
theorem dL_stampsMissing_10 : decode cL_stampsMissing 10 = .ok (.goto 7, 3) := by decide +kernel
theorem dL_stampsMissing_13 : decode cL_stampsMissing 13 = .ok (.astore 4, 2) := by decide +kernel
theorem dL_stampsMissing_15 : decode cL_stampsMissing 15 = .ok (.iconst 1, 1) := by decide +kernel
theorem dL_stampsMissing_16 : decode cL_stampsMissing 16 = .ok (.ireturn, 1) := by decide +kernel
theorem dL_stampsMissing_17 : decode cL_stampsMissing 17 = .ok (.iconst 0, 1) := by decide +kernel
theorem dL_stampsMissing_18 : decode cL_stampsMissing 18 = .ok (.ireturn, 1) := by decide +kernel
set_option maxRecDepth 20000 in
theorem ggL_stampsUsed_X0_stampsUsed : GoodIn wsL_stampsUsed wsX0_stampsUsed := goodIn_ca (goodIn_r _ [6, 7, 8, 9, 5, 10, 11, 12, 13, 14, 15, 16, 17, 18, 19, 20, 21, 22, 23, 24, 25, 26, 27, 28] (by decide +kernel) (by decide +kernel)) (goodIn_sub (fun _ h => List.mem_cons_of_mem _ (List.mem_append_right _ h)) (by decide +kernel))
set_option maxRecDepth 20000 in
theorem gL_stampsUsed_X0_stampsUsed : GoodIn wsL_stampsUsed (wsV RL 97 RX0 yX0_stampsUsed wsX0_stampsUsed) := goodIn_app (goodIn_of _ (by decide +kernel)) ggL_stampsUsed_X0_stampsUsed
theorem dL_stampsUsed_0 : decode cL_stampsUsed 0 = .ok (.aload_n 2, 1) := by decide +kernel
theorem dL_stampsUsed_1 : decode cL_stampsUsed 1 = .ok (.iconst 0, 1) := by decide +kernel
theorem dL_stampsUsed_2 : decode cL_stampsUsed 2 = .ok (.aload_n 0, 1) := by decide +kernel
theorem dL_stampsUsed_3 : decode cL_stampsUsed 3 = .ok (.iload_n 1, 1) := by decide +kernel
theorem dL_stampsUsed_4 : decode cL_stampsUsed 4 = .ok (.invokevirtual 97, 3) := by decide +kernel
theorem dL_stampsUsed_7 : decode cL_stampsUsed 7 = .ok (.i2l, 1) := by decide +kernel
theorem dL_stampsUsed_8 : decode cL_stampsUsed 8 = .ok (.lastore, 1) := by decide +kernel
theorem dL_stampsUsed_9 : decode cL_stampsUsed 9 = .ok (.goto 6, 3) := by decide +kernel
theorem dL_stampsUsed_12 : decode cL_stampsUsed 12 = .ok (.astore_n 3, 1) := by decide +kernel
theorem dL_stampsUsed_13 : decode cL_stampsUsed 13 = .ok (.iconst 1, 1) := by decide +kernel
theorem dL_stampsUsed_14 : decode cL_stampsUsed 14 = .ok (.ireturn, 1) := by decide +kernel
theorem dL_stampsUsed_15 : decode cL_stampsUsed 15 = .ok (.iconst 0, 1) := by decide +kernel
theorem dL_stampsUsed_16 : decode cL_stampsUsed 16 = .ok (.ireturn, 1) := by decide +kernel
set_option maxRecDepth 20000 in
theorem ggL_halfHoursUntilFree_X0_halfHoursUntilFree : GoodIn wsL_halfHoursUntilFree wsX0_halfHoursUntilFree := goodIn_ca (goodIn_r _ [6, 7, 8, 9, 10, 5, 11, 12, 13, 14, 15, 16, 17, 18, 19, 20, 21, 22, 23, 24, 25, 26, 27, 28, 29, 30, 31, 32, 33, 34, 35, 36, 37, 38, 39, 40, 41, 42, 43, 44, 45, 46, 47, 48, 49, 50, 51, 52, 53, 54, 55, 56, 57, 58, 59, 60, 61, 62, 63, 64, 65, 66, 67, 68, 69] (by decide +kernel) (by decide +kernel)) (goodIn_sub (fun _ h => List.mem_cons_of_mem _ (List.mem_append_right _ h)) (by decide +kernel))
set_option maxRecDepth 20000 in
theorem gL_halfHoursUntilFree_X0_halfHoursUntilFree : GoodIn wsL_halfHoursUntilFree (wsV RL 100 RX0 yX0_halfHoursUntilFree wsX0_halfHoursUntilFree) := goodIn_app (goodIn_of _ (by decide +kernel)) ggL_halfHoursUntilFree_X0_halfHoursUntilFree
theorem dL_halfHoursUntilFree_0 : decode cL_halfHoursUntilFree 0 = .ok (.aload_n 3, 1) := by decide +kernel
theorem dL_halfHoursUntilFree_1 : decode cL_halfHoursUntilFree 1 = .ok (.iconst 0, 1) := by decide +kernel
theorem dL_halfHoursUntilFree_2 : decode cL_halfHoursUntilFree 2 = .ok (.aload_n 0, 1) := by decide +kernel
theorem dL_halfHoursUntilFree_3 : decode cL_halfHoursUntilFree 3 = .ok (.iload_n 1, 1) := by decide +kernel
theorem dL_halfHoursUntilFree_4 : decode cL_halfHoursUntilFree 4 = .ok (.iload_n 2, 1) := by decide +kernel
theorem dL_halfHoursUntilFree_5 : decode cL_halfHoursUntilFree 5 = .ok (.invokevirtual 100, 3) := by decide +kernel
theorem dL_halfHoursUntilFree_8 : decode cL_halfHoursUntilFree 8 = .ok (.i2l, 1) := by decide +kernel
theorem dL_halfHoursUntilFree_9 : decode cL_halfHoursUntilFree 9 = .ok (.lastore, 1) := by decide +kernel
theorem dL_halfHoursUntilFree_10 : decode cL_halfHoursUntilFree 10 = .ok (.goto 7, 3) := by decide +kernel
theorem dL_halfHoursUntilFree_13 : decode cL_halfHoursUntilFree 13 = .ok (.astore 4, 2) := by decide +kernel
theorem dL_halfHoursUntilFree_15 : decode cL_halfHoursUntilFree 15 = .ok (.iconst 1, 1) := by decide +kernel
theorem dL_halfHoursUntilFree_16 : decode cL_halfHoursUntilFree 16 = .ok (.ireturn, 1) := by decide +kernel
theorem dL_halfHoursUntilFree_17 : decode cL_halfHoursUntilFree 17 = .ok (.iconst 0, 1) := by decide +kernel
theorem dL_halfHoursUntilFree_18 : decode cL_halfHoursUntilFree 18 = .ok (.ireturn, 1) := by decide +kernel
set_option maxRecDepth 20000 in
theorem ggL_halfHoursOn_X0_halfHoursOn : GoodIn wsL_halfHoursOn wsX0_halfHoursOn := goodIn_ca (goodIn_r _ [6, 7, 8, 9, 10, 5, 11, 12, 13, 14, 15, 16, 17, 18, 19, 20, 21, 22, 23, 24, 25, 26, 27, 28, 29, 30, 31, 32, 33, 34, 35, 36, 37, 38, 39, 40, 41, 42, 43, 44, 45, 46, 47] (by decide +kernel) (by decide +kernel)) (goodIn_sub (fun _ h => List.mem_cons_of_mem _ (List.mem_append_right _ h)) (by decide +kernel))
set_option maxRecDepth 20000 in
theorem gL_halfHoursOn_X0_halfHoursOn : GoodIn wsL_halfHoursOn (wsV RL 103 RX0 yX0_halfHoursOn wsX0_halfHoursOn) := goodIn_app (goodIn_of _ (by decide +kernel)) ggL_halfHoursOn_X0_halfHoursOn
theorem dL_halfHoursOn_0 : decode cL_halfHoursOn 0 = .ok (.aload_n 2, 1) := by decide +kernel
theorem dL_halfHoursOn_1 : decode cL_halfHoursOn 1 = .ok (.iconst 0, 1) := by decide +kernel
theorem dL_halfHoursOn_2 : decode cL_halfHoursOn 2 = .ok (.aload_n 0, 1) := by decide +kernel
theorem dL_halfHoursOn_3 : decode cL_halfHoursOn 3 = .ok (.iload_n 1, 1) := by decide +kernel
theorem dL_halfHoursOn_4 : decode cL_halfHoursOn 4 = .ok (.invokevirtual 103, 3) := by decide +kernel
theorem dL_halfHoursOn_7 : decode cL_halfHoursOn 7 = .ok (.i2l, 1) := by decide +kernel
theorem dL_halfHoursOn_8 : decode cL_halfHoursOn 8 = .ok (.lastore, 1) := by decide +kernel
theorem dL_halfHoursOn_9 : decode cL_halfHoursOn 9 = .ok (.goto 6, 3) := by decide +kernel
theorem dL_halfHoursOn_12 : decode cL_halfHoursOn 12 = .ok (.astore_n 3, 1) := by decide +kernel
theorem dL_halfHoursOn_13 : decode cL_halfHoursOn 13 = .ok (.iconst 1, 1) := by decide +kernel
theorem dL_halfHoursOn_14 : decode cL_halfHoursOn 14 = .ok (.ireturn, 1) := by decide +kernel
theorem dL_halfHoursOn_15 : decode cL_halfHoursOn 15 = .ok (.iconst 0, 1) := by decide +kernel
theorem dL_halfHoursOn_16 : decode cL_halfHoursOn 16 = .ok (.ireturn, 1) := by decide +kernel
