theorem dX0_day_0 : decode cX0_day 0 = .ok (.aload_n 0, 1) := by decide +kernel
theorem dX0_day_1 : decode cX0_day 1 = .ok (.getfield 101, 3) := by decide +kernel
theorem dX0_day_4 : decode cX0_day 4 = .ok (.bipush 48, 2) := by decide +kernel
theorem dX0_day_6 : decode cX0_day 6 = .ok (.idiv, 1) := by decide +kernel
theorem dX0_day_7 : decode cX0_day 7 = .ok (.ireturn, 1) := by decide +kernel
theorem dX0_halfHour_0 : decode cX0_halfHour 0 = .ok (.aload_n 0, 1) := by decide +kernel
theorem dX0_halfHour_1 : decode cX0_halfHour 1 = .ok (.getfield 101, 3) := by decide +kernel
theorem dX0_halfHour_4 : decode cX0_halfHour 4 = .ok (.bipush 48, 2) := by decide +kernel
theorem dX0_halfHour_6 : decode cX0_halfHour 6 = .ok (.irem, 1) := by decide +kernel
theorem dX0_halfHour_7 : decode cX0_halfHour 7 = .ok (.ireturn, 1) := by decide +kernel
set_option maxRecDepth 20000 in
theorem ggX0_duskIn_X0_requireWithin : GoodIn wsX0_duskIn wsX0_requireWithin := goodIn_ca (goodIn_r _ [4, 5, 6] (by decide +kernel) (by decide +kernel)) (goodIn_sub (fun _ h => List.mem_cons_of_mem _ (List.mem_append_right _ h)) (by decide +kernel))
set_option maxRecDepth 20000 in
theorem gX0_duskIn_X0_requireWithin : GoodIn wsX0_duskIn (va_wsS RX0 70 yX0_requireWithin wsX0_requireWithin) := goodIn_app (goodIn_of _ (by decide +kernel)) ggX0_duskIn_X0_requireWithin
set_option maxRecDepth 20000 in
theorem ggX0_duskIn_X0_day : GoodIn wsX0_duskIn wsX0_day := goodIn_r _ [10, 11, 20, 21, 22, 23, 24, 25, 26, 27, 28, 29, 30, 31, 32, 33, 34, 35] (by decide +kernel) (by decide +kernel)
set_option maxRecDepth 20000 in
theorem gX0_duskIn_X0_day : GoodIn wsX0_duskIn (wsV RX0 118 RX0 yX0_day wsX0_day) := goodIn_app (goodIn_of _ (by decide +kernel)) ggX0_duskIn_X0_day
set_option maxRecDepth 20000 in
theorem ggX0_duskIn_X0_duskOf : GoodIn wsX0_duskIn wsX0_duskOf := goodIn_r _ [15, 16, 17, 18, 3, 19, 20, 21, 22, 23, 24, 25, 26, 27, 28, 29, 30, 31, 32, 33, 34, 35] (by decide +kernel) (by decide +kernel)
set_option maxRecDepth 20000 in
theorem gX0_duskIn_X0_duskOf : GoodIn wsX0_duskIn (wsV RX0 122 RX0 yX0_duskOf wsX0_duskOf) := goodIn_app (goodIn_of _ (by decide +kernel)) ggX0_duskIn_X0_duskOf
theorem dX0_duskIn_0 : decode cX0_duskIn 0 = .ok (.iload_n 1, 1) := by decide +kernel
theorem dX0_duskIn_1 : decode cX0_duskIn 1 = .ok (.iconst 0, 1) := by decide +kernel
theorem dX0_duskIn_2 : decode cX0_duskIn 2 = .ok (.bipush 99, 2) := by decide +kernel
theorem dX0_duskIn_4 : decode cX0_duskIn 4 = .ok (.invokestatic 70, 3) := by decide +kernel
theorem dX0_duskIn_7 : decode cX0_duskIn 7 = .ok (.aload_n 0, 1) := by decide +kernel
theorem dX0_duskIn_8 : decode cX0_duskIn 8 = .ok (.aload_n 0, 1) := by decide +kernel
theorem dX0_duskIn_9 : decode cX0_duskIn 9 = .ok (.invokevirtual 118, 3) := by decide +kernel
theorem dX0_duskIn_12 : decode cX0_duskIn 12 = .ok (.iload_n 1, 1) := by decide +kernel
theorem dX0_duskIn_13 : decode cX0_duskIn 13 = .ok (.iadd, 1) := by decide +kernel
theorem dX0_duskIn_14 : decode cX0_duskIn 14 = .ok (.invokevirtual 122, 3) := by decide +kernel
theorem dX0_duskIn_17 : decode cX0_duskIn 17 = .ok (.ireturn, 1) := by decide +kernel
set_option maxRecDepth 20000 in
theorem ggX0_dawnIn_X0_requireWithin : GoodIn wsX0_dawnIn wsX0_requireWithin := goodIn_ca (goodIn_r _ [4, 5, 6] (by decide +kernel) (by decide +kernel)) (goodIn_sub (fun _ h => List.mem_cons_of_mem _ (List.mem_append_right _ h)) (by decide +kernel))
set_option maxRecDepth 20000 in
theorem gX0_dawnIn_X0_requireWithin : GoodIn wsX0_dawnIn (va_wsS RX0 70 yX0_requireWithin wsX0_requireWithin) := goodIn_app (goodIn_of _ (by decide +kernel)) ggX0_dawnIn_X0_requireWithin
set_option maxRecDepth 20000 in
theorem ggX0_dawnIn_X0_day : GoodIn wsX0_dawnIn wsX0_day := goodIn_r _ [10, 11, 18, 19, 20, 21, 22, 23, 24, 25, 26, 27, 28, 29, 30, 31, 32, 33] (by decide +kernel) (by decide +kernel)
set_option maxRecDepth 20000 in
theorem gX0_dawnIn_X0_day : GoodIn wsX0_dawnIn (wsV RX0 118 RX0 yX0_day wsX0_day) := goodIn_app (goodIn_of _ (by decide +kernel)) ggX0_dawnIn_X0_day
set_option maxRecDepth 20000 in
theorem ggX0_dawnIn_X0_dawnOf : GoodIn wsX0_dawnIn wsX0_dawnOf := goodIn_r _ [14, 15, 16, 3, 17] (by decide +kernel) (by decide +kernel)
set_option maxRecDepth 20000 in
theorem gX0_dawnIn_X0_dawnOf : GoodIn wsX0_dawnIn (va_wsS RX0 125 yX0_dawnOf wsX0_dawnOf) := goodIn_app (goodIn_of _ (by decide +kernel)) ggX0_dawnIn_X0_dawnOf
theorem dX0_dawnIn_0 : decode cX0_dawnIn 0 = .ok (.iload_n 1, 1) := by decide +kernel
theorem dX0_dawnIn_1 : decode cX0_dawnIn 1 = .ok (.iconst 0, 1) := by decide +kernel
theorem dX0_dawnIn_2 : decode cX0_dawnIn 2 = .ok (.bipush 99, 2) := by decide +kernel
theorem dX0_dawnIn_4 : decode cX0_dawnIn 4 = .ok (.invokestatic 70, 3) := by decide +kernel
theorem dX0_dawnIn_7 : decode cX0_dawnIn 7 = .ok (.aload_n 0, 1) := by decide +kernel
theorem dX0_dawnIn_8 : decode cX0_dawnIn 8 = .ok (.invokevirtual 118, 3) := by decide +kernel
theorem dX0_dawnIn_11 : decode cX0_dawnIn 11 = .ok (.iload_n 1, 1) := by decide +kernel
theorem dX0_dawnIn_12 : decode cX0_dawnIn 12 = .ok (.iadd, 1) := by decide +kernel
theorem dX0_dawnIn_13 : decode cX0_dawnIn 13 = .ok (.invokestatic 125, 3) := by decide +kernel
theorem dX0_dawnIn_16 : decode cX0_dawnIn 16 = .ok (.ireturn, 1) := by decide +kernel
set_option maxRecDepth 20000 in
theorem ggX0_isInForce_X0_requireOrder : GoodIn wsX0_isInForce wsX0_requireOrder := goodIn_ca (goodIn_r _ [6, 7, 8, 9, 10, 11, 12, 13, 14, 15, 16, 17, 18, 19, 20, 21, 22, 23, 24, 25] (by decide +kernel) (by decide +kernel)) (goodIn_sub (fun _ h => List.mem_cons_of_mem _ (List.mem_append_right _ h)) (by decide +kernel))
set_option maxRecDepth 20000 in
theorem gX0_isInForce_X0_requireOrder : GoodIn wsX0_isInForce (wsV RX0 79 RX0 yX0_requireOrder wsX0_requireOrder) := goodIn_app (goodIn_of _ (by decide +kernel)) ggX0_isInForce_X0_requireOrder
theorem dX0_isInForce_0 : decode cX0_isInForce 0 = .ok (.aload_n 0, 1) := by decide +kernel
theorem dX0_isInForce_1 : decode cX0_isInForce 1 = .ok (.iload_n 1, 1) := by decide +kernel
theorem dX0_isInForce_2 : decode cX0_isInForce 2 = .ok (.invokevirtual 79, 3) := by decide +kernel
theorem dX0_isInForce_5 : decode cX0_isInForce 5 = .ok (.aload_n 0, 1) := by decide +kernel
theorem dX0_isInForce_6 : decode cX0_isInForce 6 = .ok (.getfield 22, 3) := by decide +kernel
theorem dX0_isInForce_9 : decode cX0_isInForce 9 = .ok (.iload_n 1, 1) := by decide +kernel
theorem dX0_isInForce_10 : decode cX0_isInForce 10 = .ok (.baload, 1) := by decide +kernel
theorem dX0_isInForce_11 : decode cX0_isInForce 11 = .ok (.ireturn, 1) := by decide +kernel
set_option maxRecDepth 20000 in
theorem ggX0_isOn_X0_requireOrder : GoodIn wsX0_isOn wsX0_requireOrder := goodIn_ca (goodIn_r _ [6, 7, 8, 9, 32, 33, 34, 35, 36, 37, 38, 39, 40, 41, 42, 43, 44, 45, 46, 47] (by decide +kernel) (by decide +kernel)) (goodIn_sub (fun _ h => List.mem_cons_of_mem _ (List.mem_append_right _ h)) (by decide +kernel))
set_option maxRecDepth 20000 in
theorem gX0_isOn_X0_requireOrder : GoodIn wsX0_isOn (wsV RX0 79 RX0 yX0_requireOrder wsX0_requireOrder) := goodIn_app (goodIn_of _ (by decide +kernel)) ggX0_isOn_X0_requireOrder
set_option maxRecDepth 20000 in
theorem ggX0_isOn_X0_isOnAt : GoodIn wsX0_isOn wsX0_isOnAt := goodIn_r _ [13, 14, 15, 16, 17, 5, 18, 19, 20, 21, 22, 23, 24, 25, 26, 27, 28, 29, 30, 31, 32, 33, 34, 35, 36, 37, 38, 39, 40, 41, 42, 43, 44, 45, 46, 47] (by decide +kernel) (by decide +kernel)
set_option maxRecDepth 20000 in
theorem gX0_isOn_X0_isOnAt : GoodIn wsX0_isOn (wsV RX0 128 RX0 yX0_isOnAt wsX0_isOnAt) := goodIn_app (goodIn_of _ (by decide +kernel)) ggX0_isOn_X0_isOnAt
theorem dX0_isOn_0 : decode cX0_isOn 0 = .ok (.aload_n 0, 1) := by decide +kernel
theorem dX0_isOn_1 : decode cX0_isOn 1 = .ok (.iload_n 1, 1) := by decide +kernel
theorem dX0_isOn_2 : decode cX0_isOn 2 = .ok (.invokevirtual 79, 3) := by decide +kernel
theorem dX0_isOn_5 : decode cX0_isOn 5 = .ok (.aload_n 0, 1) := by decide +kernel
theorem dX0_isOn_6 : decode cX0_isOn 6 = .ok (.iload_n 1, 1) := by decide +kernel
theorem dX0_isOn_7 : decode cX0_isOn 7 = .ok (.aload_n 0, 1) := by decide +kernel
theorem dX0_isOn_8 : decode cX0_isOn 8 = .ok (.getfield 101, 3) := by decide +kernel
theorem dX0_isOn_11 : decode cX0_isOn 11 = .ok (.invokevirtual 128, 3) := by decide +kernel
theorem dX0_isOn_14 : decode cX0_isOn 14 = .ok (.ireturn, 1) := by decide +kernel
set_option maxRecDepth 20000 in
theorem ggX0_isExempt_X0_requireOrder : GoodIn wsX0_isExempt wsX0_requireOrder := goodIn_ca (goodIn_r _ [5, 6, 7, 8, 17, 18, 19, 20, 21, 22, 23, 24, 25, 26, 27, 28, 29, 30, 31, 32] (by decide +kernel) (by decide +kernel)) (goodIn_sub (fun _ h => List.mem_cons_of_mem _ (List.mem_append_right _ h)) (by decide +kernel))
set_option maxRecDepth 20000 in
theorem gX0_isExempt_X0_requireOrder : GoodIn wsX0_isExempt (wsV RX0 79 RX0 yX0_requireOrder wsX0_requireOrder) := goodIn_app (goodIn_of _ (by decide +kernel)) ggX0_isExempt_X0_requireOrder
set_option maxRecDepth 20000 in
theorem ggX0_isExempt_X0_requireTrade : GoodIn wsX0_isExempt wsX0_requireTrade := goodIn_ca (goodIn_r _ [11, 6, 7] (by decide +kernel) (by decide +kernel)) (goodIn_sub (fun _ h => List.mem_cons_of_mem _ (List.mem_append_right _ h)) (by decide +kernel))
set_option maxRecDepth 20000 in
theorem gX0_isExempt_X0_requireTrade : GoodIn wsX0_isExempt (va_wsS RX0 55 yX0_requireTrade wsX0_requireTrade) := goodIn_app (goodIn_of _ (by decide +kernel)) ggX0_isExempt_X0_requireTrade
set_option maxRecDepth 20000 in
theorem ggX0_isExempt_X0_exempts : GoodIn wsX0_isExempt wsX0_exempts := goodIn_r _ [15, 16, 17, 18, 19, 20, 21, 22, 23, 24, 25, 26, 27, 28, 29, 30, 31, 32] (by decide +kernel) (by decide +kernel)
set_option maxRecDepth 20000 in
theorem gX0_isExempt_X0_exempts : GoodIn wsX0_isExempt (wsV RX0 82 RX0 yX0_exempts wsX0_exempts) := goodIn_app (goodIn_of _ (by decide +kernel)) ggX0_isExempt_X0_exempts
theorem dX0_isExempt_0 : decode cX0_isExempt 0 = .ok (.aload_n 0, 1) := by decide +kernel
theorem dX0_isExempt_1 : decode cX0_isExempt 1 = .ok (.iload_n 1, 1) := by decide +kernel
theorem dX0_isExempt_2 : decode cX0_isExempt 2 = .ok (.invokevirtual 79, 3) := by decide +kernel
theorem dX0_isExempt_5 : decode cX0_isExempt 5 = .ok (.iload_n 2, 1) := by decide +kernel
theorem dX0_isExempt_6 : decode cX0_isExempt 6 = .ok (.invokestatic 55, 3) := by decide +kernel
theorem dX0_isExempt_9 : decode cX0_isExempt 9 = .ok (.aload_n 0, 1) := by decide +kernel
theorem dX0_isExempt_10 : decode cX0_isExempt 10 = .ok (.iload_n 1, 1) := by decide +kernel
theorem dX0_isExempt_11 : decode cX0_isExempt 11 = .ok (.iload_n 2, 1) := by decide +kernel
theorem dX0_isExempt_12 : decode cX0_isExempt 12 = .ok (.invokevirtual 82, 3) := by decide +kernel
theorem dX0_isExempt_15 : decode cX0_isExempt 15 = .ok (.ireturn, 1) := by decide +kernel
set_option maxRecDepth 20000 in
theorem ggX0_barredBy_X0_requireOrder : GoodIn wsX0_barredBy wsX0_requireOrder := goodIn_ca (goodIn_r _ [8, 9, 10, 11, 40, 41, 42, 43, 44, 45, 46, 47, 48, 49, 50, 51, 52, 53, 54, 55] (by decide +kernel) (by decide +kernel)) (goodIn_sub (fun _ h => List.mem_cons_of_mem _ (List.mem_append_right _ h)) (by decide +kernel))
set_option maxRecDepth 20000 in
theorem gX0_barredBy_X0_requireOrder : GoodIn wsX0_barredBy (wsV RX0 79 RX0 yX0_requireOrder wsX0_requireOrder) := goodIn_app (goodIn_of _ (by decide +kernel)) ggX0_barredBy_X0_requireOrder
set_option maxRecDepth 20000 in
theorem ggX0_barredBy_X0_bars : GoodIn wsX0_barredBy wsX0_bars := goodIn_r _ [15, 2, 16, 17, 18, 19, 20, 7, 21, 22, 23, 24, 25, 26, 27, 28, 29, 30, 31, 32, 33, 34, 35, 36, 37, 38, 39, 40, 41, 42, 43, 44, 45, 46, 47, 48, 49, 50, 51, 52, 53, 54, 55] (by decide +kernel) (by decide +kernel)
set_option maxRecDepth 20000 in
theorem gX0_barredBy_X0_bars : GoodIn wsX0_barredBy (wsV RX0 104 RX0 yX0_bars wsX0_bars) := goodIn_app (goodIn_of _ (by decide +kernel)) ggX0_barredBy_X0_bars
theorem dX0_barredBy_0 : decode cX0_barredBy 0 = .ok (.aload_n 0, 1) := by decide +kernel
theorem dX0_barredBy_1 : decode cX0_barredBy 1 = .ok (.iload_n 1, 1) := by decide +kernel
theorem dX0_barredBy_2 : decode cX0_barredBy 2 = .ok (.invokevirtual 79, 3) := by decide +kernel
theorem dX0_barredBy_5 : decode cX0_barredBy 5 = .ok (.iconst 0, 1) := by decide +kernel
theorem dX0_barredBy_6 : decode cX0_barredBy 6 = .ok (.istore_n 2, 1) := by decide +kernel
theorem dX0_barredBy_7 : decode cX0_barredBy 7 = .ok (.iconst 0, 1) := by decide +kernel
theorem dX0_barredBy_8 : decode cX0_barredBy 8 = .ok (.istore_n 3, 1) := by decide +kernel
theorem dX0_barredBy_9 : decode cX0_barredBy 9 = .ok (.iload_n 3, 1) := by decide +kernel
theorem dX0_barredBy_10 : decode cX0_barredBy 10 = .ok (.aload_n 0, 1) := by decide +kernel
theorem dX0_barredBy_11 : decode cX0_barredBy 11 = .ok (.getfield 59, 3) := by decide +kernel
theorem dX0_barredBy_14 : decode cX0_barredBy 14 = .ok (.if_icmp .ge 31, 3) := by decide +kernel
theorem dX0_barredBy_17 : decode cX0_barredBy 17 = .ok (.aload_n 0, 1) := by decide +kernel
theorem dX0_barredBy_18 : decode cX0_barredBy 18 = .ok (.iload_n 1, 1) := by decide +kernel
theorem dX0_barredBy_19 : decode cX0_barredBy 19 = .ok (.iload_n 3, 1) := by decide +kernel
theorem dX0_barredBy_20 : decode cX0_barredBy 20 = .ok (.aload_n 0, 1) := by decide +kernel
theorem dX0_barredBy_21 : decode cX0_barredBy 21 = .ok (.getfield 9, 3) := by decide +kernel
theorem dX0_barredBy_24 : decode cX0_barredBy 24 = .ok (.iload_n 1, 1) := by decide +kernel
theorem dX0_barredBy_25 : decode cX0_barredBy 25 = .ok (.iaload, 1) := by decide +kernel
theorem dX0_barredBy_26 : decode cX0_barredBy 26 = .ok (.aload_n 0, 1) := by decide +kernel
theorem dX0_barredBy_27 : decode cX0_barredBy 27 = .ok (.getfield 101, 3) := by decide +kernel
theorem dX0_barredBy_30 : decode cX0_barredBy 30 = .ok (.invokevirtual 104, 3) := by decide +kernel
theorem dX0_barredBy_33 : decode cX0_barredBy 33 = .ok (.ifCond .eq 6, 3) := by decide +kernel
theorem dX0_barredBy_36 : decode cX0_barredBy 36 = .ok (.iinc 2 1, 3) := by decide +kernel
theorem dX0_barredBy_39 : decode cX0_barredBy 39 = .ok (.iinc 3 1, 3) := by decide +kernel
theorem dX0_barredBy_42 : decode cX0_barredBy 42 = .ok (.goto (-33), 3) := by decide +kernel
theorem dX0_barredBy_45 : decode cX0_barredBy 45 = .ok (.iload_n 2, 1) := by decide +kernel
theorem dX0_barredBy_46 : decode cX0_barredBy 46 = .ok (.ireturn, 1) := by decide +kernel
set_option maxRecDepth 20000 in
theorem ggX0_tradeOf_X0_requirePerson : GoodIn wsX0_tradeOf wsX0_requirePerson := goodIn_ca (goodIn_r _ [6, 7, 8, 9, 10, 11, 12, 13, 14, 15, 16, 17, 18, 19, 20, 21, 22, 23, 24, 25] (by decide +kernel) (by decide +kernel)) (goodIn_sub (fun _ h => List.mem_cons_of_mem _ (List.mem_append_right _ h)) (by decide +kernel))
set_option maxRecDepth 20000 in
theorem gX0_tradeOf_X0_requirePerson : GoodIn wsX0_tradeOf (wsV RX0 89 RX0 yX0_requirePerson wsX0_requirePerson) := goodIn_app (goodIn_of _ (by decide +kernel)) ggX0_tradeOf_X0_requirePerson
theorem dX0_tradeOf_0 : decode cX0_tradeOf 0 = .ok (.aload_n 0, 1) := by decide +kernel
theorem dX0_tradeOf_1 : decode cX0_tradeOf 1 = .ok (.iload_n 1, 1) := by decide +kernel
theorem dX0_tradeOf_2 : decode cX0_tradeOf 2 = .ok (.invokevirtual 89, 3) := by decide +kernel
theorem dX0_tradeOf_5 : decode cX0_tradeOf 5 = .ok (.aload_n 0, 1) := by decide +kernel
theorem dX0_tradeOf_6 : decode cX0_tradeOf 6 = .ok (.getfield 29, 3) := by decide +kernel
theorem dX0_tradeOf_9 : decode cX0_tradeOf 9 = .ok (.iload_n 1, 1) := by decide +kernel
theorem dX0_tradeOf_10 : decode cX0_tradeOf 10 = .ok (.iaload, 1) := by decide +kernel
theorem dX0_tradeOf_11 : decode cX0_tradeOf 11 = .ok (.ireturn, 1) := by decide +kernel
set_option maxRecDepth 20000 in
theorem ggX0_stampsOf_X0_requirePerson : GoodIn wsX0_stampsOf wsX0_requirePerson := goodIn_ca (goodIn_r _ [6, 7, 8, 9, 16, 17, 18, 19, 20, 21, 22, 23, 24, 25, 26, 27, 28, 29, 30, 31] (by decide +kernel) (by decide +kernel)) (goodIn_sub (fun _ h => List.mem_cons_of_mem _ (List.mem_append_right _ h)) (by decide +kernel))
set_option maxRecDepth 20000 in
theorem gX0_stampsOf_X0_requirePerson : GoodIn wsX0_stampsOf (wsV RX0 89 RX0 yX0_requirePerson wsX0_requirePerson) := goodIn_app (goodIn_of _ (by decide +kernel)) ggX0_stampsOf_X0_requirePerson
set_option maxRecDepth 20000 in
theorem ggX0_stampsOf_X0_requireColour : GoodIn wsX0_stampsOf wsX0_requireColour := goodIn_ca (goodIn_r _ [12, 7, 8] (by decide +kernel) (by decide +kernel)) (goodIn_sub (fun _ h => List.mem_cons_of_mem _ (List.mem_append_right _ h)) (by decide +kernel))
set_option maxRecDepth 20000 in
theorem gX0_stampsOf_X0_requireColour : GoodIn wsX0_stampsOf (va_wsS RX0 67 yX0_requireColour wsX0_requireColour) := goodIn_app (goodIn_of _ (by decide +kernel)) ggX0_stampsOf_X0_requireColour
set_option maxRecDepth 20000 in
theorem ggX0_stampsOf_X0_stampPlace : GoodIn wsX0_stampsOf wsX0_stampPlace := goodIn_r _ [15] (by decide +kernel) (by decide +kernel)
set_option maxRecDepth 20000 in
theorem gX0_stampsOf_X0_stampPlace : GoodIn wsX0_stampsOf (va_wsS RX0 92 yX0_stampPlace wsX0_stampPlace) := goodIn_app (goodIn_of _ (by decide +kernel)) ggX0_stampsOf_X0_stampPlace
theorem dX0_stampsOf_0 : decode cX0_stampsOf 0 = .ok (.aload_n 0, 1) := by decide +kernel
theorem dX0_stampsOf_1 : decode cX0_stampsOf 1 = .ok (.iload_n 1, 1) := by decide +kernel
theorem dX0_stampsOf_2 : decode cX0_stampsOf 2 = .ok (.invokevirtual 89, 3) := by decide +kernel
theorem dX0_stampsOf_5 : decode cX0_stampsOf 5 = .ok (.iload_n 2, 1) := by decide +kernel
theorem dX0_stampsOf_6 : decode cX0_stampsOf 6 = .ok (.invokestatic 67, 3) := by decide +kernel
theorem dX0_stampsOf_9 : decode cX0_stampsOf 9 = .ok (.aload_n 0, 1) := by decide +kernel
theorem dX0_stampsOf_10 : decode cX0_stampsOf 10 = .ok (.getfield 38, 3) := by decide +kernel
theorem dX0_stampsOf_13 : decode cX0_stampsOf 13 = .ok (.iload_n 1, 1) := by decide +kernel
theorem dX0_stampsOf_14 : decode cX0_stampsOf 14 = .ok (.iload_n 2, 1) := by decide +kernel
theorem dX0_stampsOf_15 : decode cX0_stampsOf 15 = .ok (.invokestatic 92, 3) := by decide +kernel
theorem dX0_stampsOf_18 : decode cX0_stampsOf 18 = .ok (.iaload, 1) := by decide +kernel
theorem dX0_stampsOf_19 : decode cX0_stampsOf 19 = .ok (.ireturn, 1) := by decide +kernel
set_option maxRecDepth 20000 in
theorem ggX0_owes_X0_requirePerson : GoodIn wsX0_owes wsX0_requirePerson := goodIn_ca (goodIn_r _ [6, 7, 8, 9, 10, 11, 12, 13, 14, 15, 16, 17, 18, 19, 20, 21, 22, 23, 24, 25] (by decide +kernel) (by decide +kernel)) (goodIn_sub (fun _ h => List.mem_cons_of_mem _ (List.mem_append_right _ h)) (by decide +kernel))
set_option maxRecDepth 20000 in
theorem gX0_owes_X0_requirePerson : GoodIn wsX0_owes (wsV RX0 89 RX0 yX0_requirePerson wsX0_requirePerson) := goodIn_app (goodIn_of _ (by decide +kernel)) ggX0_owes_X0_requirePerson
theorem dX0_owes_0 : decode cX0_owes 0 = .ok (.aload_n 0, 1) := by decide +kernel
theorem dX0_owes_1 : decode cX0_owes 1 = .ok (.iload_n 1, 1) := by decide +kernel
theorem dX0_owes_2 : decode cX0_owes 2 = .ok (.invokevirtual 89, 3) := by decide +kernel
theorem dX0_owes_5 : decode cX0_owes 5 = .ok (.aload_n 0, 1) := by decide +kernel
theorem dX0_owes_6 : decode cX0_owes 6 = .ok (.getfield 35, 3) := by decide +kernel
theorem dX0_owes_9 : decode cX0_owes 9 = .ok (.iload_n 1, 1) := by decide +kernel
theorem dX0_owes_10 : decode cX0_owes 10 = .ok (.iaload, 1) := by decide +kernel
theorem dX0_owes_11 : decode cX0_owes 11 = .ok (.ireturn, 1) := by decide +kernel
set_option maxRecDepth 20000 in
theorem ggX0_timesFined_X0_requirePerson : GoodIn wsX0_timesFined wsX0_requirePerson := goodIn_ca (goodIn_r _ [6, 7, 8, 9, 10, 11, 12, 13, 14, 15, 16, 17, 18, 19, 20, 21, 22, 23, 24, 25] (by decide +kernel) (by decide +kernel)) (goodIn_sub (fun _ h => List.mem_cons_of_mem _ (List.mem_append_right _ h)) (by decide +kernel))
set_option maxRecDepth 20000 in
theorem gX0_timesFined_X0_requirePerson : GoodIn wsX0_timesFined (wsV RX0 89 RX0 yX0_requirePerson wsX0_requirePerson) := goodIn_app (goodIn_of _ (by decide +kernel)) ggX0_timesFined_X0_requirePerson
theorem dX0_timesFined_0 : decode cX0_timesFined 0 = .ok (.aload_n 0, 1) := by decide +kernel
theorem dX0_timesFined_1 : decode cX0_timesFined 1 = .ok (.iload_n 1, 1) := by decide +kernel
theorem dX0_timesFined_2 : decode cX0_timesFined 2 = .ok (.invokevirtual 89, 3) := by decide +kernel
theorem dX0_timesFined_5 : decode cX0_timesFined 5 = .ok (.aload_n 0, 1) := by decide +kernel
theorem dX0_timesFined_6 : decode cX0_timesFined 6 = .ok (.getfield 32, 3) := by decide +kernel
theorem dX0_timesFined_9 : decode cX0_timesFined 9 = .ok (.iload_n 1, 1) := by decide +kernel
theorem dX0_timesFined_10 : decode cX0_timesFined 10 = .ok (.iaload, 1) := by decide +kernel
theorem dX0_timesFined_11 : decode cX0_timesFined 11 = .ok (.ireturn, 1) := by decide +kernel
set_option maxRecDepth 20000 in
theorem ggX0_ordersAgainst_X0_requirePerson : GoodIn wsX0_ordersAgainst wsX0_requirePerson := goodIn_ca (goodIn_r _ [7, 8, 9, 10, 45, 46, 47, 48, 49, 50, 51, 52, 53, 54, 55, 56, 57, 58, 59, 60] (by decide +kernel) (by decide +kernel)) (goodIn_sub (fun _ h => List.mem_cons_of_mem _ (List.mem_append_right _ h)) (by decide +kernel))
set_option maxRecDepth 20000 in
theorem gX0_ordersAgainst_X0_requirePerson : GoodIn wsX0_ordersAgainst (wsV RX0 89 RX0 yX0_requirePerson wsX0_requirePerson) := goodIn_app (goodIn_of _ (by decide +kernel)) ggX0_ordersAgainst_X0_requirePerson
set_option maxRecDepth 20000 in
theorem ggX0_ordersAgainst_X0_requireQuarter : GoodIn wsX0_ordersAgainst wsX0_requireQuarter := goodIn_ca (goodIn_r _ [14, 8, 9, 15, 45, 46, 47, 48, 49, 50, 51, 52, 53, 54, 55, 56, 57, 58, 59, 60] (by decide +kernel) (by decide +kernel)) (goodIn_sub (fun _ h => List.mem_cons_of_mem _ (List.mem_append_right _ h)) (by decide +kernel))
set_option maxRecDepth 20000 in
theorem gX0_ordersAgainst_X0_requireQuarter : GoodIn wsX0_ordersAgainst (wsV RX0 64 RX0 yX0_requireQuarter wsX0_requireQuarter) := goodIn_app (goodIn_of _ (by decide +kernel)) ggX0_ordersAgainst_X0_requireQuarter
set_option maxRecDepth 20000 in
theorem ggX0_ordersAgainst_X0_bars : GoodIn wsX0_ordersAgainst wsX0_bars := goodIn_r _ [19, 20, 21, 22, 23, 24, 25, 6, 26, 27, 28, 29, 30, 31, 32, 33, 34, 35, 36, 37, 38, 39, 40, 41, 42, 43, 44, 45, 46, 47, 48, 49, 50, 51, 52, 53, 54, 55, 56, 57, 58, 59, 60] (by decide +kernel) (by decide +kernel)
set_option maxRecDepth 20000 in
theorem gX0_ordersAgainst_X0_bars : GoodIn wsX0_ordersAgainst (wsV RX0 104 RX0 yX0_bars wsX0_bars) := goodIn_app (goodIn_of _ (by decide +kernel)) ggX0_ordersAgainst_X0_bars
theorem dX0_ordersAgainst_0 : decode cX0_ordersAgainst 0 = .ok (.aload_n 0, 1) := by decide +kernel
theorem dX0_ordersAgainst_1 : decode cX0_ordersAgainst 1 = .ok (.iload_n 1, 1) := by decide +kernel
theorem dX0_ordersAgainst_2 : decode cX0_ordersAgainst 2 = .ok (.invokevirtual 89, 3) := by decide +kernel
theorem dX0_ordersAgainst_5 : decode cX0_ordersAgainst 5 = .ok (.aload_n 0, 1) := by decide +kernel
theorem dX0_ordersAgainst_6 : decode cX0_ordersAgainst 6 = .ok (.iload_n 2, 1) := by decide +kernel
theorem dX0_ordersAgainst_7 : decode cX0_ordersAgainst 7 = .ok (.invokevirtual 64, 3) := by decide +kernel
theorem dX0_ordersAgainst_10 : decode cX0_ordersAgainst 10 = .ok (.iconst 0, 1) := by decide +kernel
theorem dX0_ordersAgainst_11 : decode cX0_ordersAgainst 11 = .ok (.istore_n 3, 1) := by decide +kernel
theorem dX0_ordersAgainst_12 : decode cX0_ordersAgainst 12 = .ok (.iconst 0, 1) := by decide +kernel
theorem dX0_ordersAgainst_13 : decode cX0_ordersAgainst 13 = .ok (.istore 4, 2) := by decide +kernel
theorem dX0_ordersAgainst_15 : decode cX0_ordersAgainst 15 = .ok (.iload 4, 2) := by decide +kernel
theorem dX0_ordersAgainst_17 : decode cX0_ordersAgainst 17 = .ok (.aload_n 0, 1) := by decide +kernel
theorem dX0_ordersAgainst_18 : decode cX0_ordersAgainst 18 = .ok (.getfield 74, 3) := by decide +kernel
theorem dX0_ordersAgainst_21 : decode cX0_ordersAgainst 21 = .ok (.if_icmp .ge 27, 3) := by decide +kernel
theorem dX0_ordersAgainst_24 : decode cX0_ordersAgainst 24 = .ok (.aload_n 0, 1) := by decide +kernel
theorem dX0_ordersAgainst_25 : decode cX0_ordersAgainst 25 = .ok (.iload 4, 2) := by decide +kernel
theorem dX0_ordersAgainst_27 : decode cX0_ordersAgainst 27 = .ok (.iload_n 1, 1) := by decide +kernel
theorem dX0_ordersAgainst_28 : decode cX0_ordersAgainst 28 = .ok (.iload_n 2, 1) := by decide +kernel
theorem dX0_ordersAgainst_29 : decode cX0_ordersAgainst 29 = .ok (.aload_n 0, 1) := by decide +kernel
theorem dX0_ordersAgainst_30 : decode cX0_ordersAgainst 30 = .ok (.getfield 101, 3) := by decide +kernel
theorem dX0_ordersAgainst_33 : decode cX0_ordersAgainst 33 = .ok (.invokevirtual 104, 3) := by decide +kernel
theorem dX0_ordersAgainst_36 : decode cX0_ordersAgainst 36 = .ok (.ifCond .eq 6, 3) := by decide +kernel
theorem dX0_ordersAgainst_39 : decode cX0_ordersAgainst 39 = .ok (.iinc 3 1, 3) := by decide +kernel
theorem dX0_ordersAgainst_42 : decode cX0_ordersAgainst 42 = .ok (.iinc 4 1, 3) := by decide +kernel
theorem dX0_ordersAgainst_45 : decode cX0_ordersAgainst 45 = .ok (.goto (-30), 3) := by decide +kernel
theorem dX0_ordersAgainst_48 : decode cX0_ordersAgainst 48 = .ok (.iload_n 3, 1) := by decide +kernel
theorem dX0_ordersAgainst_49 : decode cX0_ordersAgainst 49 = .ok (.ireturn, 1) := by decide +kernel
set_option maxRecDepth 20000 in
theorem ggX0_mayGo_X0_requirePerson : GoodIn wsX0_mayGo wsX0_requirePerson := goodIn_ca (goodIn_r _ [5, 6, 7, 8, 58, 59, 60, 61, 62, 63, 64, 65, 66, 67, 68, 69, 70, 71, 72, 73] (by decide +kernel) (by decide +kernel)) (goodIn_sub (fun _ h => List.mem_cons_of_mem _ (List.mem_append_right _ h)) (by decide +kernel))
set_option maxRecDepth 20000 in
theorem gX0_mayGo_X0_requirePerson : GoodIn wsX0_mayGo (wsV RX0 89 RX0 yX0_requirePerson wsX0_requirePerson) := goodIn_app (goodIn_of _ (by decide +kernel)) ggX0_mayGo_X0_requirePerson
set_option maxRecDepth 20000 in
theorem ggX0_mayGo_X0_requireQuarter : GoodIn wsX0_mayGo wsX0_requireQuarter := goodIn_ca (goodIn_r _ [12, 6, 7, 13, 58, 59, 60, 61, 62, 63, 64, 65, 66, 67, 68, 69, 70, 71, 72, 73] (by decide +kernel) (by decide +kernel)) (goodIn_sub (fun _ h => List.mem_cons_of_mem _ (List.mem_append_right _ h)) (by decide +kernel))
set_option maxRecDepth 20000 in
theorem gX0_mayGo_X0_requireQuarter : GoodIn wsX0_mayGo (wsV RX0 64 RX0 yX0_requireQuarter wsX0_requireQuarter) := goodIn_app (goodIn_of _ (by decide +kernel)) ggX0_mayGo_X0_requireQuarter
set_option maxRecDepth 20000 in
theorem ggX0_mayGo_X0_missing : GoodIn wsX0_mayGo wsX0_missing := goodIn_r _ [17, 18, 19, 20, 21, 22, 23, 24, 25, 26, 27, 28, 4, 29, 30, 31, 32, 33, 34, 35, 36, 37, 38, 39, 40, 41, 42, 43, 44, 45, 46, 47, 48, 49, 50, 51, 52, 53, 54, 55, 56, 57, 58, 59, 60, 61, 62, 63, 64, 65, 66, 67, 68, 69, 70, 71, 72, 73] (by decide +kernel) (by decide +kernel)
set_option maxRecDepth 20000 in
theorem gX0_mayGo_X0_missing : GoodIn wsX0_mayGo (wsV RX0 131 RX0 yX0_missing wsX0_missing) := goodIn_app (goodIn_of _ (by decide +kernel)) ggX0_mayGo_X0_missing
theorem dX0_mayGo_0 : decode cX0_mayGo 0 = .ok (.aload_n 0, 1) := by decide +kernel
theorem dX0_mayGo_1 : decode cX0_mayGo 1 = .ok (.iload_n 1, 1) := by decide +kernel
theorem dX0_mayGo_2 : decode cX0_mayGo 2 = .ok (.invokevirtual 89, 3) := by decide +kernel
theorem dX0_mayGo_5 : decode cX0_mayGo 5 = .ok (.aload_n 0, 1) := by decide +kernel
theorem dX0_mayGo_6 : decode cX0_mayGo 6 = .ok (.iload_n 2, 1) := by decide +kernel
theorem dX0_mayGo_7 : decode cX0_mayGo 7 = .ok (.invokevirtual 64, 3) := by decide +kernel
theorem dX0_mayGo_10 : decode cX0_mayGo 10 = .ok (.aload_n 0, 1) := by decide +kernel
theorem dX0_mayGo_11 : decode cX0_mayGo 11 = .ok (.iload_n 1, 1) := by decide +kernel
theorem dX0_mayGo_12 : decode cX0_mayGo 12 = .ok (.iload_n 2, 1) := by decide +kernel
theorem dX0_mayGo_13 : decode cX0_mayGo 13 = .ok (.iconst (-1), 1) := by decide +kernel
theorem dX0_mayGo_14 : decode cX0_mayGo 14 = .ok (.invokevirtual 131, 3) := by decide +kernel
theorem dX0_mayGo_17 : decode cX0_mayGo 17 = .ok (.ifCond .ne 7, 3) := by decide +kernel
theorem dX0_mayGo_20 : decode cX0_mayGo 20 = .ok (.iconst 1, 1) := by decide +kernel
theorem dX0_mayGo_21 : decode cX0_mayGo 21 = .ok (.goto 4, 3) := by decide +kernel
theorem dX0_mayGo_24 : decode cX0_mayGo 24 = .ok (.iconst 0, 1) := by decide +kernel
theorem dX0_mayGo_25 : decode cX0_mayGo 25 = .ok (.ireturn, 1) := by decide +kernel
set_option maxRecDepth 20000 in
theorem ggX0_stampsMissing_X0_requirePerson : GoodIn wsX0_stampsMissing wsX0_requirePerson := goodIn_ca (goodIn_r _ [5, 6, 7, 8, 58, 59, 60, 61, 62, 63, 64, 65, 66, 67, 68, 69, 70, 71, 72, 73] (by decide +kernel) (by decide +kernel)) (goodIn_sub (fun _ h => List.mem_cons_of_mem _ (List.mem_append_right _ h)) (by decide +kernel))
set_option maxRecDepth 20000 in
theorem gX0_stampsMissing_X0_requirePerson : GoodIn wsX0_stampsMissing (wsV RX0 89 RX0 yX0_requirePerson wsX0_requirePerson) := goodIn_app (goodIn_of _ (by decide +kernel)) ggX0_stampsMissing_X0_requirePerson
set_option maxRecDepth 20000 in
theorem ggX0_stampsMissing_X0_requireQuarter : GoodIn wsX0_stampsMissing wsX0_requireQuarter := goodIn_ca (goodIn_r _ [12, 6, 7, 13, 58, 59, 60, 61, 62, 63, 64, 65, 66, 67, 68, 69, 70, 71, 72, 73] (by decide +kernel) (by decide +kernel)) (goodIn_sub (fun _ h => List.mem_cons_of_mem _ (List.mem_append_right _ h)) (by decide +kernel))
set_option maxRecDepth 20000 in
theorem gX0_stampsMissing_X0_requireQuarter : GoodIn wsX0_stampsMissing (wsV RX0 64 RX0 yX0_requireQuarter wsX0_requireQuarter) := goodIn_app (goodIn_of _ (by decide +kernel)) ggX0_stampsMissing_X0_requireQuarter
set_option maxRecDepth 20000 in
theorem ggX0_stampsMissing_X0_missing : GoodIn wsX0_stampsMissing wsX0_missing := goodIn_r _ [17, 18, 19, 20, 21, 22, 23, 24, 25, 26, 27, 28, 4, 29, 30, 31, 32, 33, 34, 35, 36, 37, 38, 39, 40, 41, 42, 43, 44, 45, 46, 47, 48, 49, 50, 51, 52, 53, 54, 55, 56, 57, 58, 59, 60, 61, 62, 63, 64, 65, 66, 67, 68, 69, 70, 71, 72, 73] (by decide +kernel) (by decide +kernel)
set_option maxRecDepth 20000 in
theorem gX0_stampsMissing_X0_missing : GoodIn wsX0_stampsMissing (wsV RX0 131 RX0 yX0_missing wsX0_missing) := goodIn_app (goodIn_of _ (by decide +kernel)) ggX0_stampsMissing_X0_missing
theorem dX0_stampsMissing_0 : decode cX0_stampsMissing 0 = .ok (.aload_n 0, 1) := by decide +kernel
theorem dX0_stampsMissing_1 : decode cX0_stampsMissing 1 = .ok (.iload_n 1, 1) := by decide +kernel
theorem dX0_stampsMissing_2 : decode cX0_stampsMissing 2 = .ok (.invokevirtual 89, 3) := by decide +kernel
theorem dX0_stampsMissing_5 : decode cX0_stampsMissing 5 = .ok (.aload_n 0, 1) := by decide +kernel
theorem dX0_stampsMissing_6 : decode cX0_stampsMissing 6 = .ok (.iload_n 2, 1) := by decide +kernel
theorem dX0_stampsMissing_7 : decode cX0_stampsMissing 7 = .ok (.invokevirtual 64, 3) := by decide +kernel
theorem dX0_stampsMissing_10 : decode cX0_stampsMissing 10 = .ok (.aload_n 0, 1) := by decide +kernel
theorem dX0_stampsMissing_11 : decode cX0_stampsMissing 11 = .ok (.iload_n 1, 1) := by decide +kernel
theorem dX0_stampsMissing_12 : decode cX0_stampsMissing 12 = .ok (.iload_n 2, 1) := by decide +kernel
theorem dX0_stampsMissing_13 : decode cX0_stampsMissing 13 = .ok (.iconst (-1), 1) := by decide +kernel
theorem dX0_stampsMissing_14 : decode cX0_stampsMissing 14 = .ok (.invokevirtual 131, 3) := by decide +kernel
theorem dX0_stampsMissing_17 : decode cX0_stampsMissing 17 = .ok (.ireturn, 1) := by decide +kernel
theorem dX0_quarters_0 : decode cX0_quarters 0 = .ok (.aload_n 0, 1) := by decide +kernel
theorem dX0_quarters_1 : decode cX0_quarters 1 = .ok (.getfield 44, 3) := by decide +kernel
theorem dX0_quarters_4 : decode cX0_quarters 4 = .ok (.ireturn, 1) := by decide +kernel
theorem dX0_orders_0 : decode cX0_orders 0 = .ok (.aload_n 0, 1) := by decide +kernel
theorem dX0_orders_1 : decode cX0_orders 1 = .ok (.getfield 74, 3) := by decide +kernel
theorem dX0_orders_4 : decode cX0_orders 4 = .ok (.ireturn, 1) := by decide +kernel
theorem dX0_people_0 : decode cX0_people 0 = .ok (.aload_n 0, 1) := by decide +kernel
theorem dX0_people_1 : decode cX0_people 1 = .ok (.getfield 59, 3) := by decide +kernel
theorem dX0_people_4 : decode cX0_people 4 = .ok (.ireturn, 1) := by decide +kernel
set_option maxRecDepth 20000 in
theorem ggX0_ordersOn_X0_isOnAt : GoodIn wsX0_ordersOn wsX0_isOnAt := goodIn_r _ [7, 8, 9, 10, 11, 6, 12, 13, 14, 15, 16, 17, 18, 19, 20, 21, 22, 23, 24, 25, 26, 27, 28, 29, 30, 31, 32, 33, 34, 35, 36, 37, 38, 39, 40, 41] (by decide +kernel) (by decide +kernel)
set_option maxRecDepth 20000 in
theorem gX0_ordersOn_X0_isOnAt : GoodIn wsX0_ordersOn (wsV RX0 128 RX0 yX0_isOnAt wsX0_isOnAt) := goodIn_app (goodIn_of _ (by decide +kernel)) ggX0_ordersOn_X0_isOnAt
theorem dX0_ordersOn_0 : decode cX0_ordersOn 0 = .ok (.iconst 0, 1) := by decide +kernel
theorem dX0_ordersOn_1 : decode cX0_ordersOn 1 = .ok (.istore_n 1, 1) := by decide +kernel
theorem dX0_ordersOn_2 : decode cX0_ordersOn 2 = .ok (.iconst 0, 1) := by decide +kernel
theorem dX0_ordersOn_3 : decode cX0_ordersOn 3 = .ok (.istore_n 2, 1) := by decide +kernel
theorem dX0_ordersOn_4 : decode cX0_ordersOn 4 = .ok (.iload_n 2, 1) := by decide +kernel
theorem dX0_ordersOn_5 : decode cX0_ordersOn 5 = .ok (.aload_n 0, 1) := by decide +kernel
theorem dX0_ordersOn_6 : decode cX0_ordersOn 6 = .ok (.getfield 74, 3) := by decide +kernel
theorem dX0_ordersOn_9 : decode cX0_ordersOn 9 = .ok (.if_icmp .ge 24, 3) := by decide +kernel
theorem dX0_ordersOn_12 : decode cX0_ordersOn 12 = .ok (.aload_n 0, 1) := by decide +kernel
theorem dX0_ordersOn_13 : decode cX0_ordersOn 13 = .ok (.iload_n 2, 1) := by decide +kernel
theorem dX0_ordersOn_14 : decode cX0_ordersOn 14 = .ok (.aload_n 0, 1) := by decide +kernel
theorem dX0_ordersOn_15 : decode cX0_ordersOn 15 = .ok (.getfield 101, 3) := by decide +kernel
theorem dX0_ordersOn_18 : decode cX0_ordersOn 18 = .ok (.invokevirtual 128, 3) := by decide +kernel
theorem dX0_ordersOn_21 : decode cX0_ordersOn 21 = .ok (.ifCond .eq 6, 3) := by decide +kernel
theorem dX0_ordersOn_24 : decode cX0_ordersOn 24 = .ok (.iinc 1 1, 3) := by decide +kernel
theorem dX0_ordersOn_27 : decode cX0_ordersOn 27 = .ok (.iinc 2 1, 3) := by decide +kernel
theorem dX0_ordersOn_30 : decode cX0_ordersOn 30 = .ok (.goto (-26), 3) := by decide +kernel
theorem dX0_ordersOn_33 : decode cX0_ordersOn 33 = .ok (.iload_n 1, 1) := by decide +kernel
theorem dX0_ordersOn_34 : decode cX0_ordersOn 34 = .ok (.ireturn, 1) := by decide +kernel
theorem dX0_shift_0 : decode cX0_shift 0 = .ok (.aload_n 0, 1) := by decide +kernel
theorem dX0_shift_1 : decode cX0_shift 1 = .ok (.getfield 86, 3) := by decide +kernel
theorem dX0_shift_4 : decode cX0_shift 4 = .ok (.ireturn, 1) := by decide +kernel
theorem dX0_allOwe_0 : decode cX0_allOwe 0 = .ok (.iconst 0, 1) := by decide +kernel
theorem dX0_allOwe_1 : decode cX0_allOwe 1 = .ok (.istore_n 1, 1) := by decide +kernel
theorem dX0_allOwe_2 : decode cX0_allOwe 2 = .ok (.iconst 0, 1) := by decide +kernel
theorem dX0_allOwe_3 : decode cX0_allOwe 3 = .ok (.istore_n 2, 1) := by decide +kernel
theorem dX0_allOwe_4 : decode cX0_allOwe 4 = .ok (.iload_n 2, 1) := by decide +kernel
theorem dX0_allOwe_5 : decode cX0_allOwe 5 = .ok (.aload_n 0, 1) := by decide +kernel
theorem dX0_allOwe_6 : decode cX0_allOwe 6 = .ok (.getfield 59, 3) := by decide +kernel
theorem dX0_allOwe_9 : decode cX0_allOwe 9 = .ok (.if_icmp .ge 18, 3) := by decide +kernel
theorem dX0_allOwe_12 : decode cX0_allOwe 12 = .ok (.iload_n 1, 1) := by decide +kernel
theorem dX0_allOwe_13 : decode cX0_allOwe 13 = .ok (.aload_n 0, 1) := by decide +kernel
theorem dX0_allOwe_14 : decode cX0_allOwe 14 = .ok (.getfield 35, 3) := by decide +kernel
theorem dX0_allOwe_17 : decode cX0_allOwe 17 = .ok (.iload_n 2, 1) := by decide +kernel
theorem dX0_allOwe_18 : decode cX0_allOwe 18 = .ok (.iaload, 1) := by decide +kernel
theorem dX0_allOwe_19 : decode cX0_allOwe 19 = .ok (.iadd, 1) := by decide +kernel
theorem dX0_allOwe_20 : decode cX0_allOwe 20 = .ok (.istore_n 1, 1) := by decide +kernel
theorem dX0_allOwe_21 : decode cX0_allOwe 21 = .ok (.iinc 2 1, 3) := by decide +kernel
theorem dX0_allOwe_24 : decode cX0_allOwe 24 = .ok (.goto (-20), 3) := by decide +kernel
theorem dX0_allOwe_27 : decode cX0_allOwe 27 = .ok (.iload_n 1, 1) := by decide +kernel
theorem dX0_allOwe_28 : decode cX0_allOwe 28 = .ok (.ireturn, 1) := by decide +kernel
set_option maxRecDepth 20000 in
theorem ggX0_halfHoursUntilFree_X0_requirePerson : GoodIn wsX0_halfHoursUntilFree wsX0_requirePerson := goodIn_ca (goodIn_r _ [6, 7, 8, 9, 49, 50, 51, 52, 53, 54, 55, 56, 57, 58, 59, 60, 61, 62, 63, 64] (by decide +kernel) (by decide +kernel)) (goodIn_sub (fun _ h => List.mem_cons_of_mem _ (List.mem_append_right _ h)) (by decide +kernel))
set_option maxRecDepth 20000 in
theorem gX0_halfHoursUntilFree_X0_requirePerson : GoodIn wsX0_halfHoursUntilFree (wsV RX0 89 RX0 yX0_requirePerson wsX0_requirePerson) := goodIn_app (goodIn_of _ (by decide +kernel)) ggX0_halfHoursUntilFree_X0_requirePerson
set_option maxRecDepth 20000 in
theorem ggX0_halfHoursUntilFree_X0_requireQuarter : GoodIn wsX0_halfHoursUntilFree wsX0_requireQuarter := goodIn_ca (goodIn_r _ [13, 7, 8, 14, 49, 50, 51, 52, 53, 54, 55, 56, 57, 58, 59, 60, 61, 62, 63, 64] (by decide +kernel) (by decide +kernel)) (goodIn_sub (fun _ h => List.mem_cons_of_mem _ (List.mem_append_right _ h)) (by decide +kernel))
set_option maxRecDepth 20000 in
theorem gX0_halfHoursUntilFree_X0_requireQuarter : GoodIn wsX0_halfHoursUntilFree (wsV RX0 64 RX0 yX0_requireQuarter wsX0_requireQuarter) := goodIn_app (goodIn_of _ (by decide +kernel)) ggX0_halfHoursUntilFree_X0_requireQuarter
set_option maxRecDepth 20000 in
theorem ggX0_halfHoursUntilFree_X0_isFreeAt : GoodIn wsX0_halfHoursUntilFree wsX0_isFreeAt := goodIn_r _ [18, 19, 20, 21, 22, 5, 23, 24, 25, 26, 27, 28, 29, 30, 31, 32, 33, 34, 35, 36, 37, 38, 39, 40, 41, 42, 43, 44, 45, 46, 47, 48, 49, 50, 51, 52, 53, 54, 55, 56, 57, 58, 59, 60, 61, 62, 63, 64] (by decide +kernel) (by decide +kernel)
set_option maxRecDepth 20000 in
theorem gX0_halfHoursUntilFree_X0_isFreeAt : GoodIn wsX0_halfHoursUntilFree (wsV RX0 135 RX0 yX0_isFreeAt wsX0_isFreeAt) := goodIn_app (goodIn_of _ (by decide +kernel)) ggX0_halfHoursUntilFree_X0_isFreeAt
theorem dX0_halfHoursUntilFree_0 : decode cX0_halfHoursUntilFree 0 = .ok (.aload_n 0, 1) := by decide +kernel
theorem dX0_halfHoursUntilFree_1 : decode cX0_halfHoursUntilFree 1 = .ok (.iload_n 1, 1) := by decide +kernel
theorem dX0_halfHoursUntilFree_2 : decode cX0_halfHoursUntilFree 2 = .ok (.invokevirtual 89, 3) := by decide +kernel
theorem dX0_halfHoursUntilFree_5 : decode cX0_halfHoursUntilFree 5 = .ok (.aload_n 0, 1) := by decide +kernel
theorem dX0_halfHoursUntilFree_6 : decode cX0_halfHoursUntilFree 6 = .ok (.iload_n 2, 1) := by decide +kernel
theorem dX0_halfHoursUntilFree_7 : decode cX0_halfHoursUntilFree 7 = .ok (.invokevirtual 64, 3) := by decide +kernel
theorem dX0_halfHoursUntilFree_10 : decode cX0_halfHoursUntilFree 10 = .ok (.iconst 0, 1) := by decide +kernel
theorem dX0_halfHoursUntilFree_11 : decode cX0_halfHoursUntilFree 11 = .ok (.istore_n 3, 1) := by decide +kernel
theorem dX0_halfHoursUntilFree_12 : decode cX0_halfHoursUntilFree 12 = .ok (.iload_n 3, 1) := by decide +kernel
theorem dX0_halfHoursUntilFree_13 : decode cX0_halfHoursUntilFree 13 = .ok (.bipush 48, 2) := by decide +kernel
theorem dX0_halfHoursUntilFree_15 : decode cX0_halfHoursUntilFree 15 = .ok (.if_icmp .gt 26, 3) := by decide +kernel
theorem dX0_halfHoursUntilFree_18 : decode cX0_halfHoursUntilFree 18 = .ok (.aload_n 0, 1) := by decide +kernel
theorem dX0_halfHoursUntilFree_19 : decode cX0_halfHoursUntilFree 19 = .ok (.iload_n 1, 1) := by decide +kernel
theorem dX0_halfHoursUntilFree_20 : decode cX0_halfHoursUntilFree 20 = .ok (.iload_n 2, 1) := by decide +kernel
theorem dX0_halfHoursUntilFree_21 : decode cX0_halfHoursUntilFree 21 = .ok (.aload_n 0, 1) := by decide +kernel
theorem dX0_halfHoursUntilFree_22 : decode cX0_halfHoursUntilFree 22 = .ok (.getfield 101, 3) := by decide +kernel
theorem dX0_halfHoursUntilFree_25 : decode cX0_halfHoursUntilFree 25 = .ok (.iload_n 3, 1) := by decide +kernel
theorem dX0_halfHoursUntilFree_26 : decode cX0_halfHoursUntilFree 26 = .ok (.iadd, 1) := by decide +kernel
theorem dX0_halfHoursUntilFree_27 : decode cX0_halfHoursUntilFree 27 = .ok (.invokevirtual 135, 3) := by decide +kernel
theorem dX0_halfHoursUntilFree_30 : decode cX0_halfHoursUntilFree 30 = .ok (.ifCond .eq 5, 3) := by decide +kernel
theorem dX0_halfHoursUntilFree_33 : decode cX0_halfHoursUntilFree 33 = .ok (.iload_n 3, 1) := by decide +kernel
theorem dX0_halfHoursUntilFree_34 : decode cX0_halfHoursUntilFree 34 = .ok (.ireturn, 1) := by decide +kernel
theorem dX0_halfHoursUntilFree_35 : decode cX0_halfHoursUntilFree 35 = .ok (.iinc 3 1, 3) := by decide +kernel
theorem dX0_halfHoursUntilFree_38 : decode cX0_halfHoursUntilFree 38 = .ok (.goto (-26), 3) := by decide +kernel
theorem dX0_halfHoursUntilFree_41 : decode cX0_halfHoursUntilFree 41 = .ok (.iconst (-1), 1) := by decide +kernel
theorem dX0_halfHoursUntilFree_42 : decode cX0_halfHoursUntilFree 42 = .ok (.ireturn, 1) := by decide +kernel
set_option maxRecDepth 20000 in
theorem ggX0_halfHoursOn_X0_requireOrder : GoodIn wsX0_halfHoursOn wsX0_requireOrder := goodIn_ca (goodIn_r _ [6, 7, 8, 9, 27, 28, 29, 30, 31, 32, 33, 34, 35, 36, 37, 38, 39, 40, 41, 42] (by decide +kernel) (by decide +kernel)) (goodIn_sub (fun _ h => List.mem_cons_of_mem _ (List.mem_append_right _ h)) (by decide +kernel))
set_option maxRecDepth 20000 in
theorem gX0_halfHoursOn_X0_requireOrder : GoodIn wsX0_halfHoursOn (wsV RX0 79 RX0 yX0_requireOrder wsX0_requireOrder) := goodIn_app (goodIn_of _ (by decide +kernel)) ggX0_halfHoursOn_X0_requireOrder
set_option maxRecDepth 20000 in
theorem ggX0_halfHoursOn_X0_isInHours : GoodIn wsX0_halfHoursOn wsX0_isInHours := goodIn_r _ [13, 14, 15, 16, 17, 18, 5, 19, 20, 21, 22, 23, 24, 25, 26, 27, 28, 29, 30, 31, 32, 33, 34, 35, 36, 37, 38, 39, 40, 41, 42] (by decide +kernel) (by decide +kernel)
set_option maxRecDepth 20000 in
theorem gX0_halfHoursOn_X0_isInHours : GoodIn wsX0_halfHoursOn (wsV RX0 139 RX0 yX0_isInHours wsX0_isInHours) := goodIn_app (goodIn_of _ (by decide +kernel)) ggX0_halfHoursOn_X0_isInHours
theorem dX0_halfHoursOn_0 : decode cX0_halfHoursOn 0 = .ok (.aload_n 0, 1) := by decide +kernel
theorem dX0_halfHoursOn_1 : decode cX0_halfHoursOn 1 = .ok (.iload_n 1, 1) := by decide +kernel
theorem dX0_halfHoursOn_2 : decode cX0_halfHoursOn 2 = .ok (.invokevirtual 79, 3) := by decide +kernel
theorem dX0_halfHoursOn_5 : decode cX0_halfHoursOn 5 = .ok (.iconst 0, 1) := by decide +kernel
theorem dX0_halfHoursOn_6 : decode cX0_halfHoursOn 6 = .ok (.istore_n 2, 1) := by decide +kernel
theorem dX0_halfHoursOn_7 : decode cX0_halfHoursOn 7 = .ok (.iconst 0, 1) := by decide +kernel
theorem dX0_halfHoursOn_8 : decode cX0_halfHoursOn 8 = .ok (.istore_n 3, 1) := by decide +kernel
theorem dX0_halfHoursOn_9 : decode cX0_halfHoursOn 9 = .ok (.iload_n 3, 1) := by decide +kernel
theorem dX0_halfHoursOn_10 : decode cX0_halfHoursOn 10 = .ok (.bipush 48, 2) := by decide +kernel
theorem dX0_halfHoursOn_12 : decode cX0_halfHoursOn 12 = .ok (.if_icmp .ge 26, 3) := by decide +kernel
theorem dX0_halfHoursOn_15 : decode cX0_halfHoursOn 15 = .ok (.aload_n 0, 1) := by decide +kernel
theorem dX0_halfHoursOn_16 : decode cX0_halfHoursOn 16 = .ok (.iload_n 1, 1) := by decide +kernel
theorem dX0_halfHoursOn_17 : decode cX0_halfHoursOn 17 = .ok (.aload_n 0, 1) := by decide +kernel
theorem dX0_halfHoursOn_18 : decode cX0_halfHoursOn 18 = .ok (.getfield 101, 3) := by decide +kernel
theorem dX0_halfHoursOn_21 : decode cX0_halfHoursOn 21 = .ok (.iload_n 3, 1) := by decide +kernel
theorem dX0_halfHoursOn_22 : decode cX0_halfHoursOn 22 = .ok (.iadd, 1) := by decide +kernel
theorem dX0_halfHoursOn_23 : decode cX0_halfHoursOn 23 = .ok (.invokevirtual 139, 3) := by decide +kernel
theorem dX0_halfHoursOn_26 : decode cX0_halfHoursOn 26 = .ok (.ifCond .eq 6, 3) := by decide +kernel
theorem dX0_halfHoursOn_29 : decode cX0_halfHoursOn 29 = .ok (.iinc 2 1, 3) := by decide +kernel
theorem dX0_halfHoursOn_32 : decode cX0_halfHoursOn 32 = .ok (.iinc 3 1, 3) := by decide +kernel
theorem dX0_halfHoursOn_35 : decode cX0_halfHoursOn 35 = .ok (.goto (-26), 3) := by decide +kernel
theorem dX0_halfHoursOn_38 : decode cX0_halfHoursOn 38 = .ok (.iload_n 2, 1) := by decide +kernel
theorem dX0_halfHoursOn_39 : decode cX0_halfHoursOn 39 = .ok (.ireturn, 1) := by decide +kernel
theorem dX0_exempts_0 : decode cX0_exempts 0 = .ok (.aload_n 0, 1) := by decide +kernel
theorem dX0_exempts_1 : decode cX0_exempts 1 = .ok (.getfield 26, 3) := by decide +kernel
theorem dX0_exempts_4 : decode cX0_exempts 4 = .ok (.iload_n 1, 1) := by decide +kernel
theorem dX0_exempts_5 : decode cX0_exempts 5 = .ok (.iaload, 1) := by decide +kernel
theorem dX0_exempts_6 : decode cX0_exempts 6 = .ok (.iload_n 2, 1) := by decide +kernel
theorem dX0_exempts_7 : decode cX0_exempts 7 = .ok (.ishr, 1) := by decide +kernel
theorem dX0_exempts_8 : decode cX0_exempts 8 = .ok (.iconst 1, 1) := by decide +kernel
theorem dX0_exempts_9 : decode cX0_exempts 9 = .ok (.iand, 1) := by decide +kernel
theorem dX0_exempts_10 : decode cX0_exempts 10 = .ok (.ifCond .eq 7, 3) := by decide +kernel
theorem dX0_exempts_13 : decode cX0_exempts 13 = .ok (.iconst 1, 1) := by decide +kernel
theorem dX0_exempts_14 : decode cX0_exempts 14 = .ok (.goto 4, 3) := by decide +kernel
theorem dX0_exempts_17 : decode cX0_exempts 17 = .ok (.iconst 0, 1) := by decide +kernel
theorem dX0_exempts_18 : decode cX0_exempts 18 = .ok (.ireturn, 1) := by decide +kernel
set_option maxRecDepth 20000 in
theorem ggX0_bars_X0_exempts : GoodIn wsX0_bars wsX0_exempts := goodIn_r _ [8, 9, 27, 28, 29, 30, 31, 32, 33, 34, 35, 36, 37, 38, 39, 40, 41, 42] (by decide +kernel) (by decide +kernel)
set_option maxRecDepth 20000 in
theorem gX0_bars_X0_exempts : GoodIn wsX0_bars (wsV RX0 82 RX0 yX0_exempts wsX0_exempts) := goodIn_app (goodIn_of _ (by decide +kernel)) ggX0_bars_X0_exempts
set_option maxRecDepth 20000 in
theorem ggX0_bars_X0_isInHours : GoodIn wsX0_bars wsX0_isInHours := goodIn_r _ [13, 14, 15, 16, 17, 18, 7, 19, 20, 21, 22, 23, 24, 25, 26, 27, 28, 29, 30, 31, 32, 33, 34, 35, 36, 37, 38, 39, 40, 41, 42] (by decide +kernel) (by decide +kernel)
set_option maxRecDepth 20000 in
theorem gX0_bars_X0_isInHours : GoodIn wsX0_bars (wsV RX0 139 RX0 yX0_isInHours wsX0_isInHours) := goodIn_app (goodIn_of _ (by decide +kernel)) ggX0_bars_X0_isInHours
theorem dX0_bars_0 : decode cX0_bars 0 = .ok (.aload_n 0, 1) := by decide +kernel
theorem dX0_bars_1 : decode cX0_bars 1 = .ok (.getfield 9, 3) := by decide +kernel
theorem dX0_bars_4 : decode cX0_bars 4 = .ok (.iload_n 1, 1) := by decide +kernel
theorem dX0_bars_5 : decode cX0_bars 5 = .ok (.iaload, 1) := by decide +kernel
theorem dX0_bars_6 : decode cX0_bars 6 = .ok (.iload_n 3, 1) := by decide +kernel
theorem dX0_bars_7 : decode cX0_bars 7 = .ok (.if_icmp .ne 40, 3) := by decide +kernel
theorem dX0_bars_10 : decode cX0_bars 10 = .ok (.aload_n 0, 1) := by decide +kernel
theorem dX0_bars_11 : decode cX0_bars 11 = .ok (.iload_n 1, 1) := by decide +kernel
theorem dX0_bars_12 : decode cX0_bars 12 = .ok (.aload_n 0, 1) := by decide +kernel
theorem dX0_bars_13 : decode cX0_bars 13 = .ok (.getfield 29, 3) := by decide +kernel
theorem dX0_bars_16 : decode cX0_bars 16 = .ok (.iload_n 2, 1) := by decide +kernel
theorem dX0_bars_17 : decode cX0_bars 17 = .ok (.iaload, 1) := by decide +kernel
theorem dX0_bars_18 : decode cX0_bars 18 = .ok (.invokevirtual 82, 3) := by decide +kernel
theorem dX0_bars_21 : decode cX0_bars 21 = .ok (.ifCond .ne 26, 3) := by decide +kernel
theorem dX0_bars_24 : decode cX0_bars 24 = .ok (.aload_n 0, 1) := by decide +kernel
theorem dX0_bars_25 : decode cX0_bars 25 = .ok (.getfield 22, 3) := by decide +kernel
theorem dX0_bars_28 : decode cX0_bars 28 = .ok (.iload_n 1, 1) := by decide +kernel
theorem dX0_bars_29 : decode cX0_bars 29 = .ok (.baload, 1) := by decide +kernel
theorem dX0_bars_30 : decode cX0_bars 30 = .ok (.ifCond .eq 17, 3) := by decide +kernel
theorem dX0_bars_33 : decode cX0_bars 33 = .ok (.aload_n 0, 1) := by decide +kernel
theorem dX0_bars_34 : decode cX0_bars 34 = .ok (.iload_n 1, 1) := by decide +kernel
theorem dX0_bars_35 : decode cX0_bars 35 = .ok (.iload 4, 2) := by decide +kernel
theorem dX0_bars_37 : decode cX0_bars 37 = .ok (.invokevirtual 139, 3) := by decide +kernel
theorem dX0_bars_40 : decode cX0_bars 40 = .ok (.ifCond .eq 7, 3) := by decide +kernel
theorem dX0_bars_43 : decode cX0_bars 43 = .ok (.iconst 1, 1) := by decide +kernel
theorem dX0_bars_44 : decode cX0_bars 44 = .ok (.goto 4, 3) := by decide +kernel
theorem dX0_bars_47 : decode cX0_bars 47 = .ok (.iconst 0, 1) := by decide +kernel
theorem dX0_bars_48 : decode cX0_bars 48 = .ok (.ireturn, 1) := by decide +kernel
set_option maxRecDepth 20000 in
theorem ggX0_isFreeAt_X0_bars : GoodIn wsX0_isFreeAt wsX0_bars := goodIn_r _ [6, 7, 8, 9, 10, 11, 12, 5, 13, 14, 15, 16, 17, 18, 19, 20, 21, 22, 23, 24, 25, 26, 27, 28, 29, 30, 31, 32, 33, 34, 35, 36, 37, 38, 39, 40, 41, 42, 43, 44, 45, 46, 47] (by decide +kernel) (by decide +kernel)
set_option maxRecDepth 20000 in
theorem gX0_isFreeAt_X0_bars : GoodIn wsX0_isFreeAt (wsV RX0 104 RX0 yX0_bars wsX0_bars) := goodIn_app (goodIn_of _ (by decide +kernel)) ggX0_isFreeAt_X0_bars
theorem dX0_isFreeAt_0 : decode cX0_isFreeAt 0 = .ok (.iconst 0, 1) := by decide +kernel
theorem dX0_isFreeAt_1 : decode cX0_isFreeAt 1 = .ok (.istore 4, 2) := by decide +kernel
theorem dX0_isFreeAt_3 : decode cX0_isFreeAt 3 = .ok (.iload 4, 2) := by decide +kernel
theorem dX0_isFreeAt_5 : decode cX0_isFreeAt 5 = .ok (.aload_n 0, 1) := by decide +kernel
theorem dX0_isFreeAt_6 : decode cX0_isFreeAt 6 = .ok (.getfield 74, 3) := by decide +kernel
theorem dX0_isFreeAt_9 : decode cX0_isFreeAt 9 = .ok (.if_icmp .ge 23, 3) := by decide +kernel
theorem dX0_isFreeAt_12 : decode cX0_isFreeAt 12 = .ok (.aload_n 0, 1) := by decide +kernel
theorem dX0_isFreeAt_13 : decode cX0_isFreeAt 13 = .ok (.iload 4, 2) := by decide +kernel
theorem dX0_isFreeAt_15 : decode cX0_isFreeAt 15 = .ok (.iload_n 1, 1) := by decide +kernel
theorem dX0_isFreeAt_16 : decode cX0_isFreeAt 16 = .ok (.iload_n 2, 1) := by decide +kernel
theorem dX0_isFreeAt_17 : decode cX0_isFreeAt 17 = .ok (.iload_n 3, 1) := by decide +kernel
theorem dX0_isFreeAt_18 : decode cX0_isFreeAt 18 = .ok (.invokevirtual 104, 3) := by decide +kernel
theorem dX0_isFreeAt_21 : decode cX0_isFreeAt 21 = .ok (.ifCond .eq 5, 3) := by decide +kernel
theorem dX0_isFreeAt_24 : decode cX0_isFreeAt 24 = .ok (.iconst 0, 1) := by decide +kernel
theorem dX0_isFreeAt_25 : decode cX0_isFreeAt 25 = .ok (.ireturn, 1) := by decide +kernel
theorem dX0_isFreeAt_26 : decode cX0_isFreeAt 26 = .ok (.iinc 4 1, 3) := by decide +kernel
theorem dX0_isFreeAt_29 : decode cX0_isFreeAt 29 = .ok (.goto (-26), 3) := by decide +kernel
theorem dX0_isFreeAt_32 : decode cX0_isFreeAt 32 = .ok (.iconst 1, 1) := by decide +kernel
theorem dX0_isFreeAt_33 : decode cX0_isFreeAt 33 = .ok (.ireturn, 1) := by decide +kernel
theorem dX0_stampPlace_0 : decode cX0_stampPlace 0 = .ok (.iload_n 0, 1) := by decide +kernel
theorem dX0_stampPlace_1 : decode cX0_stampPlace 1 = .ok (.iconst 4, 1) := by decide +kernel
theorem dX0_stampPlace_2 : decode cX0_stampPlace 2 = .ok (.imul, 1) := by decide +kernel
theorem dX0_stampPlace_3 : decode cX0_stampPlace 3 = .ok (.iload_n 1, 1) := by decide +kernel
theorem dX0_stampPlace_4 : decode cX0_stampPlace 4 = .ok (.iadd, 1) := by decide +kernel
theorem dX0_stampPlace_5 : decode cX0_stampPlace 5 = .ok (.ireturn, 1) := by decide +kernel
set_option maxRecDepth 20000 in
theorem ggX0_missing_X0_bars : GoodIn wsX0_missing wsX0_bars := goodIn_r _ [13, 14, 15, 16, 17, 18, 19, 12, 20, 21, 22, 23, 24, 25, 26, 27, 28, 29, 30, 31, 32, 33, 34, 35, 36, 37, 38, 42, 43, 44, 45, 46, 47, 48, 49, 50, 51, 52, 53, 54, 55, 56, 57] (by decide +kernel) (by decide +kernel)
set_option maxRecDepth 20000 in
theorem gX0_missing_X0_bars : GoodIn wsX0_missing (wsV RX0 104 RX0 yX0_bars wsX0_bars) := goodIn_app (goodIn_of _ (by decide +kernel)) ggX0_missing_X0_bars
set_option maxRecDepth 20000 in
theorem ggX0_missing_X0_stampPlace : GoodIn wsX0_missing wsX0_stampPlace := goodIn_r _ [41] (by decide +kernel) (by decide +kernel)
set_option maxRecDepth 20000 in
theorem gX0_missing_X0_stampPlace : GoodIn wsX0_missing (va_wsS RX0 92 yX0_stampPlace wsX0_stampPlace) := goodIn_app (goodIn_of _ (by decide +kernel)) ggX0_missing_X0_stampPlace
theorem dX0_missing_0 : decode cX0_missing 0 = .ok (.iconst 0, 1) := by decide +kernel
theorem dX0_missing_1 : decode cX0_missing 1 = .ok (.istore 4, 2) := by decide +kernel
theorem dX0_missing_3 : decode cX0_missing 3 = .ok (.iconst 0, 1) := by decide +kernel
theorem dX0_missing_4 : decode cX0_missing 4 = .ok (.istore 5, 2) := by decide +kernel
theorem dX0_missing_6 : decode cX0_missing 6 = .ok (.iload 5, 2) := by decide +kernel
theorem dX0_missing_8 : decode cX0_missing 8 = .ok (.iconst 4, 1) := by decide +kernel
theorem dX0_missing_9 : decode cX0_missing 9 = .ok (.if_icmp .ge 89, 3) := by decide +kernel
theorem dX0_missing_12 : decode cX0_missing 12 = .ok (.iconst 0, 1) := by decide +kernel
theorem dX0_missing_13 : decode cX0_missing 13 = .ok (.istore 6, 2) := by decide +kernel
theorem dX0_missing_15 : decode cX0_missing 15 = .ok (.iconst 0, 1) := by decide +kernel
theorem dX0_missing_16 : decode cX0_missing 16 = .ok (.istore 7, 2) := by decide +kernel
theorem dX0_missing_18 : decode cX0_missing 18 = .ok (.iload 7, 2) := by decide +kernel
theorem dX0_missing_20 : decode cX0_missing 20 = .ok (.aload_n 0, 1) := by decide +kernel
theorem dX0_missing_21 : decode cX0_missing 21 = .ok (.getfield 74, 3) := by decide +kernel
theorem dX0_missing_24 : decode cX0_missing 24 = .ok (.if_icmp .ge 45, 3) := by decide +kernel
theorem dX0_missing_27 : decode cX0_missing 27 = .ok (.iload 7, 2) := by decide +kernel
theorem dX0_missing_29 : decode cX0_missing 29 = .ok (.iload_n 3, 1) := by decide +kernel
theorem dX0_missing_30 : decode cX0_missing 30 = .ok (.if_icmp .eq 33, 3) := by decide +kernel
theorem dX0_missing_33 : decode cX0_missing 33 = .ok (.aload_n 0, 1) := by decide +kernel
theorem dX0_missing_34 : decode cX0_missing 34 = .ok (.getfield 19, 3) := by decide +kernel
theorem dX0_missing_37 : decode cX0_missing 37 = .ok (.iload 7, 2) := by decide +kernel
theorem dX0_missing_39 : decode cX0_missing 39 = .ok (.iaload, 1) := by decide +kernel
theorem dX0_missing_40 : decode cX0_missing 40 = .ok (.iload 5, 2) := by decide +kernel
theorem dX0_missing_42 : decode cX0_missing 42 = .ok (.if_icmp .ne 21, 3) := by decide +kernel
theorem dX0_missing_45 : decode cX0_missing 45 = .ok (.aload_n 0, 1) := by decide +kernel
theorem dX0_missing_46 : decode cX0_missing 46 = .ok (.iload 7, 2) := by decide +kernel
theorem dX0_missing_48 : decode cX0_missing 48 = .ok (.iload_n 1, 1) := by decide +kernel
theorem dX0_missing_49 : decode cX0_missing 49 = .ok (.iload_n 2, 1) := by decide +kernel
theorem dX0_missing_50 : decode cX0_missing 50 = .ok (.aload_n 0, 1) := by decide +kernel
theorem dX0_missing_51 : decode cX0_missing 51 = .ok (.getfield 101, 3) := by decide +kernel
theorem dX0_missing_54 : decode cX0_missing 54 = .ok (.invokevirtual 104, 3) := by decide +kernel
theorem dX0_missing_57 : decode cX0_missing 57 = .ok (.ifCond .eq 6, 3) := by decide +kernel
theorem dX0_missing_60 : decode cX0_missing 60 = .ok (.iinc 6 1, 3) := by decide +kernel
theorem dX0_missing_63 : decode cX0_missing 63 = .ok (.iinc 7 1, 3) := by decide +kernel
theorem dX0_missing_66 : decode cX0_missing 66 = .ok (.goto (-48), 3) := by decide +kernel
theorem dX0_missing_69 : decode cX0_missing 69 = .ok (.iload 4, 2) := by decide +kernel
theorem dX0_missing_71 : decode cX0_missing 71 = .ok (.iconst 0, 1) := by decide +kernel
theorem dX0_missing_72 : decode cX0_missing 72 = .ok (.iload 6, 2) := by decide +kernel
theorem dX0_missing_74 : decode cX0_missing 74 = .ok (.aload_n 0, 1) := by decide +kernel
theorem dX0_missing_75 : decode cX0_missing 75 = .ok (.getfield 38, 3) := by decide +kernel
theorem dX0_missing_78 : decode cX0_missing 78 = .ok (.iload_n 1, 1) := by decide +kernel
theorem dX0_missing_79 : decode cX0_missing 79 = .ok (.iload 5, 2) := by decide +kernel
theorem dX0_missing_81 : decode cX0_missing 81 = .ok (.invokestatic 92, 3) := by decide +kernel
theorem dX0_missing_84 : decode cX0_missing 84 = .ok (.iaload, 1) := by decide +kernel
theorem dX0_missing_85 : decode cX0_missing 85 = .ok (.isub, 1) := by decide +kernel
theorem dX0_missing_86 : decode cX0_missing 86 = .ok (.invokestatic 187, 3) := by decide +kernel
theorem dX0_missing_89 : decode cX0_missing 89 = .ok (.iadd, 1) := by decide +kernel
theorem dX0_missing_90 : decode cX0_missing 90 = .ok (.istore 4, 2) := by decide +kernel
theorem dX0_missing_92 : decode cX0_missing 92 = .ok (.iinc 5 1, 3) := by decide +kernel
theorem dX0_missing_95 : decode cX0_missing 95 = .ok (.goto (-89), 3) := by decide +kernel
theorem dX0_missing_98 : decode cX0_missing 98 = .ok (.iload 4, 2) := by decide +kernel
theorem dX0_missing_100 : decode cX0_missing 100 = .ok (.ireturn, 1) := by decide +kernel
theorem dX0_requireOrder_0 : decode cX0_requireOrder 0 = .ok (.iload_n 1, 1) := by decide +kernel
theorem dX0_requireOrder_1 : decode cX0_requireOrder 1 = .ok (.ifCond .lt 11, 3) := by decide +kernel
theorem dX0_requireOrder_4 : decode cX0_requireOrder 4 = .ok (.iload_n 1, 1) := by decide +kernel
theorem dX0_requireOrder_5 : decode cX0_requireOrder 5 = .ok (.aload_n 0, 1) := by decide +kernel
theorem dX0_requireOrder_6 : decode cX0_requireOrder 6 = .ok (.getfield 74, 3) := by decide +kernel
theorem dX0_requireOrder_9 : decode cX0_requireOrder 9 = .ok (.if_icmp .lt 13, 3) := by decide +kernel
theorem dX0_requireOrder_12 : decode cX0_requireOrder 12 = .ok (.new 190, 3) := by decide +kernel
theorem dX0_requireOrder_15 : decode cX0_requireOrder 15 = .ok (.dup, 1) := by decide +kernel
theorem dX0_requireOrder_16 : decode cX0_requireOrder 16 = .ok (.ldc 195, 2) := by decide +kernel
theorem dX0_requireOrder_18 : decode cX0_requireOrder 18 = .ok (.invokespecial 194, 3) := by decide +kernel
theorem dX0_requireOrder_21 : decode cX0_requireOrder 21 = .ok (.athrow, 1) := by decide +kernel
theorem dX0_requireOrder_22 : decode cX0_requireOrder 22 = .ok (.return_, 1) := by decide +kernel
theorem dX0_requirePerson_0 : decode cX0_requirePerson 0 = .ok (.iload_n 1, 1) := by decide +kernel
theorem dX0_requirePerson_1 : decode cX0_requirePerson 1 = .ok (.ifCond .lt 11, 3) := by decide +kernel
theorem dX0_requirePerson_4 : decode cX0_requirePerson 4 = .ok (.iload_n 1, 1) := by decide +kernel
theorem dX0_requirePerson_5 : decode cX0_requirePerson 5 = .ok (.aload_n 0, 1) := by decide +kernel
theorem dX0_requirePerson_6 : decode cX0_requirePerson 6 = .ok (.getfield 59, 3) := by decide +kernel
theorem dX0_requirePerson_9 : decode cX0_requirePerson 9 = .ok (.if_icmp .lt 13, 3) := by decide +kernel
theorem dX0_requirePerson_12 : decode cX0_requirePerson 12 = .ok (.new 190, 3) := by decide +kernel
theorem dX0_requirePerson_15 : decode cX0_requirePerson 15 = .ok (.dup, 1) := by decide +kernel
theorem dX0_requirePerson_16 : decode cX0_requirePerson 16 = .ok (.ldc 197, 2) := by decide +kernel
theorem dX0_requirePerson_18 : decode cX0_requirePerson 18 = .ok (.invokespecial 194, 3) := by decide +kernel
theorem dX0_requirePerson_21 : decode cX0_requirePerson 21 = .ok (.athrow, 1) := by decide +kernel
theorem dX0_requirePerson_22 : decode cX0_requirePerson 22 = .ok (.return_, 1) := by decide +kernel
