set_option maxRecDepth 20000 in
theorem ggL_law_L_cell : GoodIn wsL_law wsL_cell := goodIn_r _ [38, 39] (by decide +kernel) (by decide +kernel)
set_option maxRecDepth 20000 in
theorem gL_law_L_cell : GoodIn wsL_law (va_wsS RL 94 yL_cell wsL_cell) := goodIn_app (goodIn_of _ (by decide +kernel)) ggL_law_L_cell
set_option maxRecDepth 20000 in
theorem ggL_law_X0_halfHour : GoodIn wsL_law wsX0_halfHour := goodIn_r _ [203, 157, 356, 357, 358, 359, 360, 361, 362, 363, 364, 365, 366, 367, 368, 369, 370, 371] (by decide +kernel) (by decide +kernel)
set_option maxRecDepth 20000 in
theorem gL_law_X0_halfHour : GoodIn wsL_law (wsV RL 107 RX0 yX0_halfHour wsX0_halfHour) := goodIn_app (goodIn_of _ (by decide +kernel)) ggL_law_X0_halfHour
set_option maxRecDepth 20000 in
theorem ggL_law_X0_dawnIn : GoodIn wsL_law wsX0_dawnIn := goodIn_ca (goodIn_r _ [207, 87, 88, 2, 89, 90, 91, 208, 209, 210, 211, 157, 173, 174, 175, 170, 171, 172, 356, 357, 358, 359, 360, 361, 362, 363, 364, 365, 366, 367, 368, 369, 370, 371] (by decide +kernel) (by decide +kernel)) (goodIn_sub (fun _ h => List.mem_append_right _ h) (by decide +kernel))
set_option maxRecDepth 20000 in
theorem gL_law_X0_dawnIn : GoodIn wsL_law (wsV RL 110 RX0 yX0_dawnIn wsX0_dawnIn) := goodIn_app (goodIn_of _ (by decide +kernel)) ggL_law_X0_dawnIn
set_option maxRecDepth 20000 in
theorem ggL_law_X0_duskIn : GoodIn wsL_law wsX0_duskIn := goodIn_ca (goodIn_r _ [215, 87, 88, 2, 89, 90, 91, 208, 209, 210, 211, 157, 166, 167, 168, 169, 112, 170, 171, 172, 356, 357, 358, 359, 360, 361, 362, 363, 364, 365, 366, 367, 368, 369, 370, 371] (by decide +kernel) (by decide +kernel)) (goodIn_sub (fun _ h => List.mem_append_right _ h) (by decide +kernel))
set_option maxRecDepth 20000 in
theorem gL_law_X0_duskIn : GoodIn wsL_law (wsV RL 113 RX0 yX0_duskIn wsX0_duskIn) := goodIn_app (goodIn_of _ (by decide +kernel)) ggL_law_X0_duskIn
set_option maxRecDepth 20000 in
theorem ggL_law_X0_shift : GoodIn wsL_law wsX0_shift := goodIn_r _ [219, 112, 356, 357, 358, 359, 360, 361, 362, 363, 364, 365, 366, 367, 368, 369, 370, 371] (by decide +kernel) (by decide +kernel)
set_option maxRecDepth 20000 in
theorem gL_law_X0_shift : GoodIn wsL_law (wsV RL 116 RX0 yX0_shift wsX0_shift) := goodIn_app (goodIn_of _ (by decide +kernel)) ggL_law_X0_shift
set_option maxRecDepth 20000 in
theorem ggL_law_X0_orders : GoodIn wsL_law wsX0_orders := goodIn_r _ [223, 79, 356, 357, 358, 359, 360, 361, 362, 363, 364, 365, 366, 367, 368, 369, 370, 371] (by decide +kernel) (by decide +kernel)
set_option maxRecDepth 20000 in
theorem gL_law_X0_orders : GoodIn wsL_law (wsV RL 118 RX0 yX0_orders wsX0_orders) := goodIn_app (goodIn_of _ (by decide +kernel)) ggL_law_X0_orders
set_option maxRecDepth 20000 in
theorem ggL_law_X0_isOn : GoodIn wsL_law wsX0_isOn := goodIn_ca (goodIn_r _ [227, 157, 96, 97, 98, 2, 99, 73, 74, 79, 196, 197, 198, 199, 15, 162, 163, 164, 165, 11, 12, 166, 167, 168, 169, 112, 170, 171, 172, 173, 174, 175, 356, 357, 358, 359, 360, 361, 362, 363, 364, 365, 366, 367, 368, 369, 370, 371] (by decide +kernel) (by decide +kernel)) (goodIn_sub (fun _ h => List.mem_append_left _ (List.mem_append_right _ h)) (by decide +kernel))
set_option maxRecDepth 20000 in
theorem gL_law_X0_isOn : GoodIn wsL_law (wsV RL 120 RX0 yX0_isOn wsX0_isOn) := goodIn_app (goodIn_of _ (by decide +kernel)) ggL_law_X0_isOn
set_option maxRecDepth 20000 in
theorem ggL_law_X0_isInForce : GoodIn wsL_law wsX0_isInForce := goodIn_ca (goodIn_r _ [231, 15, 96, 97, 98, 2, 99, 73, 74, 79, 356, 357, 358, 359, 360, 361, 362, 363, 364, 365, 366, 367, 368, 369, 370, 371] (by decide +kernel) (by decide +kernel)) (goodIn_sub (fun _ h => List.mem_append_left _ (List.mem_append_right _ h)) (by decide +kernel))
set_option maxRecDepth 20000 in
theorem gL_law_X0_isInForce : GoodIn wsL_law (wsV RL 123 RX0 yX0_isInForce wsX0_isInForce) := goodIn_app (goodIn_of _ (by decide +kernel)) ggL_law_X0_isInForce
set_option maxRecDepth 20000 in
theorem ggL_law_X0_halfHoursOn : GoodIn wsL_law wsX0_halfHoursOn := goodIn_ca (goodIn_r _ [235, 157, 96, 97, 98, 2, 99, 73, 74, 79, 162, 163, 164, 165, 11, 12, 166, 167, 168, 169, 112, 170, 171, 172, 173, 174, 175, 356, 357, 358, 359, 360, 361, 362, 363, 364, 365, 366, 367, 368, 369, 370, 371] (by decide +kernel) (by decide +kernel)) (goodIn_sub (fun _ h => List.mem_append_left _ (List.mem_append_right _ h)) (by decide +kernel))
set_option maxRecDepth 20000 in
theorem gL_law_X0_halfHoursOn : GoodIn wsL_law (wsV RL 126 RX0 yX0_halfHoursOn wsX0_halfHoursOn) := goodIn_app (goodIn_of _ (by decide +kernel)) ggL_law_X0_halfHoursOn
set_option maxRecDepth 20000 in
theorem ggL_law_X0_people : GoodIn wsL_law wsX0_people := goodIn_r _ [239, 69, 356, 357, 358, 359, 360, 361, 362, 363, 364, 365, 366, 367, 368, 369, 370, 371] (by decide +kernel) (by decide +kernel)
set_option maxRecDepth 20000 in
theorem gL_law_X0_people : GoodIn wsL_law (wsV RL 129 RX0 yX0_people wsX0_people) := goodIn_app (goodIn_of _ (by decide +kernel)) ggL_law_X0_people
set_option maxRecDepth 20000 in
theorem ggL_law_X0_tradeOf : GoodIn wsL_law wsX0_tradeOf := goodIn_ca (goodIn_r _ [243, 17, 118, 119, 120, 2, 121, 73, 74, 69, 356, 357, 358, 359, 360, 361, 362, 363, 364, 365, 366, 367, 368, 369, 370, 371] (by decide +kernel) (by decide +kernel)) (goodIn_sub (fun _ h => List.mem_append_left _ (List.mem_append_right _ h)) (by decide +kernel))
set_option maxRecDepth 20000 in
theorem gL_law_X0_tradeOf : GoodIn wsL_law (wsV RL 131 RX0 yX0_tradeOf wsX0_tradeOf) := goodIn_app (goodIn_of _ (by decide +kernel)) ggL_law_X0_tradeOf
set_option maxRecDepth 20000 in
theorem ggL_law_X0_isExempt : GoodIn wsL_law wsX0_isExempt := goodIn_ca (goodIn_r _ [247, 96, 97, 98, 2, 99, 73, 74, 79, 70, 71, 72, 100, 101, 102, 103, 16, 356, 357, 358, 359, 360, 361, 362, 363, 364, 365, 366, 367, 368, 369, 370, 371] (by decide +kernel) (by decide +kernel)) (goodIn_sub (fun _ h => List.mem_append_left _ (List.mem_append_right _ h)) (by decide +kernel))
set_option maxRecDepth 20000 in
theorem gL_law_X0_isExempt : GoodIn wsL_law (wsV RL 134 RX0 yX0_isExempt wsX0_isExempt) := goodIn_app (goodIn_of _ (by decide +kernel)) ggL_law_X0_isExempt
set_option maxRecDepth 20000 in
theorem ggL_law_X0_barredBy : GoodIn wsL_law wsX0_barredBy := goodIn_ca (goodIn_r _ [251, 69, 10, 157, 96, 97, 98, 2, 99, 73, 74, 79, 158, 159, 160, 161, 17, 15, 100, 101, 102, 103, 16, 162, 163, 164, 165, 11, 12, 166, 167, 168, 169, 112, 170, 171, 172, 173, 174, 175, 356, 357, 358, 359, 360, 361, 362, 363, 364, 365, 366, 367, 368, 369, 370, 371] (by decide +kernel) (by decide +kernel)) (goodIn_sub (fun _ h => List.mem_append_left _ (List.mem_append_right _ h)) (by decide +kernel))
set_option maxRecDepth 20000 in
theorem gL_law_X0_barredBy : GoodIn wsL_law (wsV RL 137 RX0 yX0_barredBy wsX0_barredBy) := goodIn_app (goodIn_of _ (by decide +kernel)) ggL_law_X0_barredBy
set_option maxRecDepth 20000 in
theorem ggL_law_X0_timesFined : GoodIn wsL_law wsX0_timesFined := goodIn_ca (goodIn_r _ [255, 18, 118, 119, 120, 2, 121, 73, 74, 69, 356, 357, 358, 359, 360, 361, 362, 363, 364, 365, 366, 367, 368, 369, 370, 371] (by decide +kernel) (by decide +kernel)) (goodIn_sub (fun _ h => List.mem_append_left _ (List.mem_append_right _ h)) (by decide +kernel))
set_option maxRecDepth 20000 in
theorem gL_law_X0_timesFined : GoodIn wsL_law (wsV RL 140 RX0 yX0_timesFined wsX0_timesFined) := goodIn_app (goodIn_of _ (by decide +kernel)) ggL_law_X0_timesFined
set_option maxRecDepth 20000 in
theorem ggL_law_X0_owes : GoodIn wsL_law wsX0_owes := goodIn_ca (goodIn_r _ [259, 19, 118, 119, 120, 2, 121, 73, 74, 69, 356, 357, 358, 359, 360, 361, 362, 363, 364, 365, 366, 367, 368, 369, 370, 371] (by decide +kernel) (by decide +kernel)) (goodIn_sub (fun _ h => List.mem_append_left _ (List.mem_append_right _ h)) (by decide +kernel))
set_option maxRecDepth 20000 in
theorem gL_law_X0_owes : GoodIn wsL_law (wsV RL 143 RX0 yX0_owes wsX0_owes) := goodIn_app (goodIn_of _ (by decide +kernel)) ggL_law_X0_owes
set_option maxRecDepth 20000 in
theorem ggL_law_X0_stampsOf : GoodIn wsL_law wsX0_stampsOf := goodIn_ca (goodIn_r _ [263, 20, 118, 119, 120, 2, 121, 73, 74, 69, 84, 85, 86, 122, 123, 124, 356, 357, 358, 359, 360, 361, 362, 363, 364, 365, 366, 367, 368, 369, 370, 371] (by decide +kernel) (by decide +kernel)) (goodIn_sub (fun _ h => List.mem_append_left _ (List.mem_append_right _ h)) (by decide +kernel))
set_option maxRecDepth 20000 in
theorem gL_law_X0_stampsOf : GoodIn wsL_law (wsV RL 146 RX0 yX0_stampsOf wsX0_stampsOf) := goodIn_app (goodIn_of _ (by decide +kernel)) ggL_law_X0_stampsOf
set_option maxRecDepth 20000 in
theorem ggL_law_X0_quarters : GoodIn wsL_law wsX0_quarters := goodIn_r _ [267, 64, 356, 357, 358, 359, 360, 361, 362, 363, 364, 365, 366, 367, 368, 369, 370, 371] (by decide +kernel) (by decide +kernel)
set_option maxRecDepth 20000 in
theorem gL_law_X0_quarters : GoodIn wsL_law (wsV RL 149 RX0 yX0_quarters wsX0_quarters) := goodIn_app (goodIn_of _ (by decide +kernel)) ggL_law_X0_quarters
set_option maxRecDepth 20000 in
theorem ggL_law_X0_ordersAgainst : GoodIn wsL_law wsX0_ordersAgainst := goodIn_ca (goodIn_r _ [271, 79, 157, 118, 119, 120, 2, 121, 73, 74, 69, 80, 81, 82, 83, 64, 158, 159, 160, 161, 10, 17, 15, 100, 101, 102, 103, 16, 162, 163, 164, 165, 11, 12, 166, 167, 168, 169, 112, 170, 171, 172, 173, 174, 175, 356, 357, 358, 359, 360, 361, 362, 363, 364, 365, 366, 367, 368, 369, 370, 371] (by decide +kernel) (by decide +kernel)) (goodIn_sub (fun _ h => List.mem_append_left _ (List.mem_append_right _ h)) (by decide +kernel))
set_option maxRecDepth 20000 in
theorem gL_law_X0_ordersAgainst : GoodIn wsL_law (wsV RL 151 RX0 yX0_ordersAgainst wsX0_ordersAgainst) := goodIn_app (goodIn_of _ (by decide +kernel)) ggL_law_X0_ordersAgainst
set_option maxRecDepth 20000 in
theorem ggL_law_X0_stampsMissing : GoodIn wsL_law wsX0_stampsMissing := goodIn_ca (goodIn_r _ [275, 118, 119, 120, 2, 121, 73, 74, 69, 80, 81, 82, 83, 64, 276, 277, 278, 279, 79, 13, 157, 20, 280, 281, 55, 282, 158, 159, 160, 161, 10, 17, 15, 100, 101, 102, 103, 16, 162, 163, 164, 165, 11, 12, 166, 167, 168, 169, 112, 170, 171, 172, 173, 174, 175, 122, 123, 124, 356, 357, 358, 359, 360, 361, 362, 363, 364, 365, 366, 367, 368, 369, 370, 371] (by decide +kernel) (by decide +kernel)) (goodIn_sub (fun _ h => List.mem_append_left _ (List.mem_append_right _ h)) (by decide +kernel))
set_option maxRecDepth 20000 in
theorem gL_law_X0_stampsMissing : GoodIn wsL_law (wsV RL 154 RX0 yX0_stampsMissing wsX0_stampsMissing) := goodIn_app (goodIn_of _ (by decide +kernel)) ggL_law_X0_stampsMissing
set_option maxRecDepth 20000 in
theorem ggL_law_X0_mayGo : GoodIn wsL_law wsX0_mayGo := goodIn_ca (goodIn_r _ [286, 118, 119, 120, 2, 121, 73, 74, 69, 80, 81, 82, 83, 64, 276, 277, 278, 279, 79, 13, 157, 20, 280, 281, 55, 282, 158, 159, 160, 161, 10, 17, 15, 100, 101, 102, 103, 16, 162, 163, 164, 165, 11, 12, 166, 167, 168, 169, 112, 170, 171, 172, 173, 174, 175, 122, 123, 124, 356, 357, 358, 359, 360, 361, 362, 363, 364, 365, 366, 367, 368, 369, 370, 371] (by decide +kernel) (by decide +kernel)) (goodIn_sub (fun _ h => List.mem_append_left _ (List.mem_append_right _ h)) (by decide +kernel))
set_option maxRecDepth 20000 in
theorem gL_law_X0_mayGo : GoodIn wsL_law (wsV RL 157 RX0 yX0_mayGo wsX0_mayGo) := goodIn_app (goodIn_of _ (by decide +kernel)) ggL_law_X0_mayGo
set_option maxRecDepth 20000 in
theorem ggL_law_X0_halfHoursUntilFree : GoodIn wsL_law wsX0_halfHoursUntilFree := goodIn_ca (goodIn_r _ [290, 157, 118, 119, 120, 2, 121, 73, 74, 69, 80, 81, 82, 83, 64, 291, 292, 293, 294, 79, 158, 159, 160, 161, 10, 17, 15, 100, 101, 102, 103, 16, 162, 163, 164, 165, 11, 12, 166, 167, 168, 169, 112, 170, 171, 172, 173, 174, 175, 356, 357, 358, 359, 360, 361, 362, 363, 364, 365, 366, 367, 368, 369, 370, 371] (by decide +kernel) (by decide +kernel)) (goodIn_sub (fun _ h => List.mem_append_left _ (List.mem_append_right _ h)) (by decide +kernel))
set_option maxRecDepth 20000 in
theorem gL_law_X0_halfHoursUntilFree : GoodIn wsL_law (wsV RL 160 RX0 yX0_halfHoursUntilFree wsX0_halfHoursUntilFree) := goodIn_app (goodIn_of _ (by decide +kernel)) ggL_law_X0_halfHoursUntilFree
set_option maxRecDepth 20000 in
theorem ggL_law_X0_ordersOn : GoodIn wsL_law wsX0_ordersOn := goodIn_r _ [298, 79, 157, 196, 197, 198, 2, 199, 15, 162, 163, 164, 165, 11, 12, 166, 167, 168, 169, 112, 170, 171, 172, 173, 174, 175, 356, 357, 358, 359, 360, 361, 362, 363, 364, 365, 366, 367, 368, 369, 370, 371] (by decide +kernel) (by decide +kernel)
set_option maxRecDepth 20000 in
theorem gL_law_X0_ordersOn : GoodIn wsL_law (wsV RL 163 RX0 yX0_ordersOn wsX0_ordersOn) := goodIn_app (goodIn_of _ (by decide +kernel)) ggL_law_X0_ordersOn
set_option maxRecDepth 20000 in
theorem ggL_law_X0_allOwe : GoodIn wsL_law wsX0_allOwe := goodIn_r _ [302, 69, 19, 356, 357, 358, 359, 360, 361, 362, 363, 364, 365, 366, 367, 368, 369, 370, 371] (by decide +kernel) (by decide +kernel)
set_option maxRecDepth 20000 in
theorem gL_law_X0_allOwe : GoodIn wsL_law (wsV RL 166 RX0 yX0_allOwe wsX0_allOwe) := goodIn_app (goodIn_of _ (by decide +kernel)) ggL_law_X0_allOwe
theorem dL_law_21 : decode cL_law 21 = .ok (.istore_n 3, 1) := by decide +kernel
theorem dL_law_22 : decode cL_law 22 = .ok (.iload_n 3, 1) := by decide +kernel
theorem dL_law_23 : decode cL_law 23 = .ok (.bipush 24, 2) := by decide +kernel
theorem dL_law_25 : decode cL_law 25 = .ok (.if_icmp .ge 660, 3) := by decide +kernel
theorem dL_law_28 : decode cL_law 28 = .ok (.aload_n 0, 1) := by decide +kernel
theorem dL_law_29 : decode cL_law 29 = .ok (.iload_n 3, 1) := by decide +kernel
theorem dL_law_30 : decode cL_law 30 = .ok (.bipush 16, 2) := by decide +kernel
theorem dL_law_32 : decode cL_law 32 = .ok (.irem, 1) := by decide +kernel
theorem dL_law_33 : decode cL_law 33 = .ok (.invokestatic 94, 3) := by decide +kernel
theorem dL_law_36 : decode cL_law 36 = .ok (.iload_n 3, 1) := by decide +kernel
theorem dL_law_37 : decode cL_law 37 = .ok (.bipush 16, 2) := by decide +kernel
theorem dL_law_39 : decode cL_law 39 = .ok (.idiv, 1) := by decide +kernel
theorem dL_law_40 : decode cL_law 40 = .ok (.iconst 3, 1) := by decide +kernel
theorem dL_law_41 : decode cL_law 41 = .ok (.imul, 1) := by decide +kernel
theorem dL_law_42 : decode cL_law 42 = .ok (.ishr, 1) := by decide +kernel
theorem dL_law_43 : decode cL_law 43 = .ok (.sipush 523, 3) := by decide +kernel
theorem dL_law_46 : decode cL_law 46 = .ok (.iload_n 3, 1) := by decide +kernel
theorem dL_law_47 : decode cL_law 47 = .ok (.imul, 1) := by decide +kernel
theorem dL_law_48 : decode cL_law 48 = .ok (.iadd, 1) := by decide +kernel
theorem dL_law_49 : decode cL_law 49 = .ok (.istore 4, 2) := by decide +kernel
theorem dL_law_51 : decode cL_law 51 = .ok (.iconst 0, 1) := by decide +kernel
theorem dL_law_52 : decode cL_law 52 = .ok (.istore 5, 2) := by decide +kernel
theorem dL_law_54 : decode cL_law 54 = .ok (.iload 5, 2) := by decide +kernel
theorem dL_law_56 : decode cL_law 56 = .ok (.iconst 2, 1) := by decide +kernel
theorem dL_law_57 : decode cL_law 57 = .ok (.if_icmp .ge 33, 3) := by decide +kernel
theorem dL_law_60 : decode cL_law 60 = .ok (.aload_n 1, 1) := by decide +kernel
theorem dL_law_61 : decode cL_law 61 = .ok (.aload_n 2, 1) := by decide +kernel
theorem dL_law_62 : decode cL_law 62 = .ok (.iload 4, 2) := by decide +kernel
theorem dL_law_64 : decode cL_law 64 = .ok (.iconst 2, 1) := by decide +kernel
theorem dL_law_65 : decode cL_law 65 = .ok (.iload 5, 2) := by decide +kernel
theorem dL_law_67 : decode cL_law 67 = .ok (.imul, 1) := by decide +kernel
theorem dL_law_68 : decode cL_law 68 = .ok (.ishr, 1) := by decide +kernel
theorem dL_law_69 : decode cL_law 69 = .ok (.sipush 409, 3) := by decide +kernel
theorem dL_law_72 : decode cL_law 72 = .ok (.iload 5, 2) := by decide +kernel
theorem dL_law_74 : decode cL_law 74 = .ok (.imul, 1) := by decide +kernel
theorem dL_law_75 : decode cL_law 75 = .ok (.iadd, 1) := by decide +kernel
theorem dL_law_76 : decode cL_law 76 = .ok (.invokestatic 98, 3) := by decide +kernel
theorem dL_law_79 : decode cL_law 79 = .ok (.ifCond .ne 5, 3) := by decide +kernel
theorem dL_law_82 : decode cL_law 82 = .ok (.iconst 0, 1) := by decide +kernel
theorem dL_law_83 : decode cL_law 83 = .ok (.ireturn, 1) := by decide +kernel
theorem dL_law_84 : decode cL_law 84 = .ok (.iinc 5 1, 3) := by decide +kernel
theorem dL_law_87 : decode cL_law 87 = .ok (.goto (-33), 3) := by decide +kernel
theorem dL_law_90 : decode cL_law 90 = .ok (.aload_n 1, 1) := by decide +kernel
theorem dL_law_91 : decode cL_law 91 = .ok (.invokevirtual 107, 3) := by decide +kernel
theorem dL_law_94 : decode cL_law 94 = .ok (.istore 5, 2) := by decide +kernel
theorem dL_law_96 : decode cL_law 96 = .ok (.bipush 14, 2) := by decide +kernel
theorem dL_law_98 : decode cL_law 98 = .ok (.aload_n 1, 1) := by decide +kernel
theorem dL_law_99 : decode cL_law 99 = .ok (.iconst 0, 1) := by decide +kernel
theorem dL_law_100 : decode cL_law 100 = .ok (.invokevirtual 110, 3) := by decide +kernel
theorem dL_law_103 : decode cL_law 103 = .ok (.isub, 1) := by decide +kernel
theorem dL_law_104 : decode cL_law 104 = .ok (.istore 6, 2) := by decide +kernel
theorem dL_law_106 : decode cL_law 106 = .ok (.iload 5, 2) := by decide +kernel
theorem dL_law_108 : decode cL_law 108 = .ok (.ifCond .lt 56, 3) := by decide +kernel
theorem dL_law_111 : decode cL_law 111 = .ok (.iload 5, 2) := by decide +kernel
theorem dL_law_113 : decode cL_law 113 = .ok (.bipush 47, 2) := by decide +kernel
theorem dL_law_115 : decode cL_law 115 = .ok (.if_icmp .gt 49, 3) := by decide +kernel
theorem dL_law_118 : decode cL_law 118 = .ok (.iload 6, 2) := by decide +kernel
theorem dL_law_120 : decode cL_law 120 = .ok (.ifCond .lt 44, 3) := by decide +kernel
theorem dL_law_123 : decode cL_law 123 = .ok (.iload 6, 2) := by decide +kernel
theorem dL_law_125 : decode cL_law 125 = .ok (.iconst 4, 1) := by decide +kernel
theorem dL_law_126 : decode cL_law 126 = .ok (.if_icmp .gt 38, 3) := by decide +kernel
theorem dL_law_129 : decode cL_law 129 = .ok (.aload_n 1, 1) := by decide +kernel
theorem dL_law_130 : decode cL_law 130 = .ok (.iconst 0, 1) := by decide +kernel
theorem dL_law_131 : decode cL_law 131 = .ok (.invokevirtual 113, 3) := by decide +kernel
theorem dL_law_134 : decode cL_law 134 = .ok (.bipush 34, 2) := by decide +kernel
theorem dL_law_136 : decode cL_law 136 = .ok (.iload 6, 2) := by decide +kernel
theorem dL_law_138 : decode cL_law 138 = .ok (.iadd, 1) := by decide +kernel
theorem dL_law_139 : decode cL_law 139 = .ok (.aload_n 1, 1) := by decide +kernel
theorem dL_law_140 : decode cL_law 140 = .ok (.invokevirtual 116, 3) := by decide +kernel
theorem dL_law_143 : decode cL_law 143 = .ok (.iadd, 1) := by decide +kernel
theorem dL_law_144 : decode cL_law 144 = .ok (.if_icmp .ne 20, 3) := by decide +kernel
theorem dL_law_147 : decode cL_law 147 = .ok (.aload_n 1, 1) := by decide +kernel
theorem dL_law_148 : decode cL_law 148 = .ok (.invokevirtual 116, 3) := by decide +kernel
theorem dL_law_151 : decode cL_law 151 = .ok (.bipush (-4), 2) := by decide +kernel
theorem dL_law_153 : decode cL_law 153 = .ok (.if_icmp .lt 11, 3) := by decide +kernel
theorem dL_law_156 : decode cL_law 156 = .ok (.aload_n 1, 1) := by decide +kernel
theorem dL_law_157 : decode cL_law 157 = .ok (.invokevirtual 116, 3) := by decide +kernel
theorem dL_law_160 : decode cL_law 160 = .ok (.iconst 4, 1) := by decide +kernel
theorem dL_law_161 : decode cL_law 161 = .ok (.if_icmp .le 5, 3) := by decide +kernel
theorem dL_law_164 : decode cL_law 164 = .ok (.iconst 0, 1) := by decide +kernel
theorem dL_law_165 : decode cL_law 165 = .ok (.ireturn, 1) := by decide +kernel
theorem dL_law_166 : decode cL_law 166 = .ok (.iconst 0, 1) := by decide +kernel
theorem dL_law_167 : decode cL_law 167 = .ok (.istore 7, 2) := by decide +kernel
theorem dL_law_169 : decode cL_law 169 = .ok (.iconst 0, 1) := by decide +kernel
theorem dL_law_170 : decode cL_law 170 = .ok (.istore 8, 2) := by decide +kernel
theorem dL_law_172 : decode cL_law 172 = .ok (.iconst 0, 1) := by decide +kernel
theorem dL_law_173 : decode cL_law 173 = .ok (.istore 9, 2) := by decide +kernel
theorem dL_law_175 : decode cL_law 175 = .ok (.iload 9, 2) := by decide +kernel
theorem dL_law_177 : decode cL_law 177 = .ok (.aload_n 1, 1) := by decide +kernel
theorem dL_law_178 : decode cL_law 178 = .ok (.invokevirtual 118, 3) := by decide +kernel
theorem dL_law_181 : decode cL_law 181 = .ok (.if_icmp .ge 240, 3) := by decide +kernel
theorem dL_law_184 : decode cL_law 184 = .ok (.aload_n 1, 1) := by decide +kernel
theorem dL_law_185 : decode cL_law 185 = .ok (.iload 9, 2) := by decide +kernel
theorem dL_law_187 : decode cL_law 187 = .ok (.invokevirtual 120, 3) := by decide +kernel
theorem dL_law_190 : decode cL_law 190 = .ok (.istore 10, 2) := by decide +kernel
theorem dL_law_192 : decode cL_law 192 = .ok (.iload 7, 2) := by decide +kernel
theorem dL_law_194 : decode cL_law 194 = .ok (.iload 10, 2) := by decide +kernel
theorem dL_law_196 : decode cL_law 196 = .ok (.ifCond .eq 7, 3) := by decide +kernel
theorem dL_law_199 : decode cL_law 199 = .ok (.iconst 1, 1) := by decide +kernel
theorem dL_law_200 : decode cL_law 200 = .ok (.goto 4, 3) := by decide +kernel
theorem dL_law_203 : decode cL_law 203 = .ok (.iconst 0, 1) := by decide +kernel
theorem dL_law_204 : decode cL_law 204 = .ok (.iadd, 1) := by decide +kernel
theorem dL_law_205 : decode cL_law 205 = .ok (.istore 7, 2) := by decide +kernel
theorem dL_law_207 : decode cL_law 207 = .ok (.iload 5, 2) := by decide +kernel
theorem dL_law_209 : decode cL_law 209 = .ok (.aload_n 1, 1) := by decide +kernel
theorem dL_law_210 : decode cL_law 210 = .ok (.iconst 0, 1) := by decide +kernel
theorem dL_law_211 : decode cL_law 211 = .ok (.invokevirtual 113, 3) := by decide +kernel
theorem dL_law_214 : decode cL_law 214 = .ok (.if_icmp .ge 13, 3) := by decide +kernel
theorem dL_law_217 : decode cL_law 217 = .ok (.iload 5, 2) := by decide +kernel
theorem dL_law_219 : decode cL_law 219 = .ok (.aload_n 1, 1) := by decide +kernel
theorem dL_law_220 : decode cL_law 220 = .ok (.iconst 0, 1) := by decide +kernel
theorem dL_law_221 : decode cL_law 221 = .ok (.invokevirtual 110, 3) := by decide +kernel
theorem dL_law_224 : decode cL_law 224 = .ok (.if_icmp .ge 7, 3) := by decide +kernel
theorem dL_law_227 : decode cL_law 227 = .ok (.iconst 1, 1) := by decide +kernel
theorem dL_law_228 : decode cL_law 228 = .ok (.goto 4, 3) := by decide +kernel
theorem dL_law_231 : decode cL_law 231 = .ok (.iconst 0, 1) := by decide +kernel
theorem dL_law_232 : decode cL_law 232 = .ok (.istore 11, 2) := by decide +kernel
theorem dL_law_234 : decode cL_law 234 = .ok (.iload 5, 2) := by decide +kernel
theorem dL_law_236 : decode cL_law 236 = .ok (.aload_n 1, 1) := by decide +kernel
theorem dL_law_237 : decode cL_law 237 = .ok (.iconst 0, 1) := by decide +kernel
theorem dL_law_238 : decode cL_law 238 = .ok (.invokevirtual 110, 3) := by decide +kernel
theorem dL_law_241 : decode cL_law 241 = .ok (.iconst 4, 1) := by decide +kernel
theorem dL_law_242 : decode cL_law 242 = .ok (.iadd, 1) := by decide +kernel
theorem dL_law_243 : decode cL_law 243 = .ok (.if_icmp .lt 19, 3) := by decide +kernel
theorem dL_law_246 : decode cL_law 246 = .ok (.iload 5, 2) := by decide +kernel
theorem dL_law_248 : decode cL_law 248 = .ok (.aload_n 1, 1) := by decide +kernel
theorem dL_law_249 : decode cL_law 249 = .ok (.iconst 0, 1) := by decide +kernel
theorem dL_law_250 : decode cL_law 250 = .ok (.invokevirtual 113, 3) := by decide +kernel
theorem dL_law_253 : decode cL_law 253 = .ok (.iconst 4, 1) := by decide +kernel
theorem dL_law_254 : decode cL_law 254 = .ok (.isub, 1) := by decide +kernel
theorem dL_law_255 : decode cL_law 255 = .ok (.if_icmp .ge 7, 3) := by decide +kernel
theorem dL_law_258 : decode cL_law 258 = .ok (.iconst 1, 1) := by decide +kernel
theorem dL_law_259 : decode cL_law 259 = .ok (.goto 4, 3) := by decide +kernel
theorem dL_law_262 : decode cL_law 262 = .ok (.iconst 0, 1) := by decide +kernel
theorem dL_law_263 : decode cL_law 263 = .ok (.istore 12, 2) := by decide +kernel
theorem dL_law_265 : decode cL_law 265 = .ok (.iload 10, 2) := by decide +kernel
theorem dL_law_267 : decode cL_law 267 = .ok (.ifCond .eq 12, 3) := by decide +kernel
theorem dL_law_270 : decode cL_law 270 = .ok (.aload_n 1, 1) := by decide +kernel
theorem dL_law_271 : decode cL_law 271 = .ok (.iload 9, 2) := by decide +kernel
theorem dL_law_273 : decode cL_law 273 = .ok (.invokevirtual 123, 3) := by decide +kernel
theorem dL_law_276 : decode cL_law 276 = .ok (.ifCond .eq 53, 3) := by decide +kernel
theorem dL_law_279 : decode cL_law 279 = .ok (.iload 11, 2) := by decide +kernel
theorem dL_law_281 : decode cL_law 281 = .ok (.ifCond .eq 17, 3) := by decide +kernel
theorem dL_law_284 : decode cL_law 284 = .ok (.aload_n 1, 1) := by decide +kernel
theorem dL_law_285 : decode cL_law 285 = .ok (.iload 9, 2) := by decide +kernel
theorem dL_law_287 : decode cL_law 287 = .ok (.invokevirtual 123, 3) := by decide +kernel
theorem dL_law_290 : decode cL_law 290 = .ok (.ifCond .eq 8, 3) := by decide +kernel
theorem dL_law_293 : decode cL_law 293 = .ok (.iload 10, 2) := by decide +kernel
theorem dL_law_295 : decode cL_law 295 = .ok (.ifCond .eq 34, 3) := by decide +kernel
theorem dL_law_298 : decode cL_law 298 = .ok (.iload 12, 2) := by decide +kernel
theorem dL_law_300 : decode cL_law 300 = .ok (.ifCond .eq 8, 3) := by decide +kernel
theorem dL_law_303 : decode cL_law 303 = .ok (.iload 10, 2) := by decide +kernel
theorem dL_law_305 : decode cL_law 305 = .ok (.ifCond .ne 24, 3) := by decide +kernel
theorem dL_law_308 : decode cL_law 308 = .ok (.aload_n 1, 1) := by decide +kernel
theorem dL_law_309 : decode cL_law 309 = .ok (.iload 9, 2) := by decide +kernel
theorem dL_law_311 : decode cL_law 311 = .ok (.invokevirtual 126, 3) := by decide +kernel
theorem dL_law_314 : decode cL_law 314 = .ok (.iconst 1, 1) := by decide +kernel
theorem dL_law_315 : decode cL_law 315 = .ok (.if_icmp .lt 14, 3) := by decide +kernel
theorem dL_law_318 : decode cL_law 318 = .ok (.aload_n 1, 1) := by decide +kernel
theorem dL_law_319 : decode cL_law 319 = .ok (.iload 9, 2) := by decide +kernel
theorem dL_law_321 : decode cL_law 321 = .ok (.invokevirtual 126, 3) := by decide +kernel
theorem dL_law_324 : decode cL_law 324 = .ok (.bipush 48, 2) := by decide +kernel
theorem dL_law_326 : decode cL_law 326 = .ok (.if_icmp .le 5, 3) := by decide +kernel
theorem dL_law_329 : decode cL_law 329 = .ok (.iconst 0, 1) := by decide +kernel
theorem dL_law_330 : decode cL_law 330 = .ok (.ireturn, 1) := by decide +kernel
theorem dL_law_331 : decode cL_law 331 = .ok (.iconst 0, 1) := by decide +kernel
theorem dL_law_332 : decode cL_law 332 = .ok (.istore 13, 2) := by decide +kernel
theorem dL_law_334 : decode cL_law 334 = .ok (.iconst 0, 1) := by decide +kernel
theorem dL_law_335 : decode cL_law 335 = .ok (.istore 14, 2) := by decide +kernel
theorem dL_law_337 : decode cL_law 337 = .ok (.iload 14, 2) := by decide +kernel
theorem dL_law_339 : decode cL_law 339 = .ok (.aload_n 1, 1) := by decide +kernel
theorem dL_law_340 : decode cL_law 340 = .ok (.invokevirtual 129, 3) := by decide +kernel
theorem dL_law_343 : decode cL_law 343 = .ok (.if_icmp .ge 34, 3) := by decide +kernel
theorem dL_law_346 : decode cL_law 346 = .ok (.iload 13, 2) := by decide +kernel
theorem dL_law_348 : decode cL_law 348 = .ok (.aload_n 1, 1) := by decide +kernel
theorem dL_law_349 : decode cL_law 349 = .ok (.iload 9, 2) := by decide +kernel
theorem dL_law_351 : decode cL_law 351 = .ok (.aload_n 1, 1) := by decide +kernel
theorem dL_law_352 : decode cL_law 352 = .ok (.iload 14, 2) := by decide +kernel
theorem dL_law_354 : decode cL_law 354 = .ok (.invokevirtual 131, 3) := by decide +kernel
theorem dL_law_357 : decode cL_law 357 = .ok (.invokevirtual 134, 3) := by decide +kernel
theorem dL_law_360 : decode cL_law 360 = .ok (.ifCond .eq 7, 3) := by decide +kernel
theorem dL_law_363 : decode cL_law 363 = .ok (.iconst 1, 1) := by decide +kernel
theorem dL_law_364 : decode cL_law 364 = .ok (.goto 4, 3) := by decide +kernel
theorem dL_law_367 : decode cL_law 367 = .ok (.iconst 0, 1) := by decide +kernel
theorem dL_law_368 : decode cL_law 368 = .ok (.iadd, 1) := by decide +kernel
theorem dL_law_369 : decode cL_law 369 = .ok (.istore 13, 2) := by decide +kernel
theorem dL_law_371 : decode cL_law 371 = .ok (.iinc 14 1, 3) := by decide +kernel
theorem dL_law_374 : decode cL_law 374 = .ok (.goto (-37), 3) := by decide +kernel
theorem dL_law_377 : decode cL_law 377 = .ok (.aload_n 1, 1) := by decide +kernel
theorem dL_law_378 : decode cL_law 378 = .ok (.iload 9, 2) := by decide +kernel
theorem dL_law_380 : decode cL_law 380 = .ok (.invokevirtual 137, 3) := by decide +kernel
theorem dL_law_383 : decode cL_law 383 = .ok (.iload 10, 2) := by decide +kernel
theorem dL_law_385 : decode cL_law 385 = .ok (.ifCond .eq 13, 3) := by decide +kernel
theorem dL_law_388 : decode cL_law 388 = .ok (.aload_n 1, 1) := by decide +kernel
theorem dL_law_389 : decode cL_law 389 = .ok (.invokevirtual 129, 3) := by decide +kernel
theorem dL_law_392 : decode cL_law 392 = .ok (.iload 13, 2) := by decide +kernel
theorem dL_law_394 : decode cL_law 394 = .ok (.isub, 1) := by decide +kernel
theorem dL_law_395 : decode cL_law 395 = .ok (.goto 4, 3) := by decide +kernel
theorem dL_law_398 : decode cL_law 398 = .ok (.iconst 0, 1) := by decide +kernel
theorem dL_law_399 : decode cL_law 399 = .ok (.if_icmp .eq 5, 3) := by decide +kernel
theorem dL_law_402 : decode cL_law 402 = .ok (.iconst 0, 1) := by decide +kernel
theorem dL_law_403 : decode cL_law 403 = .ok (.ireturn, 1) := by decide +kernel
theorem dL_law_404 : decode cL_law 404 = .ok (.iload 8, 2) := by decide +kernel
theorem dL_law_406 : decode cL_law 406 = .ok (.aload_n 1, 1) := by decide +kernel
theorem dL_law_407 : decode cL_law 407 = .ok (.iload 9, 2) := by decide +kernel
theorem dL_law_409 : decode cL_law 409 = .ok (.invokevirtual 137, 3) := by decide +kernel
theorem dL_law_412 : decode cL_law 412 = .ok (.iadd, 1) := by decide +kernel
theorem dL_law_413 : decode cL_law 413 = .ok (.istore 8, 2) := by decide +kernel
theorem dL_law_415 : decode cL_law 415 = .ok (.iinc 9 1, 3) := by decide +kernel
theorem dL_law_418 : decode cL_law 418 = .ok (.goto (-243), 3) := by decide +kernel
theorem dL_law_421 : decode cL_law 421 = .ok (.iconst 0, 1) := by decide +kernel
theorem dL_law_422 : decode cL_law 422 = .ok (.istore 9, 2) := by decide +kernel
theorem dL_law_424 : decode cL_law 424 = .ok (.iconst 0, 1) := by decide +kernel
theorem dL_law_425 : decode cL_law 425 = .ok (.istore 10, 2) := by decide +kernel
theorem dL_law_427 : decode cL_law 427 = .ok (.iconst 0, 1) := by decide +kernel
theorem dL_law_428 : decode cL_law 428 = .ok (.istore 11, 2) := by decide +kernel
theorem dL_law_430 : decode cL_law 430 = .ok (.iload 11, 2) := by decide +kernel
theorem dL_law_432 : decode cL_law 432 = .ok (.aload_n 1, 1) := by decide +kernel
theorem dL_law_433 : decode cL_law 433 = .ok (.invokevirtual 129, 3) := by decide +kernel
theorem dL_law_436 : decode cL_law 436 = .ok (.if_icmp .ge 216, 3) := by decide +kernel
theorem dL_law_439 : decode cL_law 439 = .ok (.aload_n 1, 1) := by decide +kernel
theorem dL_law_440 : decode cL_law 440 = .ok (.iload 11, 2) := by decide +kernel
theorem dL_law_442 : decode cL_law 442 = .ok (.invokevirtual 140, 3) := by decide +kernel
theorem dL_law_445 : decode cL_law 445 = .ok (.istore 12, 2) := by decide +kernel
theorem dL_law_447 : decode cL_law 447 = .ok (.aload_n 1, 1) := by decide +kernel
theorem dL_law_448 : decode cL_law 448 = .ok (.iload 11, 2) := by decide +kernel
theorem dL_law_450 : decode cL_law 450 = .ok (.invokevirtual 143, 3) := by decide +kernel
theorem dL_law_453 : decode cL_law 453 = .ok (.iconst 5, 1) := by decide +kernel
theorem dL_law_454 : decode cL_law 454 = .ok (.iload 12, 2) := by decide +kernel
theorem dL_law_456 : decode cL_law 456 = .ok (.imul, 1) := by decide +kernel
theorem dL_law_457 : decode cL_law 457 = .ok (.iload 12, 2) := by decide +kernel
theorem dL_law_459 : decode cL_law 459 = .ok (.iconst 1, 1) := by decide +kernel
theorem dL_law_460 : decode cL_law 460 = .ok (.iadd, 1) := by decide +kernel
theorem dL_law_461 : decode cL_law 461 = .ok (.imul, 1) := by decide +kernel
theorem dL_law_462 : decode cL_law 462 = .ok (.if_icmp .eq 5, 3) := by decide +kernel
theorem dL_law_465 : decode cL_law 465 = .ok (.iconst 0, 1) := by decide +kernel
theorem dL_law_466 : decode cL_law 466 = .ok (.ireturn, 1) := by decide +kernel
theorem dL_law_467 : decode cL_law 467 = .ok (.iload 10, 2) := by decide +kernel
theorem dL_law_469 : decode cL_law 469 = .ok (.aload_n 1, 1) := by decide +kernel
theorem dL_law_470 : decode cL_law 470 = .ok (.iload 11, 2) := by decide +kernel
theorem dL_law_472 : decode cL_law 472 = .ok (.invokevirtual 143, 3) := by decide +kernel
theorem dL_law_475 : decode cL_law 475 = .ok (.iadd, 1) := by decide +kernel
theorem dL_law_476 : decode cL_law 476 = .ok (.istore 10, 2) := by decide +kernel
theorem dL_law_478 : decode cL_law 478 = .ok (.iconst 0, 1) := by decide +kernel
theorem dL_law_479 : decode cL_law 479 = .ok (.istore 13, 2) := by decide +kernel
theorem dL_law_481 : decode cL_law 481 = .ok (.iconst 0, 1) := by decide +kernel
theorem dL_law_482 : decode cL_law 482 = .ok (.istore 14, 2) := by decide +kernel
theorem dL_law_484 : decode cL_law 484 = .ok (.iload 14, 2) := by decide +kernel
theorem dL_law_486 : decode cL_law 486 = .ok (.iconst 4, 1) := by decide +kernel
theorem dL_law_487 : decode cL_law 487 = .ok (.if_icmp .ge 40, 3) := by decide +kernel
theorem dL_law_490 : decode cL_law 490 = .ok (.aload_n 1, 1) := by decide +kernel
theorem dL_law_491 : decode cL_law 491 = .ok (.iload 11, 2) := by decide +kernel
theorem dL_law_493 : decode cL_law 493 = .ok (.iload 14, 2) := by decide +kernel
theorem dL_law_495 : decode cL_law 495 = .ok (.invokevirtual 146, 3) := by decide +kernel
theorem dL_law_498 : decode cL_law 498 = .ok (.istore 15, 2) := by decide +kernel
theorem dL_law_500 : decode cL_law 500 = .ok (.iload 15, 2) := by decide +kernel
theorem dL_law_502 : decode cL_law 502 = .ok (.ifCond .lt 10, 3) := by decide +kernel
theorem dL_law_505 : decode cL_law 505 = .ok (.iload 15, 2) := by decide +kernel
theorem dL_law_507 : decode cL_law 507 = .ok (.bipush 9, 2) := by decide +kernel
theorem dL_law_509 : decode cL_law 509 = .ok (.if_icmp .le 5, 3) := by decide +kernel
theorem dL_law_512 : decode cL_law 512 = .ok (.iconst 0, 1) := by decide +kernel
theorem dL_law_513 : decode cL_law 513 = .ok (.ireturn, 1) := by decide +kernel
theorem dL_law_514 : decode cL_law 514 = .ok (.iload 13, 2) := by decide +kernel
theorem dL_law_516 : decode cL_law 516 = .ok (.iload 15, 2) := by decide +kernel
theorem dL_law_518 : decode cL_law 518 = .ok (.iadd, 1) := by decide +kernel
theorem dL_law_519 : decode cL_law 519 = .ok (.istore 13, 2) := by decide +kernel
theorem dL_law_521 : decode cL_law 521 = .ok (.iinc 14 1, 3) := by decide +kernel
theorem dL_law_524 : decode cL_law 524 = .ok (.goto (-40), 3) := by decide +kernel
theorem dL_law_527 : decode cL_law 527 = .ok (.iconst 0, 1) := by decide +kernel
theorem dL_law_528 : decode cL_law 528 = .ok (.istore 14, 2) := by decide +kernel
theorem dL_law_530 : decode cL_law 530 = .ok (.iload 14, 2) := by decide +kernel
theorem dL_law_532 : decode cL_law 532 = .ok (.aload_n 1, 1) := by decide +kernel
theorem dL_law_533 : decode cL_law 533 = .ok (.invokevirtual 149, 3) := by decide +kernel
theorem dL_law_536 : decode cL_law 536 = .ok (.if_icmp .ge 110, 3) := by decide +kernel
theorem dL_law_539 : decode cL_law 539 = .ok (.aload_n 1, 1) := by decide +kernel
theorem dL_law_540 : decode cL_law 540 = .ok (.iload 11, 2) := by decide +kernel
theorem dL_law_542 : decode cL_law 542 = .ok (.iload 14, 2) := by decide +kernel
theorem dL_law_544 : decode cL_law 544 = .ok (.invokevirtual 151, 3) := by decide +kernel
theorem dL_law_547 : decode cL_law 547 = .ok (.istore 15, 2) := by decide +kernel
theorem dL_law_549 : decode cL_law 549 = .ok (.aload_n 1, 1) := by decide +kernel
theorem dL_law_550 : decode cL_law 550 = .ok (.iload 11, 2) := by decide +kernel
theorem dL_law_552 : decode cL_law 552 = .ok (.iload 14, 2) := by decide +kernel
theorem dL_law_554 : decode cL_law 554 = .ok (.invokevirtual 154, 3) := by decide +kernel
theorem dL_law_557 : decode cL_law 557 = .ok (.istore 16, 2) := by decide +kernel
theorem dL_law_559 : decode cL_law 559 = .ok (.iload 9, 2) := by decide +kernel
theorem dL_law_561 : decode cL_law 561 = .ok (.iload 15, 2) := by decide +kernel
theorem dL_law_563 : decode cL_law 563 = .ok (.iadd, 1) := by decide +kernel
theorem dL_law_564 : decode cL_law 564 = .ok (.istore 9, 2) := by decide +kernel
theorem dL_law_566 : decode cL_law 566 = .ok (.iload 16, 2) := by decide +kernel
theorem dL_law_568 : decode cL_law 568 = .ok (.ifCond .lt 70, 3) := by decide +kernel
theorem dL_law_571 : decode cL_law 571 = .ok (.iload 16, 2) := by decide +kernel
theorem dL_law_573 : decode cL_law 573 = .ok (.iload 15, 2) := by decide +kernel
theorem dL_law_575 : decode cL_law 575 = .ok (.if_icmp .gt 63, 3) := by decide +kernel
theorem dL_law_578 : decode cL_law 578 = .ok (.iload 16, 2) := by decide +kernel
theorem dL_law_580 : decode cL_law 580 = .ok (.iload 15, 2) := by decide +kernel
theorem dL_law_582 : decode cL_law 582 = .ok (.iload 13, 2) := by decide +kernel
theorem dL_law_584 : decode cL_law 584 = .ok (.isub, 1) := by decide +kernel
theorem dL_law_585 : decode cL_law 585 = .ok (.if_icmp .lt 53, 3) := by decide +kernel
theorem dL_law_588 : decode cL_law 588 = .ok (.aload_n 1, 1) := by decide +kernel
theorem dL_law_589 : decode cL_law 589 = .ok (.iload 11, 2) := by decide +kernel
theorem dL_law_591 : decode cL_law 591 = .ok (.iload 14, 2) := by decide +kernel
theorem dL_law_593 : decode cL_law 593 = .ok (.invokevirtual 157, 3) := by decide +kernel
theorem dL_law_596 : decode cL_law 596 = .ok (.iload 16, 2) := by decide +kernel
theorem dL_law_598 : decode cL_law 598 = .ok (.ifCond .ne 7, 3) := by decide +kernel
theorem dL_law_601 : decode cL_law 601 = .ok (.iconst 1, 1) := by decide +kernel
theorem dL_law_602 : decode cL_law 602 = .ok (.goto 4, 3) := by decide +kernel
theorem dL_law_605 : decode cL_law 605 = .ok (.iconst 0, 1) := by decide +kernel
theorem dL_law_606 : decode cL_law 606 = .ok (.if_icmp .ne 32, 3) := by decide +kernel
theorem dL_law_609 : decode cL_law 609 = .ok (.iload 15, 2) := by decide +kernel
theorem dL_law_611 : decode cL_law 611 = .ok (.ifCond .ne 7, 3) := by decide +kernel
theorem dL_law_614 : decode cL_law 614 = .ok (.iconst 1, 1) := by decide +kernel
theorem dL_law_615 : decode cL_law 615 = .ok (.goto 4, 3) := by decide +kernel
theorem dL_law_618 : decode cL_law 618 = .ok (.iconst 0, 1) := by decide +kernel
theorem dL_law_619 : decode cL_law 619 = .ok (.aload_n 1, 1) := by decide +kernel
theorem dL_law_620 : decode cL_law 620 = .ok (.iload 11, 2) := by decide +kernel
theorem dL_law_622 : decode cL_law 622 = .ok (.iload 14, 2) := by decide +kernel
theorem dL_law_624 : decode cL_law 624 = .ok (.invokevirtual 160, 3) := by decide +kernel
theorem dL_law_627 : decode cL_law 627 = .ok (.ifCond .ne 7, 3) := by decide +kernel
theorem dL_law_630 : decode cL_law 630 = .ok (.iconst 1, 1) := by decide +kernel
theorem dL_law_631 : decode cL_law 631 = .ok (.goto 4, 3) := by decide +kernel
theorem dL_law_634 : decode cL_law 634 = .ok (.iconst 0, 1) := by decide +kernel
theorem dL_law_635 : decode cL_law 635 = .ok (.if_icmp .eq 5, 3) := by decide +kernel
theorem dL_law_638 : decode cL_law 638 = .ok (.iconst 0, 1) := by decide +kernel
theorem dL_law_639 : decode cL_law 639 = .ok (.ireturn, 1) := by decide +kernel
theorem dL_law_640 : decode cL_law 640 = .ok (.iinc 14 1, 3) := by decide +kernel
theorem dL_law_643 : decode cL_law 643 = .ok (.goto (-113), 3) := by decide +kernel
theorem dL_law_646 : decode cL_law 646 = .ok (.iinc 11 1, 3) := by decide +kernel
theorem dL_law_649 : decode cL_law 649 = .ok (.goto (-219), 3) := by decide +kernel
theorem dL_law_652 : decode cL_law 652 = .ok (.iload 7, 2) := by decide +kernel
theorem dL_law_654 : decode cL_law 654 = .ok (.aload_n 1, 1) := by decide +kernel
theorem dL_law_655 : decode cL_law 655 = .ok (.invokevirtual 163, 3) := by decide +kernel
theorem dL_law_658 : decode cL_law 658 = .ok (.if_icmp .ne 19, 3) := by decide +kernel
theorem dL_law_661 : decode cL_law 661 = .ok (.iload 9, 2) := by decide +kernel
theorem dL_law_663 : decode cL_law 663 = .ok (.iload 8, 2) := by decide +kernel
theorem dL_law_665 : decode cL_law 665 = .ok (.if_icmp .ne 12, 3) := by decide +kernel
theorem dL_law_668 : decode cL_law 668 = .ok (.iload 10, 2) := by decide +kernel
theorem dL_law_670 : decode cL_law 670 = .ok (.aload_n 1, 1) := by decide +kernel
theorem dL_law_671 : decode cL_law 671 = .ok (.invokevirtual 166, 3) := by decide +kernel
theorem dL_law_674 : decode cL_law 674 = .ok (.if_icmp .eq 5, 3) := by decide +kernel
theorem dL_law_677 : decode cL_law 677 = .ok (.iconst 0, 1) := by decide +kernel
theorem dL_law_678 : decode cL_law 678 = .ok (.ireturn, 1) := by decide +kernel
theorem dL_law_679 : decode cL_law 679 = .ok (.iinc 3 1, 3) := by decide +kernel
theorem dL_law_682 : decode cL_law 682 = .ok (.goto (-660), 3) := by decide +kernel
theorem dL_law_685 : decode cL_law 685 = .ok (.aload_n 2, 1) := by decide +kernel
theorem dL_law_686 : decode cL_law 686 = .ok (.aload_n 1, 1) := by decide +kernel
theorem dL_law_687 : decode cL_law 687 = .ok (.invokevirtual 169, 3) := by decide +kernel
theorem dL_law_690 : decode cL_law 690 = .ok (.ireturn, 1) := by decide +kernel
