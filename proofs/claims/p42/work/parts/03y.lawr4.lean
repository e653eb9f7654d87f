def wsL_in_r12_11w : List Cond := [Cond.code yX0_mayGo cX0_mayGo 3 (some .boolean)]
set_option maxRecDepth 20000 in
theorem wsL_in_r12_11 : ∀ w ∈ wsL_in_r12_11w, w ∈ lw_tbl := fun w h => by
  rw [List.mem_singleton.mp h]
  exact List.mem_of_getElem? (i := 276) rfl
def wsL_in_r12_12w : List Cond := [Cond.methodLink RL 160 yX0_halfHoursUntilFree]
set_option maxRecDepth 20000 in
theorem wsL_in_r12_12 : ∀ w ∈ wsL_in_r12_12w, w ∈ lw_tbl := fun w h => (goodIn_p wsL_in_r12_12w [] (by decide +kernel) (by decide +kernel) w h).1
theorem wsL_in_r12 : ∀ w ∈ wsL_law0_r12, w ∈ lw_tbl := lw_app2 wsL_in_r12_0 (lw_app2 wsL_in_r12_1 (lw_app2 wsL_in_r12_2 (lw_app2 wsL_in_r12_3 (lw_app2 wsL_in_r12_4 (lw_app2 wsL_in_r12_5 (lw_app2 wsL_in_r12_6 (lw_app2 wsL_in_r12_7 (lw_app2 wsL_in_r12_8 (lw_app2 wsL_in_r12_9 (lw_app2 wsL_in_r12_10 (lw_app2 wsL_in_r12_11 (wsL_in_r12_12))))))))))))
def wsL_in_r13_0w : List Cond := [Cond.instanceMethod yX0_halfHoursUntilFree, Cond.selects RX0 yX0_halfHoursUntilFree yX0_halfHoursUntilFree]
set_option maxRecDepth 20000 in
theorem wsL_in_r13_0 : ∀ w ∈ wsL_in_r13_0w, w ∈ lw_tbl := fun w h => (goodIn_p wsL_in_r13_0w [] (by decide +kernel) (by decide +kernel) w h).1
def wsL_in_r13_1w : List Cond := [Cond.code yX0_halfHoursUntilFree cX0_halfHoursUntilFree 4 (some .int)]
set_option maxRecDepth 20000 in
theorem wsL_in_r13_1 : ∀ w ∈ wsL_in_r13_1w, w ∈ lw_tbl := fun w h => by
  rw [List.mem_singleton.mp h]
  exact List.mem_of_getElem? (i := 315) rfl
def wsL_in_r13_2w : List Cond := [Cond.methodLink RX0 135 yX0_isFreeAt, Cond.instanceMethod yX0_isFreeAt, Cond.selects RX0 yX0_isFreeAt yX0_isFreeAt]
set_option maxRecDepth 20000 in
theorem wsL_in_r13_2 : ∀ w ∈ wsL_in_r13_2w, w ∈ lw_tbl := fun w h => (goodIn_p wsL_in_r13_2w [] (by decide +kernel) (by decide +kernel) w h).1
def wsL_in_r13_3w : List Cond := [Cond.code yX0_isFreeAt cX0_isFreeAt 5 (some .boolean)]
set_option maxRecDepth 20000 in
theorem wsL_in_r13_3 : ∀ w ∈ wsL_in_r13_3w, w ∈ lw_tbl := fun w h => by
  rw [List.mem_singleton.mp h]
  exact List.mem_of_getElem? (i := 319) rfl
def wsL_in_r13_4w : List Cond := [Cond.methodLink RL 163 yX0_ordersOn, Cond.instanceMethod yX0_ordersOn, Cond.selects RX0 yX0_ordersOn yX0_ordersOn]
set_option maxRecDepth 20000 in
theorem wsL_in_r13_4 : ∀ w ∈ wsL_in_r13_4w, w ∈ lw_tbl := fun w h => (goodIn_p wsL_in_r13_4w [] (by decide +kernel) (by decide +kernel) w h).1
def wsL_in_r13_5w : List Cond := [Cond.code yX0_ordersOn cX0_ordersOn 3 (some .int)]
set_option maxRecDepth 20000 in
theorem wsL_in_r13_5 : ∀ w ∈ wsL_in_r13_5w, w ∈ lw_tbl := fun w h => by
  rw [List.mem_singleton.mp h]
  exact List.mem_of_getElem? (i := 303) rfl
def wsL_in_r13_6w : List Cond := [Cond.methodLink RL 166 yX0_allOwe, Cond.instanceMethod yX0_allOwe, Cond.selects RX0 yX0_allOwe yX0_allOwe]
set_option maxRecDepth 20000 in
theorem wsL_in_r13_6 : ∀ w ∈ wsL_in_r13_6w, w ∈ lw_tbl := fun w h => (goodIn_p wsL_in_r13_6w [] (by decide +kernel) (by decide +kernel) w h).1
def wsL_in_r13_7w : List Cond := [Cond.code yX0_allOwe cX0_allOwe 3 (some .int)]
set_option maxRecDepth 20000 in
theorem wsL_in_r13_7 : ∀ w ∈ wsL_in_r13_7w, w ∈ lw_tbl := fun w h => by
  rw [List.mem_singleton.mp h]
  exact List.mem_of_getElem? (i := 311) rfl
def wsL_in_r13_8w : List Cond := [Cond.methodLink RL 169 yX1_isSame, Cond.instanceMethod yX1_isSame, Cond.selects RX1 yX1_isSame yX1_isSame]
set_option maxRecDepth 20000 in
theorem wsL_in_r13_8 : ∀ w ∈ wsL_in_r13_8w, w ∈ lw_tbl := fun w h => (goodIn_p wsL_in_r13_8w [] (by decide +kernel) (by decide +kernel) w h).1
def wsL_in_r13_9w : List Cond := [Cond.code yX1_isSame cX1_isSame 5 (some .boolean)]
set_option maxRecDepth 20000 in
theorem wsL_in_r13_9 : ∀ w ∈ wsL_in_r13_9w, w ∈ lw_tbl := fun w h => by
  rw [List.mem_singleton.mp h]
  exact List.mem_of_getElem? (i := 327) rfl
def wsL_in_r13_10w : List Cond := [Cond.fieldLink RX1 52 "CurfewDeskLaw$Sim" "quarters" "I", Cond.fieldLink RX1 49 "CurfewDeskLaw$Sim" "people" "I", Cond.methodLink RX1 59 yX0_day, Cond.methodLink RX1 64 yX0_halfHour, Cond.methodLink RX1 67 yX0_duskIn]
set_option maxRecDepth 20000 in
theorem wsL_in_r13_10 : ∀ w ∈ wsL_in_r13_10w, w ∈ lw_tbl := fun w h => (goodIn_p wsL_in_r13_10w [] (by decide +kernel) (by decide +kernel) w h).1
theorem wsL_in_r13 : ∀ w ∈ wsL_law0_r13, w ∈ lw_tbl := lw_app2 wsL_in_r13_0 (lw_app2 wsL_in_r13_1 (lw_app2 wsL_in_r13_2 (lw_app2 wsL_in_r13_3 (lw_app2 wsL_in_r13_4 (lw_app2 wsL_in_r13_5 (lw_app2 wsL_in_r13_6 (lw_app2 wsL_in_r13_7 (lw_app2 wsL_in_r13_8 (lw_app2 wsL_in_r13_9 (wsL_in_r13_10))))))))))
def wsL_in_r14_0w : List Cond := [Cond.methodLink RX1 70 yX0_dawnIn, Cond.methodLink RX1 73 yX0_quarters, Cond.methodLink RX1 75 yX0_orders, Cond.methodLink RX1 77 yX0_people, Cond.methodLink RX1 79 yX0_ordersOn, Cond.methodLink RX1 82 yX1_on, Cond.instanceMethod yX1_on, Cond.selects RX1 yX1_on yX1_on]
set_option maxRecDepth 20000 in
theorem wsL_in_r14_0 : ∀ w ∈ wsL_in_r14_0w, w ∈ lw_tbl := fun w h => (goodIn_p wsL_in_r14_0w [] (by decide +kernel) (by decide +kernel) w h).1
def wsL_in_r14_1w : List Cond := [Cond.code yX1_on cX1_on 3 (some .int)]
set_option maxRecDepth 20000 in
theorem wsL_in_r14_1 : ∀ w ∈ wsL_in_r14_1w, w ∈ lw_tbl := fun w h => by
  rw [List.mem_singleton.mp h]
  exact List.mem_of_getElem? (i := 342) rfl
def wsL_in_r14_2w : List Cond := [Cond.methodLink RX1 85 yX0_shift, Cond.methodLink RX1 87 yX0_stampsUsed, Cond.instanceMethod yX0_stampsUsed, Cond.selects RX0 yX0_stampsUsed yX0_stampsUsed]
set_option maxRecDepth 20000 in
theorem wsL_in_r14_2 : ∀ w ∈ wsL_in_r14_2w, w ∈ lw_tbl := fun w h => (goodIn_p wsL_in_r14_2w [] (by decide +kernel) (by decide +kernel) w h).1
def wsL_in_r14_3w : List Cond := [Cond.code yX0_stampsUsed cX0_stampsUsed 2 (some .int)]
set_option maxRecDepth 20000 in
theorem wsL_in_r14_3 : ∀ w ∈ wsL_in_r14_3w, w ∈ lw_tbl := fun w h => by
  rw [List.mem_singleton.mp h]
  exact List.mem_of_getElem? (i := 355) rfl
def wsL_in_r14_4w : List Cond := [Cond.methodLink RX1 90 yX0_quarterOf, Cond.instanceMethod yX0_quarterOf, Cond.selects RX0 yX0_quarterOf yX0_quarterOf]
set_option maxRecDepth 20000 in
theorem wsL_in_r14_4 : ∀ w ∈ wsL_in_r14_4w, w ∈ lw_tbl := fun w h => (goodIn_p wsL_in_r14_4w [] (by decide +kernel) (by decide +kernel) w h).1
def wsL_in_r14_5w : List Cond := [Cond.code yX0_quarterOf cX0_quarterOf 2 (some .int)]
set_option maxRecDepth 20000 in
theorem wsL_in_r14_5 : ∀ w ∈ wsL_in_r14_5w, w ∈ lw_tbl := fun w h => by
  rw [List.mem_singleton.mp h]
  exact List.mem_of_getElem? (i := 363) rfl
def wsL_in_r14_6w : List Cond := [Cond.methodLink RX1 93 yX0_colourOf, Cond.instanceMethod yX0_colourOf, Cond.selects RX0 yX0_colourOf yX0_colourOf]
set_option maxRecDepth 20000 in
theorem wsL_in_r14_6 : ∀ w ∈ wsL_in_r14_6w, w ∈ lw_tbl := fun w h => (goodIn_p wsL_in_r14_6w [] (by decide +kernel) (by decide +kernel) w h).1
def wsL_in_r14_7w : List Cond := [Cond.code yX0_colourOf cX0_colourOf 2 (some .int)]
set_option maxRecDepth 20000 in
theorem wsL_in_r14_7 : ∀ w ∈ wsL_in_r14_7w, w ∈ lw_tbl := fun w h => by
  rw [List.mem_singleton.mp h]
  exact List.mem_of_getElem? (i := 367) rfl
def wsL_in_r14_8w : List Cond := [Cond.methodLink RX1 96 yX0_isInForce, Cond.methodLink RX1 99 yX0_isOn]
set_option maxRecDepth 20000 in
theorem wsL_in_r14_8 : ∀ w ∈ wsL_in_r14_8w, w ∈ lw_tbl := fun w h => (goodIn_p wsL_in_r14_8w [] (by decide +kernel) (by decide +kernel) w h).1
theorem wsL_in_r14 : ∀ w ∈ wsL_law0_r14, w ∈ lw_tbl := lw_app2 wsL_in_r14_0 (lw_app2 wsL_in_r14_1 (lw_app2 wsL_in_r14_2 (lw_app2 wsL_in_r14_3 (lw_app2 wsL_in_r14_4 (lw_app2 wsL_in_r14_5 (lw_app2 wsL_in_r14_6 (lw_app2 wsL_in_r14_7 (wsL_in_r14_8))))))))
def wsL_in_r15_0w : List Cond := [Cond.methodLink RX1 100 yX0_barredBy, Cond.methodLink RX1 103 yX0_isExempt, Cond.methodLink RX1 107 yX0_tradeOf, Cond.methodLink RX1 110 yX0_timesFined, Cond.methodLink RX1 113 yX0_owes, Cond.methodLink RX1 116 yX0_stampsOf, Cond.methodLink RX1 119 yX0_ordersAgainst, Cond.methodLink RX1 122 yX1_against, Cond.instanceMethod yX1_against]
set_option maxRecDepth 20000 in
theorem wsL_in_r15_0 : ∀ w ∈ wsL_in_r15_0w, w ∈ lw_tbl := fun w h => (goodIn_p wsL_in_r15_0w [] (by decide +kernel) (by decide +kernel) w h).1
def wsL_in_r15_1w : List Cond := [Cond.selects RX1 yX1_against yX1_against]
set_option maxRecDepth 20000 in
theorem wsL_in_r15_1 : ∀ w ∈ wsL_in_r15_1w, w ∈ lw_tbl := fun w h => (goodIn_p wsL_in_r15_1w [] (by decide +kernel) (by decide +kernel) w h).1
def wsL_in_r15_2w : List Cond := [Cond.code yX1_against cX1_against 5 (some .int)]
set_option maxRecDepth 20000 in
theorem wsL_in_r15_2 : ∀ w ∈ wsL_in_r15_2w, w ∈ lw_tbl := fun w h => by
  rw [List.mem_singleton.mp h]
  exact List.mem_of_getElem? (i := 380) rfl
def wsL_in_r15_3w : List Cond := [Cond.methodLink RX1 125 yX0_stampsMissing, Cond.methodLink RX1 55 yX1_missing, Cond.methodLink RX1 128 yX0_mayGo, Cond.methodLink RX1 131 yX0_allOwe, Cond.methodLink RX1 134 yX0_meanDebt, Cond.instanceMethod yX0_meanDebt, Cond.selects RX0 yX0_meanDebt yX0_meanDebt]
set_option maxRecDepth 20000 in
theorem wsL_in_r15_3 : ∀ w ∈ wsL_in_r15_3w, w ∈ lw_tbl := fun w h => (goodIn_p wsL_in_r15_3w [] (by decide +kernel) (by decide +kernel) w h).1
def wsL_in_r15_4w : List Cond := [Cond.code yX0_meanDebt cX0_meanDebt 1 (some .double)]
set_option maxRecDepth 20000 in
theorem wsL_in_r15_4 : ∀ w ∈ wsL_in_r15_4w, w ∈ lw_tbl := fun w h => by
  rw [List.mem_singleton.mp h]
  exact List.mem_of_getElem? (i := 391) rfl
def wsL_in_r15_5w : List Cond := [Cond.methodLink RX0 145 yX0_allOwe]
set_option maxRecDepth 20000 in
theorem wsL_in_r15_5 : ∀ w ∈ wsL_in_r15_5w, w ∈ lw_tbl := fun w h => (goodIn_p wsL_in_r15_5w [] (by decide +kernel) (by decide +kernel) w h).1
theorem wsL_in_r15 : ∀ w ∈ wsL_law0_r15, w ∈ lw_tbl := lw_app2 wsL_in_r15_0 (lw_app2 wsL_in_r15_1 (lw_app2 wsL_in_r15_2 (lw_app2 wsL_in_r15_3 (lw_app2 wsL_in_r15_4 (wsL_in_r15_5)))))
