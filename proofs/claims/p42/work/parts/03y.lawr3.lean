def wsL_in_r10_1w : List Cond := [Cond.code yX0_shift cX0_shift 1 (some .int)]
set_option maxRecDepth 20000 in
theorem wsL_in_r10_1 : ∀ w ∈ wsL_in_r10_1w, w ∈ lw_tbl := fun w h => by
  rw [List.mem_singleton.mp h]
  exact List.mem_of_getElem? (i := 307) rfl
def wsL_in_r10_2w : List Cond := [Cond.methodLink RL 118 yX0_orders, Cond.instanceMethod yX0_orders, Cond.selects RX0 yX0_orders yX0_orders]
set_option maxRecDepth 20000 in
theorem wsL_in_r10_2 : ∀ w ∈ wsL_in_r10_2w, w ∈ lw_tbl := fun w h => (goodIn_p wsL_in_r10_2w [] (by decide +kernel) (by decide +kernel) w h).1
def wsL_in_r10_3w : List Cond := [Cond.code yX0_orders cX0_orders 1 (some .int)]
set_option maxRecDepth 20000 in
theorem wsL_in_r10_3 : ∀ w ∈ wsL_in_r10_3w, w ∈ lw_tbl := fun w h => by
  rw [List.mem_singleton.mp h]
  exact List.mem_of_getElem? (i := 295) rfl
def wsL_in_r10_4w : List Cond := [Cond.methodLink RL 120 yX0_isOn, Cond.instanceMethod yX0_isOn, Cond.selects RX0 yX0_isOn yX0_isOn]
set_option maxRecDepth 20000 in
theorem wsL_in_r10_4 : ∀ w ∈ wsL_in_r10_4w, w ∈ lw_tbl := fun w h => (goodIn_p wsL_in_r10_4w [] (by decide +kernel) (by decide +kernel) w h).1
def wsL_in_r10_5w : List Cond := [Cond.code yX0_isOn cX0_isOn 2 (some .boolean)]
set_option maxRecDepth 20000 in
theorem wsL_in_r10_5 : ∀ w ∈ wsL_in_r10_5w, w ∈ lw_tbl := fun w h => by
  rw [List.mem_singleton.mp h]
  exact List.mem_of_getElem? (i := 207) rfl
def wsL_in_r10_6w : List Cond := [Cond.methodLink RL 123 yX0_isInForce, Cond.instanceMethod yX0_isInForce, Cond.selects RX0 yX0_isInForce yX0_isInForce]
set_option maxRecDepth 20000 in
theorem wsL_in_r10_6 : ∀ w ∈ wsL_in_r10_6w, w ∈ lw_tbl := fun w h => (goodIn_p wsL_in_r10_6w [] (by decide +kernel) (by decide +kernel) w h).1
def wsL_in_r10_7w : List Cond := [Cond.code yX0_isInForce cX0_isInForce 2 (some .boolean)]
set_option maxRecDepth 20000 in
theorem wsL_in_r10_7 : ∀ w ∈ wsL_in_r10_7w, w ∈ lw_tbl := fun w h => by
  rw [List.mem_singleton.mp h]
  exact List.mem_of_getElem? (i := 183) rfl
def wsL_in_r10_8w : List Cond := [Cond.methodLink RL 126 yX0_halfHoursOn, Cond.instanceMethod yX0_halfHoursOn, Cond.selects RX0 yX0_halfHoursOn yX0_halfHoursOn]
set_option maxRecDepth 20000 in
theorem wsL_in_r10_8 : ∀ w ∈ wsL_in_r10_8w, w ∈ lw_tbl := fun w h => (goodIn_p wsL_in_r10_8w [] (by decide +kernel) (by decide +kernel) w h).1
def wsL_in_r10_9w : List Cond := [Cond.code yX0_halfHoursOn cX0_halfHoursOn 4 (some .int)]
set_option maxRecDepth 20000 in
theorem wsL_in_r10_9 : ∀ w ∈ wsL_in_r10_9w, w ∈ lw_tbl := fun w h => by
  rw [List.mem_singleton.mp h]
  exact List.mem_of_getElem? (i := 323) rfl
def wsL_in_r10_10w : List Cond := [Cond.methodLink RL 129 yX0_people, Cond.instanceMethod yX0_people, Cond.selects RX0 yX0_people yX0_people]
set_option maxRecDepth 20000 in
theorem wsL_in_r10_10 : ∀ w ∈ wsL_in_r10_10w, w ∈ lw_tbl := fun w h => (goodIn_p wsL_in_r10_10w [] (by decide +kernel) (by decide +kernel) w h).1
def wsL_in_r10_11w : List Cond := [Cond.code yX0_people cX0_people 1 (some .int)]
set_option maxRecDepth 20000 in
theorem wsL_in_r10_11 : ∀ w ∈ wsL_in_r10_11w, w ∈ lw_tbl := fun w h => by
  rw [List.mem_singleton.mp h]
  exact List.mem_of_getElem? (i := 299) rfl
theorem wsL_in_r10 : ∀ w ∈ wsL_law0_r10, w ∈ lw_tbl := lw_app2 wsL_in_r10_0 (lw_app2 wsL_in_r10_1 (lw_app2 wsL_in_r10_2 (lw_app2 wsL_in_r10_3 (lw_app2 wsL_in_r10_4 (lw_app2 wsL_in_r10_5 (lw_app2 wsL_in_r10_6 (lw_app2 wsL_in_r10_7 (lw_app2 wsL_in_r10_8 (lw_app2 wsL_in_r10_9 (lw_app2 wsL_in_r10_10 (wsL_in_r10_11)))))))))))
def wsL_in_r11_0w : List Cond := [Cond.methodLink RL 131 yX0_tradeOf, Cond.instanceMethod yX0_tradeOf, Cond.selects RX0 yX0_tradeOf yX0_tradeOf]
set_option maxRecDepth 20000 in
theorem wsL_in_r11_0 : ∀ w ∈ wsL_in_r11_0w, w ∈ lw_tbl := fun w h => (goodIn_p wsL_in_r11_0w [] (by decide +kernel) (by decide +kernel) w h).1
def wsL_in_r11_1w : List Cond := [Cond.code yX0_tradeOf cX0_tradeOf 2 (some .int)]
set_option maxRecDepth 20000 in
theorem wsL_in_r11_1 : ∀ w ∈ wsL_in_r11_1w, w ∈ lw_tbl := fun w h => by
  rw [List.mem_singleton.mp h]
  exact List.mem_of_getElem? (i := 239) rfl
def wsL_in_r11_2w : List Cond := [Cond.methodLink RL 134 yX0_isExempt, Cond.instanceMethod yX0_isExempt, Cond.selects RX0 yX0_isExempt yX0_isExempt]
set_option maxRecDepth 20000 in
theorem wsL_in_r11_2 : ∀ w ∈ wsL_in_r11_2w, w ∈ lw_tbl := fun w h => (goodIn_p wsL_in_r11_2w [] (by decide +kernel) (by decide +kernel) w h).1
def wsL_in_r11_3w : List Cond := [Cond.code yX0_isExempt cX0_isExempt 3 (some .boolean)]
set_option maxRecDepth 20000 in
theorem wsL_in_r11_3 : ∀ w ∈ wsL_in_r11_3w, w ∈ lw_tbl := fun w h => by
  rw [List.mem_singleton.mp h]
  exact List.mem_of_getElem? (i := 219) rfl
def wsL_in_r11_4w : List Cond := [Cond.methodLink RL 137 yX0_barredBy, Cond.instanceMethod yX0_barredBy, Cond.selects RX0 yX0_barredBy yX0_barredBy]
set_option maxRecDepth 20000 in
theorem wsL_in_r11_4 : ∀ w ∈ wsL_in_r11_4w, w ∈ lw_tbl := fun w h => (goodIn_p wsL_in_r11_4w [] (by decide +kernel) (by decide +kernel) w h).1
def wsL_in_r11_5w : List Cond := [Cond.code yX0_barredBy cX0_barredBy 4 (some .int)]
set_option maxRecDepth 20000 in
theorem wsL_in_r11_5 : ∀ w ∈ wsL_in_r11_5w, w ∈ lw_tbl := fun w h => by
  rw [List.mem_singleton.mp h]
  exact List.mem_of_getElem? (i := 231) rfl
def wsL_in_r11_6w : List Cond := [Cond.methodLink RL 140 yX0_timesFined, Cond.instanceMethod yX0_timesFined, Cond.selects RX0 yX0_timesFined yX0_timesFined]
set_option maxRecDepth 20000 in
theorem wsL_in_r11_6 : ∀ w ∈ wsL_in_r11_6w, w ∈ lw_tbl := fun w h => (goodIn_p wsL_in_r11_6w [] (by decide +kernel) (by decide +kernel) w h).1
def wsL_in_r11_7w : List Cond := [Cond.code yX0_timesFined cX0_timesFined 2 (some .int)]
set_option maxRecDepth 20000 in
theorem wsL_in_r11_7 : ∀ w ∈ wsL_in_r11_7w, w ∈ lw_tbl := fun w h => by
  rw [List.mem_singleton.mp h]
  exact List.mem_of_getElem? (i := 263) rfl
def wsL_in_r11_8w : List Cond := [Cond.methodLink RL 143 yX0_owes, Cond.instanceMethod yX0_owes, Cond.selects RX0 yX0_owes yX0_owes]
set_option maxRecDepth 20000 in
theorem wsL_in_r11_8 : ∀ w ∈ wsL_in_r11_8w, w ∈ lw_tbl := fun w h => (goodIn_p wsL_in_r11_8w [] (by decide +kernel) (by decide +kernel) w h).1
def wsL_in_r11_9w : List Cond := [Cond.code yX0_owes cX0_owes 2 (some .int)]
set_option maxRecDepth 20000 in
theorem wsL_in_r11_9 : ∀ w ∈ wsL_in_r11_9w, w ∈ lw_tbl := fun w h => by
  rw [List.mem_singleton.mp h]
  exact List.mem_of_getElem? (i := 259) rfl
def wsL_in_r11_10w : List Cond := [Cond.methodLink RL 146 yX0_stampsOf, Cond.instanceMethod yX0_stampsOf, Cond.selects RX0 yX0_stampsOf yX0_stampsOf]
set_option maxRecDepth 20000 in
theorem wsL_in_r11_10 : ∀ w ∈ wsL_in_r11_10w, w ∈ lw_tbl := fun w h => (goodIn_p wsL_in_r11_10w [] (by decide +kernel) (by decide +kernel) w h).1
def wsL_in_r11_11w : List Cond := [Cond.code yX0_stampsOf cX0_stampsOf 3 (some .int)]
set_option maxRecDepth 20000 in
theorem wsL_in_r11_11 : ∀ w ∈ wsL_in_r11_11w, w ∈ lw_tbl := fun w h => by
  rw [List.mem_singleton.mp h]
  exact List.mem_of_getElem? (i := 248) rfl
theorem wsL_in_r11 : ∀ w ∈ wsL_law0_r11, w ∈ lw_tbl := lw_app2 wsL_in_r11_0 (lw_app2 wsL_in_r11_1 (lw_app2 wsL_in_r11_2 (lw_app2 wsL_in_r11_3 (lw_app2 wsL_in_r11_4 (lw_app2 wsL_in_r11_5 (lw_app2 wsL_in_r11_6 (lw_app2 wsL_in_r11_7 (lw_app2 wsL_in_r11_8 (lw_app2 wsL_in_r11_9 (lw_app2 wsL_in_r11_10 (wsL_in_r11_11)))))))))))
def wsL_in_r12_0w : List Cond := [Cond.methodLink RL 149 yX0_quarters, Cond.instanceMethod yX0_quarters, Cond.selects RX0 yX0_quarters yX0_quarters]
set_option maxRecDepth 20000 in
theorem wsL_in_r12_0 : ∀ w ∈ wsL_in_r12_0w, w ∈ lw_tbl := fun w h => (goodIn_p wsL_in_r12_0w [] (by decide +kernel) (by decide +kernel) w h).1
def wsL_in_r12_1w : List Cond := [Cond.code yX0_quarters cX0_quarters 1 (some .int)]
set_option maxRecDepth 20000 in
theorem wsL_in_r12_1 : ∀ w ∈ wsL_in_r12_1w, w ∈ lw_tbl := fun w h => by
  rw [List.mem_singleton.mp h]
  exact List.mem_of_getElem? (i := 291) rfl
def wsL_in_r12_2w : List Cond := [Cond.methodLink RL 151 yX0_ordersAgainst, Cond.instanceMethod yX0_ordersAgainst, Cond.selects RX0 yX0_ordersAgainst yX0_ordersAgainst]
set_option maxRecDepth 20000 in
theorem wsL_in_r12_2 : ∀ w ∈ wsL_in_r12_2w, w ∈ lw_tbl := fun w h => (goodIn_p wsL_in_r12_2w [] (by decide +kernel) (by decide +kernel) w h).1
def wsL_in_r12_3w : List Cond := [Cond.code yX0_ordersAgainst cX0_ordersAgainst 5 (some .int)]
set_option maxRecDepth 20000 in
theorem wsL_in_r12_3 : ∀ w ∈ wsL_in_r12_3w, w ∈ lw_tbl := fun w h => by
  rw [List.mem_singleton.mp h]
  exact List.mem_of_getElem? (i := 267) rfl
def wsL_in_r12_4w : List Cond := [Cond.methodLink RL 154 yX0_stampsMissing, Cond.instanceMethod yX0_stampsMissing, Cond.selects RX0 yX0_stampsMissing yX0_stampsMissing]
set_option maxRecDepth 20000 in
theorem wsL_in_r12_4 : ∀ w ∈ wsL_in_r12_4w, w ∈ lw_tbl := fun w h => (goodIn_p wsL_in_r12_4w [] (by decide +kernel) (by decide +kernel) w h).1
def wsL_in_r12_5w : List Cond := [Cond.code yX0_stampsMissing cX0_stampsMissing 3 (some .int)]
set_option maxRecDepth 20000 in
theorem wsL_in_r12_5 : ∀ w ∈ wsL_in_r12_5w, w ∈ lw_tbl := fun w h => by
  rw [List.mem_singleton.mp h]
  exact List.mem_of_getElem? (i := 287) rfl
def wsL_in_r12_6w : List Cond := [Cond.methodLink RX0 131 yX0_missing, Cond.instanceMethod yX0_missing, Cond.selects RX0 yX0_missing yX0_missing]
set_option maxRecDepth 20000 in
theorem wsL_in_r12_6 : ∀ w ∈ wsL_in_r12_6w, w ∈ lw_tbl := fun w h => (goodIn_p wsL_in_r12_6w [] (by decide +kernel) (by decide +kernel) w h).1
def wsL_in_r12_7w : List Cond := [Cond.code yX0_missing cX0_missing 8 (some .int)]
set_option maxRecDepth 20000 in
theorem wsL_in_r12_7 : ∀ w ∈ wsL_in_r12_7w, w ∈ lw_tbl := fun w h => by
  rw [List.mem_singleton.mp h]
  exact List.mem_of_getElem? (i := 280) rfl
def wsL_in_r12_8w : List Cond := [Cond.methodLink RX0 187 Lib.Math.max.name, Cond.static Lib.Math.max.name]
set_option maxRecDepth 20000 in
theorem wsL_in_r12_8 : ∀ w ∈ wsL_in_r12_8w, w ∈ lw_tbl := fun w h => (goodIn_p wsL_in_r12_8w [] (by decide +kernel) (by decide +kernel) w h).1
def wsL_in_r12_9w : List Cond := [Cond.code Lib.Math.max.name Lib.Math.max.code 2 (some .int)]
set_option maxRecDepth 20000 in
theorem wsL_in_r12_9 : ∀ w ∈ wsL_in_r12_9w, w ∈ lw_tbl := fun w h => by
  rw [List.mem_singleton.mp h]
  exact List.mem_of_getElem? (i := 283) rfl
def wsL_in_r12_10w : List Cond := [Cond.methodLink RL 157 yX0_mayGo, Cond.instanceMethod yX0_mayGo, Cond.selects RX0 yX0_mayGo yX0_mayGo]
set_option maxRecDepth 20000 in
theorem wsL_in_r12_10 : ∀ w ∈ wsL_in_r12_10w, w ∈ lw_tbl := fun w h => (goodIn_p wsL_in_r12_10w [] (by decide +kernel) (by decide +kernel) w h).1
