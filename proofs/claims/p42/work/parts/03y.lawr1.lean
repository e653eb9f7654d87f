def wsL_in_r4_7w : List Cond := [Cond.methodLink RX0 70 yX0_requireWithin, Cond.static yX0_requireWithin]
set_option maxRecDepth 20000 in
theorem wsL_in_r4_7 : ∀ w ∈ wsL_in_r4_7w, w ∈ lw_tbl := fun w h => (goodIn_p wsL_in_r4_7w [] (by decide +kernel) (by decide +kernel) w h).1
def wsL_in_r4_8w : List Cond := [Cond.code yX0_requireWithin cX0_requireWithin 3 none]
set_option maxRecDepth 20000 in
theorem wsL_in_r4_8 : ∀ w ∈ wsL_in_r4_8w, w ∈ lw_tbl := fun w h => by
  rw [List.mem_singleton.mp h]
  exact List.mem_of_getElem? (i := 93) rfl
def wsL_in_r4_9w : List Cond := [Cond.classLink RX0 203 "java/lang/IllegalArgumentException", Cond.initialized "java/lang/IllegalArgumentException", Cond.methodLink RL 48 yX0_turnExempt, Cond.instanceMethod yX0_turnExempt, Cond.selects RX0 yX0_turnExempt yX0_turnExempt]
set_option maxRecDepth 20000 in
theorem wsL_in_r4_9 : ∀ w ∈ wsL_in_r4_9w, w ∈ lw_tbl := fun w h => (goodIn_p wsL_in_r4_9w [] (by decide +kernel) (by decide +kernel) w h).1
def wsL_in_r4_10w : List Cond := [Cond.code yX0_turnExempt cX0_turnExempt 3 (some .boolean)]
set_option maxRecDepth 20000 in
theorem wsL_in_r4_10 : ∀ w ∈ wsL_in_r4_10w, w ∈ lw_tbl := fun w h => by
  rw [List.mem_singleton.mp h]
  exact List.mem_of_getElem? (i := 437) rfl
theorem wsL_in_r4 : ∀ w ∈ wsL_law0_r4, w ∈ lw_tbl := lw_app2 wsL_in_r4_0 (lw_app2 wsL_in_r4_1 (lw_app2 wsL_in_r4_2 (lw_app2 wsL_in_r4_3 (lw_app2 wsL_in_r4_4 (lw_app2 wsL_in_r4_5 (lw_app2 wsL_in_r4_6 (lw_app2 wsL_in_r4_7 (lw_app2 wsL_in_r4_8 (lw_app2 wsL_in_r4_9 (wsL_in_r4_10))))))))))
def wsL_in_r5_0w : List Cond := [Cond.methodLink RX0 79 yX0_requireOrder, Cond.instanceMethod yX0_requireOrder, Cond.selects RX0 yX0_requireOrder yX0_requireOrder]
set_option maxRecDepth 20000 in
theorem wsL_in_r5_0 : ∀ w ∈ wsL_in_r5_0w, w ∈ lw_tbl := fun w h => (goodIn_p wsL_in_r5_0w [] (by decide +kernel) (by decide +kernel) w h).1
def wsL_in_r5_1w : List Cond := [Cond.code yX0_requireOrder cX0_requireOrder 2 none]
set_option maxRecDepth 20000 in
theorem wsL_in_r5_1 : ∀ w ∈ wsL_in_r5_1w, w ∈ lw_tbl := fun w h => by
  rw [List.mem_singleton.mp h]
  exact List.mem_of_getElem? (i := 187) rfl
def wsL_in_r5_2w : List Cond := [Cond.methodLink RX0 82 yX0_exempts, Cond.instanceMethod yX0_exempts, Cond.selects RX0 yX0_exempts yX0_exempts]
set_option maxRecDepth 20000 in
theorem wsL_in_r5_2 : ∀ w ∈ wsL_in_r5_2w, w ∈ lw_tbl := fun w h => (goodIn_p wsL_in_r5_2w [] (by decide +kernel) (by decide +kernel) w h).1
def wsL_in_r5_3w : List Cond := [Cond.code yX0_exempts cX0_exempts 3 (some .boolean)]
set_option maxRecDepth 20000 in
theorem wsL_in_r5_3 : ∀ w ∈ wsL_in_r5_3w, w ∈ lw_tbl := fun w h => by
  rw [List.mem_singleton.mp h]
  exact List.mem_of_getElem? (i := 227) rfl
def wsL_in_r5_4w : List Cond := [Cond.methodLink RL 52 yX0_turnOrder, Cond.instanceMethod yX0_turnOrder, Cond.selects RX0 yX0_turnOrder yX0_turnOrder]
set_option maxRecDepth 20000 in
theorem wsL_in_r5_4 : ∀ w ∈ wsL_in_r5_4w, w ∈ lw_tbl := fun w h => (goodIn_p wsL_in_r5_4w [] (by decide +kernel) (by decide +kernel) w h).1
def wsL_in_r5_5w : List Cond := [Cond.code yX0_turnOrder cX0_turnOrder 2 (some .boolean)]
set_option maxRecDepth 20000 in
theorem wsL_in_r5_5 : ∀ w ∈ wsL_in_r5_5w, w ∈ lw_tbl := fun w h => by
  rw [List.mem_singleton.mp h]
  exact List.mem_of_getElem? (i := 441) rfl
def wsL_in_r5_6w : List Cond := [Cond.methodLink RL 59 yX0_setShift, Cond.instanceMethod yX0_setShift, Cond.selects RX0 yX0_setShift yX0_setShift]
set_option maxRecDepth 20000 in
theorem wsL_in_r5_6 : ∀ w ∈ wsL_in_r5_6w, w ∈ lw_tbl := fun w h => (goodIn_p wsL_in_r5_6w [] (by decide +kernel) (by decide +kernel) w h).1
def wsL_in_r5_7w : List Cond := [Cond.code yX0_setShift cX0_setShift 3 (some .int)]
set_option maxRecDepth 20000 in
theorem wsL_in_r5_7 : ∀ w ∈ wsL_in_r5_7w, w ∈ lw_tbl := fun w h => by
  rw [List.mem_singleton.mp h]
  exact List.mem_of_getElem? (i := 445) rfl
def wsL_in_r5_8w : List Cond := [Cond.fieldLink RX0 86 "CurfewDesk" "duskShift" "I", Cond.methodLink RL 67 yX0_givePass, Cond.instanceMethod yX0_givePass, Cond.selects RX0 yX0_givePass yX0_givePass]
set_option maxRecDepth 20000 in
theorem wsL_in_r5_8 : ∀ w ∈ wsL_in_r5_8w, w ∈ lw_tbl := fun w h => (goodIn_p wsL_in_r5_8w [] (by decide +kernel) (by decide +kernel) w h).1
def wsL_in_r5_9w : List Cond := [Cond.code yX0_givePass cX0_givePass 5 (some .int)]
set_option maxRecDepth 20000 in
theorem wsL_in_r5_9 : ∀ w ∈ wsL_in_r5_9w, w ∈ lw_tbl := fun w h => by
  rw [List.mem_singleton.mp h]
  exact List.mem_of_getElem? (i := 452) rfl
def wsL_in_r5_10w : List Cond := [Cond.methodLink RX0 96 Lib.Math.min.name, Cond.methodLink RX0 89 yX0_requirePerson, Cond.instanceMethod yX0_requirePerson]
set_option maxRecDepth 20000 in
theorem wsL_in_r5_10 : ∀ w ∈ wsL_in_r5_10w, w ∈ lw_tbl := fun w h => (goodIn_p wsL_in_r5_10w [] (by decide +kernel) (by decide +kernel) w h).1
theorem wsL_in_r5 : ∀ w ∈ wsL_law0_r5, w ∈ lw_tbl := lw_app2 wsL_in_r5_0 (lw_app2 wsL_in_r5_1 (lw_app2 wsL_in_r5_2 (lw_app2 wsL_in_r5_3 (lw_app2 wsL_in_r5_4 (lw_app2 wsL_in_r5_5 (lw_app2 wsL_in_r5_6 (lw_app2 wsL_in_r5_7 (lw_app2 wsL_in_r5_8 (lw_app2 wsL_in_r5_9 (wsL_in_r5_10))))))))))
def wsL_in_r6_0w : List Cond := [Cond.selects RX0 yX0_requirePerson yX0_requirePerson]
set_option maxRecDepth 20000 in
theorem wsL_in_r6_0 : ∀ w ∈ wsL_in_r6_0w, w ∈ lw_tbl := fun w h => (goodIn_p wsL_in_r6_0w [] (by decide +kernel) (by decide +kernel) w h).1
def wsL_in_r6_1w : List Cond := [Cond.code yX0_requirePerson cX0_requirePerson 2 none]
set_option maxRecDepth 20000 in
theorem wsL_in_r6_1 : ∀ w ∈ wsL_in_r6_1w, w ∈ lw_tbl := fun w h => by
  rw [List.mem_singleton.mp h]
  exact List.mem_of_getElem? (i := 243) rfl
def wsL_in_r6_2w : List Cond := [Cond.methodLink RX0 92 yX0_stampPlace, Cond.static yX0_stampPlace]
set_option maxRecDepth 20000 in
theorem wsL_in_r6_2 : ∀ w ∈ wsL_in_r6_2w, w ∈ lw_tbl := fun w h => (goodIn_p wsL_in_r6_2w [] (by decide +kernel) (by decide +kernel) w h).1
def wsL_in_r6_3w : List Cond := [Cond.code yX0_stampPlace cX0_stampPlace 2 (some .int)]
set_option maxRecDepth 20000 in
theorem wsL_in_r6_3 : ∀ w ∈ wsL_in_r6_3w, w ∈ lw_tbl := fun w h => by
  rw [List.mem_singleton.mp h]
  exact List.mem_of_getElem? (i := 255) rfl
def wsL_in_r6_4w : List Cond := [Cond.methodLink RL 71 yX0_takePass, Cond.instanceMethod yX0_takePass, Cond.selects RX0 yX0_takePass yX0_takePass]
set_option maxRecDepth 20000 in
theorem wsL_in_r6_4 : ∀ w ∈ wsL_in_r6_4w, w ∈ lw_tbl := fun w h => (goodIn_p wsL_in_r6_4w [] (by decide +kernel) (by decide +kernel) w h).1
def wsL_in_r6_5w : List Cond := [Cond.code yX0_takePass cX0_takePass 5 (some .int)]
set_option maxRecDepth 20000 in
theorem wsL_in_r6_5 : ∀ w ∈ wsL_in_r6_5w, w ∈ lw_tbl := fun w h => by
  rw [List.mem_singleton.mp h]
  exact List.mem_of_getElem? (i := 457) rfl
def wsL_in_r6_6w : List Cond := [Cond.methodLink RL 74 yX1_missing, Cond.instanceMethod yX1_missing, Cond.selects RX1 yX1_missing yX1_missing]
set_option maxRecDepth 20000 in
theorem wsL_in_r6_6 : ∀ w ∈ wsL_in_r6_6w, w ∈ lw_tbl := fun w h => (goodIn_p wsL_in_r6_6w [] (by decide +kernel) (by decide +kernel) w h).1
def wsL_in_r6_7w : List Cond := [Cond.code yX1_missing cX1_missing 7 (some .int)]
set_option maxRecDepth 20000 in
theorem wsL_in_r6_7 : ∀ w ∈ wsL_in_r6_7w, w ∈ lw_tbl := fun w h => by
  rw [List.mem_singleton.mp h]
  exact List.mem_of_getElem? (i := 385) rfl
def wsL_in_r6_8w : List Cond := [Cond.fieldLink RX1 43 "CurfewDeskLaw$Sim" "orders" "I", Cond.methodLink RX1 46 yX1_bars, Cond.instanceMethod yX1_bars, Cond.selects RX1 yX1_bars yX1_bars]
set_option maxRecDepth 20000 in
theorem wsL_in_r6_8 : ∀ w ∈ wsL_in_r6_8w, w ∈ lw_tbl := fun w h => (goodIn_p wsL_in_r6_8w [] (by decide +kernel) (by decide +kernel) w h).1
def wsL_in_r6_9w : List Cond := [Cond.code yX1_bars cX1_bars 4 (some .boolean)]
set_option maxRecDepth 20000 in
theorem wsL_in_r6_9 : ∀ w ∈ wsL_in_r6_9w, w ∈ lw_tbl := fun w h => by
  rw [List.mem_singleton.mp h]
  exact List.mem_of_getElem? (i := 359) rfl
def wsL_in_r6_10w : List Cond := [Cond.methodLink RX1 39 yX1_isOn, Cond.instanceMethod yX1_isOn, Cond.selects RX1 yX1_isOn yX1_isOn]
set_option maxRecDepth 20000 in
theorem wsL_in_r6_10 : ∀ w ∈ wsL_in_r6_10w, w ∈ lw_tbl := fun w h => (goodIn_p wsL_in_r6_10w [] (by decide +kernel) (by decide +kernel) w h).1
def wsL_in_r6_11w : List Cond := [Cond.code yX1_isOn cX1_isOn 2 (some .boolean)]
set_option maxRecDepth 20000 in
theorem wsL_in_r6_11 : ∀ w ∈ wsL_in_r6_11w, w ∈ lw_tbl := fun w h => by
  rw [List.mem_singleton.mp h]
  exact List.mem_of_getElem? (i := 346) rfl
def wsL_in_r6_12w : List Cond := [Cond.fieldLink RX1 29 "CurfewDeskLaw$Sim" "day" "I", Cond.fieldLink RX1 32 "CurfewDeskLaw$Sim" "half" "I"]
set_option maxRecDepth 20000 in
theorem wsL_in_r6_12 : ∀ w ∈ wsL_in_r6_12w, w ∈ lw_tbl := fun w h => (goodIn_p wsL_in_r6_12w [] (by decide +kernel) (by decide +kernel) w h).1
theorem wsL_in_r6 : ∀ w ∈ wsL_law0_r6, w ∈ lw_tbl := lw_app2 wsL_in_r6_0 (lw_app2 wsL_in_r6_1 (lw_app2 wsL_in_r6_2 (lw_app2 wsL_in_r6_3 (lw_app2 wsL_in_r6_4 (lw_app2 wsL_in_r6_5 (lw_app2 wsL_in_r6_6 (lw_app2 wsL_in_r6_7 (lw_app2 wsL_in_r6_8 (lw_app2 wsL_in_r6_9 (lw_app2 wsL_in_r6_10 (lw_app2 wsL_in_r6_11 (wsL_in_r6_12))))))))))))
def wsL_in_r7_0w : List Cond := [Cond.methodLink RX1 35 yX1_isAt, Cond.instanceMethod yX1_isAt, Cond.selects RX1 yX1_isAt yX1_isAt]
set_option maxRecDepth 20000 in
theorem wsL_in_r7_0 : ∀ w ∈ wsL_in_r7_0w, w ∈ lw_tbl := fun w h => (goodIn_p wsL_in_r7_0w [] (by decide +kernel) (by decide +kernel) w h).1
def wsL_in_r7_1w : List Cond := [Cond.code yX1_isAt cX1_isAt 4 (some .boolean)]
set_option maxRecDepth 20000 in
theorem wsL_in_r7_1 : ∀ w ∈ wsL_in_r7_1w, w ∈ lw_tbl := fun w h => by
  rw [List.mem_singleton.mp h]
  exact List.mem_of_getElem? (i := 350) rfl
def wsL_in_r7_2w : List Cond := [Cond.fieldLink RX1 25 "CurfewDeskLaw$Sim" "shift" "I", Cond.methodLink RX1 21 yX1_tide, Cond.static yX1_tide]
set_option maxRecDepth 20000 in
theorem wsL_in_r7_2 : ∀ w ∈ wsL_in_r7_2w, w ∈ lw_tbl := fun w h => (goodIn_p wsL_in_r7_2w [] (by decide +kernel) (by decide +kernel) w h).1
def wsL_in_r7_3w : List Cond := [Cond.code yX1_tide cX1_tide 3 (some .int)]
set_option maxRecDepth 20000 in
theorem wsL_in_r7_3 : ∀ w ∈ wsL_in_r7_3w, w ∈ lw_tbl := fun w h => by
  rw [List.mem_singleton.mp h]
  exact List.mem_of_getElem? (i := 333) rfl
def wsL_in_r7_4w : List Cond := [Cond.methodLink RL 77 yX1_bars, Cond.methodLink RL 85 yX0_goOut, Cond.instanceMethod yX0_goOut, Cond.selects RX0 yX0_goOut yX0_goOut]
set_option maxRecDepth 20000 in
theorem wsL_in_r7_4 : ∀ w ∈ wsL_in_r7_4w, w ∈ lw_tbl := fun w h => (goodIn_p wsL_in_r7_4w [] (by decide +kernel) (by decide +kernel) w h).1
