def wsL_in_r7_5w : List Cond := [Cond.code yX0_goOut cX0_goOut 5 (some .int)]
set_option maxRecDepth 20000 in
theorem wsL_in_r7_5 : ∀ w ∈ wsL_in_r7_5w, w ∈ lw_tbl := fun w h => by
  rw [List.mem_singleton.mp h]
  exact List.mem_of_getElem? (i := 463) rfl
def wsL_in_r7_6w : List Cond := [Cond.fieldLink RX0 101 "CurfewDesk" "now" "I", Cond.methodLink RX0 104 yX0_bars, Cond.instanceMethod yX0_bars, Cond.selects RX0 yX0_bars yX0_bars]
set_option maxRecDepth 20000 in
theorem wsL_in_r7_6 : ∀ w ∈ wsL_in_r7_6w, w ∈ lw_tbl := fun w h => (goodIn_p wsL_in_r7_6w [] (by decide +kernel) (by decide +kernel) w h).1
def wsL_in_r7_7w : List Cond := [Cond.code yX0_bars cX0_bars 5 (some .boolean)]
set_option maxRecDepth 20000 in
theorem wsL_in_r7_7 : ∀ w ∈ wsL_in_r7_7w, w ∈ lw_tbl := fun w h => by
  rw [List.mem_singleton.mp h]
  exact List.mem_of_getElem? (i := 235) rfl
def wsL_in_r7_8w : List Cond := [Cond.methodLink RX0 139 yX0_isInHours, Cond.instanceMethod yX0_isInHours, Cond.selects RX0 yX0_isInHours yX0_isInHours]
set_option maxRecDepth 20000 in
theorem wsL_in_r7_8 : ∀ w ∈ wsL_in_r7_8w, w ∈ lw_tbl := fun w h => (goodIn_p wsL_in_r7_8w [] (by decide +kernel) (by decide +kernel) w h).1
def wsL_in_r7_9w : List Cond := [Cond.code yX0_isInHours cX0_isInHours 5 (some .boolean)]
set_option maxRecDepth 20000 in
theorem wsL_in_r7_9 : ∀ w ∈ wsL_in_r7_9w, w ∈ lw_tbl := fun w h => by
  rw [List.mem_singleton.mp h]
  exact List.mem_of_getElem? (i := 215) rfl
def wsL_in_r7_10w : List Cond := [Cond.methodLink RX0 122 yX0_duskOf, Cond.instanceMethod yX0_duskOf]
set_option maxRecDepth 20000 in
theorem wsL_in_r7_10 : ∀ w ∈ wsL_in_r7_10w, w ∈ lw_tbl := fun w h => (goodIn_p wsL_in_r7_10w [] (by decide +kernel) (by decide +kernel) w h).1
theorem wsL_in_r7 : ∀ w ∈ wsL_law0_r7, w ∈ lw_tbl := lw_app2 wsL_in_r7_0 (lw_app2 wsL_in_r7_1 (lw_app2 wsL_in_r7_2 (lw_app2 wsL_in_r7_3 (lw_app2 wsL_in_r7_4 (lw_app2 wsL_in_r7_5 (lw_app2 wsL_in_r7_6 (lw_app2 wsL_in_r7_7 (lw_app2 wsL_in_r7_8 (lw_app2 wsL_in_r7_9 (wsL_in_r7_10))))))))))
def wsL_in_r8_0w : List Cond := [Cond.selects RX0 yX0_duskOf yX0_duskOf]
set_option maxRecDepth 20000 in
theorem wsL_in_r8_0 : ∀ w ∈ wsL_in_r8_0w, w ∈ lw_tbl := fun w h => (goodIn_p wsL_in_r8_0w [] (by decide +kernel) (by decide +kernel) w h).1
def wsL_in_r8_1w : List Cond := [Cond.code yX0_duskOf cX0_duskOf 2 (some .int)]
set_option maxRecDepth 20000 in
theorem wsL_in_r8_1 : ∀ w ∈ wsL_in_r8_1w, w ∈ lw_tbl := fun w h => by
  rw [List.mem_singleton.mp h]
  exact List.mem_of_getElem? (i := 169) rfl
def wsL_in_r8_2w : List Cond := [Cond.methodLink RX0 184 yX0_tideOf, Cond.static yX0_tideOf]
set_option maxRecDepth 20000 in
theorem wsL_in_r8_2 : ∀ w ∈ wsL_in_r8_2w, w ∈ lw_tbl := fun w h => (goodIn_p wsL_in_r8_2w [] (by decide +kernel) (by decide +kernel) w h).1
def wsL_in_r8_3w : List Cond := [Cond.code yX0_tideOf cX0_tideOf 2 (some .int)]
set_option maxRecDepth 20000 in
theorem wsL_in_r8_3 : ∀ w ∈ wsL_in_r8_3w, w ∈ lw_tbl := fun w h => by
  rw [List.mem_singleton.mp h]
  exact List.mem_of_getElem? (i := 172) rfl
def wsL_in_r8_4w : List Cond := [Cond.methodLink RX0 125 yX0_dawnOf, Cond.static yX0_dawnOf]
set_option maxRecDepth 20000 in
theorem wsL_in_r8_4 : ∀ w ∈ wsL_in_r8_4w, w ∈ lw_tbl := fun w h => (goodIn_p wsL_in_r8_4w [] (by decide +kernel) (by decide +kernel) w h).1
def wsL_in_r8_5w : List Cond := [Cond.code yX0_dawnOf cX0_dawnOf 1 (some .int)]
set_option maxRecDepth 20000 in
theorem wsL_in_r8_5 : ∀ w ∈ wsL_in_r8_5w, w ∈ lw_tbl := fun w h => by
  rw [List.mem_singleton.mp h]
  exact List.mem_of_getElem? (i := 179) rfl
def wsL_in_r8_6w : List Cond := [Cond.methodLink RX0 108 yX0_useStamp, Cond.instanceMethod yX0_useStamp, Cond.selects RX0 yX0_useStamp yX0_useStamp]
set_option maxRecDepth 20000 in
theorem wsL_in_r8_6 : ∀ w ∈ wsL_in_r8_6w, w ∈ lw_tbl := fun w h => (goodIn_p wsL_in_r8_6w [] (by decide +kernel) (by decide +kernel) w h).1
def wsL_in_r8_7w : List Cond := [Cond.code yX0_useStamp cX0_useStamp 4 (some .boolean)]
set_option maxRecDepth 20000 in
theorem wsL_in_r8_7 : ∀ w ∈ wsL_in_r8_7w, w ∈ lw_tbl := fun w h => by
  rw [List.mem_singleton.mp h]
  exact List.mem_of_getElem? (i := 467) rfl
def wsL_in_r8_8w : List Cond := [Cond.methodLink RX0 111 yX0_fineOnce, Cond.instanceMethod yX0_fineOnce, Cond.selects RX0 yX0_fineOnce yX0_fineOnce]
set_option maxRecDepth 20000 in
theorem wsL_in_r8_8 : ∀ w ∈ wsL_in_r8_8w, w ∈ lw_tbl := fun w h => (goodIn_p wsL_in_r8_8w [] (by decide +kernel) (by decide +kernel) w h).1
def wsL_in_r8_9w : List Cond := [Cond.code yX0_fineOnce cX0_fineOnce 3 (some .int)]
set_option maxRecDepth 20000 in
theorem wsL_in_r8_9 : ∀ w ∈ wsL_in_r8_9w, w ∈ lw_tbl := fun w h => by
  rw [List.mem_singleton.mp h]
  exact List.mem_of_getElem? (i := 471) rfl
def wsL_in_r8_10w : List Cond := [Cond.methodLink RL 88 yX1_pass, Cond.instanceMethod yX1_pass, Cond.selects RX1 yX1_pass yX1_pass]
set_option maxRecDepth 20000 in
theorem wsL_in_r8_10 : ∀ w ∈ wsL_in_r8_10w, w ∈ lw_tbl := fun w h => (goodIn_p wsL_in_r8_10w [] (by decide +kernel) (by decide +kernel) w h).1
def wsL_in_r8_11w : List Cond := [Cond.code yX1_pass cX1_pass 4 (some .int)]
set_option maxRecDepth 20000 in
theorem wsL_in_r8_11 : ∀ w ∈ wsL_in_r8_11w, w ∈ lw_tbl := fun w h => by
  rw [List.mem_singleton.mp h]
  exact List.mem_of_getElem? (i := 475) rfl
def wsL_in_r8_12w : List Cond := [Cond.methodLink RL 91 yX0_pass, Cond.instanceMethod yX0_pass, Cond.selects RX0 yX0_pass yX0_pass]
set_option maxRecDepth 20000 in
theorem wsL_in_r8_12 : ∀ w ∈ wsL_in_r8_12w, w ∈ lw_tbl := fun w h => (goodIn_p wsL_in_r8_12w [] (by decide +kernel) (by decide +kernel) w h).1
def wsL_in_r8_13w : List Cond := [Cond.code yX0_pass cX0_pass 4 (some .int)]
set_option maxRecDepth 20000 in
theorem wsL_in_r8_13 : ∀ w ∈ wsL_in_r8_13w, w ∈ lw_tbl := fun w h => by
  rw [List.mem_singleton.mp h]
  exact List.mem_of_getElem? (i := 479) rfl
theorem wsL_in_r8 : ∀ w ∈ wsL_law0_r8, w ∈ lw_tbl := lw_app2 wsL_in_r8_0 (lw_app2 wsL_in_r8_1 (lw_app2 wsL_in_r8_2 (lw_app2 wsL_in_r8_3 (lw_app2 wsL_in_r8_4 (lw_app2 wsL_in_r8_5 (lw_app2 wsL_in_r8_6 (lw_app2 wsL_in_r8_7 (lw_app2 wsL_in_r8_8 (lw_app2 wsL_in_r8_9 (lw_app2 wsL_in_r8_10 (lw_app2 wsL_in_r8_11 (lw_app2 wsL_in_r8_12 (wsL_in_r8_13)))))))))))))
def wsL_in_r9_0w : List Cond := [Cond.methodLink RX0 115 yX0_timesBegun, Cond.instanceMethod yX0_timesBegun, Cond.selects RX0 yX0_timesBegun yX0_timesBegun]
set_option maxRecDepth 20000 in
theorem wsL_in_r9_0 : ∀ w ∈ wsL_in_r9_0w, w ∈ lw_tbl := fun w h => (goodIn_p wsL_in_r9_0w [] (by decide +kernel) (by decide +kernel) w h).1
def wsL_in_r9_1w : List Cond := [Cond.code yX0_timesBegun cX0_timesBegun 7 (some .int)]
set_option maxRecDepth 20000 in
theorem wsL_in_r9_1 : ∀ w ∈ wsL_in_r9_1w, w ∈ lw_tbl := fun w h => by
  rw [List.mem_singleton.mp h]
  exact List.mem_of_getElem? (i := 483) rfl
def wsL_in_r9_2w : List Cond := [Cond.methodLink RX0 128 yX0_isOnAt, Cond.instanceMethod yX0_isOnAt, Cond.selects RX0 yX0_isOnAt yX0_isOnAt]
set_option maxRecDepth 20000 in
theorem wsL_in_r9_2 : ∀ w ∈ wsL_in_r9_2w, w ∈ lw_tbl := fun w h => (goodIn_p wsL_in_r9_2w [] (by decide +kernel) (by decide +kernel) w h).1
def wsL_in_r9_3w : List Cond := [Cond.code yX0_isOnAt cX0_isOnAt 3 (some .boolean)]
set_option maxRecDepth 20000 in
theorem wsL_in_r9_3 : ∀ w ∈ wsL_in_r9_3w, w ∈ lw_tbl := fun w h => by
  rw [List.mem_singleton.mp h]
  exact List.mem_of_getElem? (i := 211) rfl
def wsL_in_r9_4w : List Cond := [Cond.methodLink RL 107 yX0_halfHour, Cond.instanceMethod yX0_halfHour, Cond.selects RX0 yX0_halfHour yX0_halfHour]
set_option maxRecDepth 20000 in
theorem wsL_in_r9_4 : ∀ w ∈ wsL_in_r9_4w, w ∈ lw_tbl := fun w h => (goodIn_p wsL_in_r9_4w [] (by decide +kernel) (by decide +kernel) w h).1
def wsL_in_r9_5w : List Cond := [Cond.code yX0_halfHour cX0_halfHour 1 (some .int)]
set_option maxRecDepth 20000 in
theorem wsL_in_r9_5 : ∀ w ∈ wsL_in_r9_5w, w ∈ lw_tbl := fun w h => by
  rw [List.mem_singleton.mp h]
  exact List.mem_of_getElem? (i := 86) rfl
def wsL_in_r9_6w : List Cond := [Cond.methodLink RL 110 yX0_dawnIn, Cond.instanceMethod yX0_dawnIn, Cond.selects RX0 yX0_dawnIn yX0_dawnIn]
set_option maxRecDepth 20000 in
theorem wsL_in_r9_6 : ∀ w ∈ wsL_in_r9_6w, w ∈ lw_tbl := fun w h => (goodIn_p wsL_in_r9_6w [] (by decide +kernel) (by decide +kernel) w h).1
def wsL_in_r9_7w : List Cond := [Cond.code yX0_dawnIn cX0_dawnIn 2 (some .int)]
set_option maxRecDepth 20000 in
theorem wsL_in_r9_7 : ∀ w ∈ wsL_in_r9_7w, w ∈ lw_tbl := fun w h => by
  rw [List.mem_singleton.mp h]
  exact List.mem_of_getElem? (i := 176) rfl
def wsL_in_r9_8w : List Cond := [Cond.methodLink RX0 118 yX0_day, Cond.instanceMethod yX0_day, Cond.selects RX0 yX0_day yX0_day]
set_option maxRecDepth 20000 in
theorem wsL_in_r9_8 : ∀ w ∈ wsL_in_r9_8w, w ∈ lw_tbl := fun w h => (goodIn_p wsL_in_r9_8w [] (by decide +kernel) (by decide +kernel) w h).1
def wsL_in_r9_9w : List Cond := [Cond.code yX0_day cX0_day 1 (some .int)]
set_option maxRecDepth 20000 in
theorem wsL_in_r9_9 : ∀ w ∈ wsL_in_r9_9w, w ∈ lw_tbl := fun w h => by
  rw [List.mem_singleton.mp h]
  exact List.mem_of_getElem? (i := 165) rfl
def wsL_in_r9_10w : List Cond := [Cond.methodLink RL 113 yX0_duskIn, Cond.instanceMethod yX0_duskIn, Cond.selects RX0 yX0_duskIn yX0_duskIn]
set_option maxRecDepth 20000 in
theorem wsL_in_r9_10 : ∀ w ∈ wsL_in_r9_10w, w ∈ lw_tbl := fun w h => (goodIn_p wsL_in_r9_10w [] (by decide +kernel) (by decide +kernel) w h).1
def wsL_in_r9_11w : List Cond := [Cond.code yX0_duskIn cX0_duskIn 2 (some .int)]
set_option maxRecDepth 20000 in
theorem wsL_in_r9_11 : ∀ w ∈ wsL_in_r9_11w, w ∈ lw_tbl := fun w h => by
  rw [List.mem_singleton.mp h]
  exact List.mem_of_getElem? (i := 90) rfl
theorem wsL_in_r9 : ∀ w ∈ wsL_law0_r9, w ∈ lw_tbl := lw_app2 wsL_in_r9_0 (lw_app2 wsL_in_r9_1 (lw_app2 wsL_in_r9_2 (lw_app2 wsL_in_r9_3 (lw_app2 wsL_in_r9_4 (lw_app2 wsL_in_r9_5 (lw_app2 wsL_in_r9_6 (lw_app2 wsL_in_r9_7 (lw_app2 wsL_in_r9_8 (lw_app2 wsL_in_r9_9 (lw_app2 wsL_in_r9_10 (wsL_in_r9_11)))))))))))
def wsL_in_r10_0w : List Cond := [Cond.methodLink RL 116 yX0_shift, Cond.instanceMethod yX0_shift, Cond.selects RX0 yX0_shift yX0_shift]
set_option maxRecDepth 20000 in
theorem wsL_in_r10_0 : ∀ w ∈ wsL_in_r10_0w, w ∈ lw_tbl := fun w h => (goodIn_p wsL_in_r10_0w [] (by decide +kernel) (by decide +kernel) w h).1
