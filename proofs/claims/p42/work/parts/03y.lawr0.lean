theorem lw_app2 {a b : List Cond} (ha : ∀ w ∈ a, w ∈ lw_tbl) (hb : ∀ w ∈ b, w ∈ lw_tbl) : ∀ w ∈ a ++ b, w ∈ lw_tbl := fun w h => (List.mem_append.mp h).elim (ha w) (hb w)
def wsL_in_r1_0w : List Cond := [Cond.classLink RL 22 RX0, Cond.instantiable RX0 16, Cond.initialized RX0, Cond.methodLink RL 102 yX0_init, Cond.instanceMethod yX0_init]
set_option maxRecDepth 20000 in
theorem wsL_in_r1_0 : ∀ w ∈ wsL_in_r1_0w, w ∈ lw_tbl := fun w h => (goodIn_p wsL_in_r1_0w [] (by decide +kernel) (by decide +kernel) w h).1
def wsL_in_r1_1w : List Cond := [Cond.code yX0_init cX0_init 1 none]
set_option maxRecDepth 20000 in
theorem wsL_in_r1_1 : ∀ w ∈ wsL_in_r1_1w, w ∈ lw_tbl := fun w h => by
  rw [List.mem_singleton.mp h]
  exact List.mem_of_getElem? (i := 28) rfl
def wsL_in_r1_2w : List Cond := [Cond.methodLink RX0 1 objectInit, Cond.instanceMethod objectInit]
set_option maxRecDepth 20000 in
theorem wsL_in_r1_2 : ∀ w ∈ wsL_in_r1_2w, w ∈ lw_tbl := fun w h => (goodIn_p wsL_in_r1_2w [] (by decide +kernel) (by decide +kernel) w h).1
def wsL_in_r1_3w : List Cond := [Cond.code objectInit ⟨#[0xb1]⟩ 1 none]
set_option maxRecDepth 20000 in
theorem wsL_in_r1_3 : ∀ w ∈ wsL_in_r1_3w, w ∈ lw_tbl := fun w h => by
  rw [List.mem_singleton.mp h]
  exact List.mem_of_getElem? (i := 31) rfl
def wsL_in_r1_4w : List Cond := [Cond.arrayClass .int, Cond.fieldLink RX0 9 "CurfewDesk" "orderQuarter" "[I", Cond.fieldLink RX0 13 "CurfewDesk" "orderAhead" "[I", Cond.fieldLink RX0 16 "CurfewDesk" "orderBehind" "[I", Cond.fieldLink RX0 19 "CurfewDesk" "orderColour" "[I", Cond.arrayClass .boolean, Cond.fieldLink RX0 22 "CurfewDesk" "orderInForce" "[Z", Cond.fieldLink RX0 26 "CurfewDesk" "orderExempt" "[I", Cond.fieldLink RX0 29 "CurfewDesk" "personTrade" "[I"]
set_option maxRecDepth 20000 in
theorem wsL_in_r1_4 : ∀ w ∈ wsL_in_r1_4w, w ∈ lw_tbl := fun w h => (goodIn_p wsL_in_r1_4w [] (by decide +kernel) (by decide +kernel) w h).1
def wsL_in_r1_5w : List Cond := [Cond.fieldLink RX0 32 "CurfewDesk" "personFined" "[I", Cond.fieldLink RX0 35 "CurfewDesk" "personOwes" "[I", Cond.fieldLink RX0 38 "CurfewDesk" "personStamps" "[I", Cond.fieldLink RX0 41 "CurfewDesk" "usedStamps" "[I", Cond.methodLink RL 103 yL_build, Cond.static yL_build]
set_option maxRecDepth 20000 in
theorem wsL_in_r1_5 : ∀ w ∈ wsL_in_r1_5w, w ∈ lw_tbl := fun w h => (goodIn_p wsL_in_r1_5w [] (by decide +kernel) (by decide +kernel) w h).1
theorem wsL_in_r1 : ∀ w ∈ wsL_law0_r1, w ∈ lw_tbl := lw_app2 wsL_in_r1_0 (lw_app2 wsL_in_r1_1 (lw_app2 wsL_in_r1_2 (lw_app2 wsL_in_r1_3 (lw_app2 wsL_in_r1_4 (wsL_in_r1_5)))))
def wsL_in_r2_0w : List Cond := [Cond.initialized RL]
set_option maxRecDepth 20000 in
theorem wsL_in_r2_0 : ∀ w ∈ wsL_in_r2_0w, w ∈ lw_tbl := fun w h => (goodIn_p wsL_in_r2_0w [] (by decide +kernel) (by decide +kernel) w h).1
def wsL_in_r2_1w : List Cond := [Cond.code yL_build cL_build 5 (some (.object "CurfewDeskLaw$Sim"))]
set_option maxRecDepth 20000 in
theorem wsL_in_r2_1 : ∀ w ∈ wsL_in_r2_1w, w ∈ lw_tbl := fun w h => by
  rw [List.mem_singleton.mp h]
  exact List.mem_of_getElem? (i := 486) rfl
def wsL_in_r2_2w : List Cond := [Cond.classLink RL 16 RX1, Cond.instantiable RX1 9, Cond.initialized RX1, Cond.instanceMethod yX1_init]
set_option maxRecDepth 20000 in
theorem wsL_in_r2_2 : ∀ w ∈ wsL_in_r2_2w, w ∈ lw_tbl := fun w h => (goodIn_p wsL_in_r2_2w [] (by decide +kernel) (by decide +kernel) w h).1
def wsL_in_r2_3w : List Cond := [Cond.code yX1_init cX1_init 1 none]
set_option maxRecDepth 20000 in
theorem wsL_in_r2_3 : ∀ w ∈ wsL_in_r2_3w, w ∈ lw_tbl := fun w h => by
  rw [List.mem_singleton.mp h]
  exact List.mem_of_getElem? (i := 491) rfl
def wsL_in_r2_4w : List Cond := [Cond.methodLink RX1 1 objectInit, Cond.classLink RX1 7 "[[I", Cond.fieldLink RX1 9 "CurfewDeskLaw$Sim" "order" "[[I", Cond.fieldLink RX1 14 "CurfewDeskLaw$Sim" "person" "[[I", Cond.fieldLink RX1 17 "CurfewDeskLaw$Sim" "used" "[I", Cond.methodLink RL 94 yL_cell, Cond.static yL_cell]
set_option maxRecDepth 20000 in
theorem wsL_in_r2_4 : ∀ w ∈ wsL_in_r2_4w, w ∈ lw_tbl := fun w h => (goodIn_p wsL_in_r2_4w [] (by decide +kernel) (by decide +kernel) w h).1
def wsL_in_r2_5w : List Cond := [Cond.code yL_cell cL_cell 2 (some .int)]
set_option maxRecDepth 20000 in
theorem wsL_in_r2_5 : ∀ w ∈ wsL_in_r2_5w, w ∈ lw_tbl := fun w h => by
  rw [List.mem_singleton.mp h]
  exact List.mem_of_getElem? (i := 395) rfl
def wsL_in_r2_6w : List Cond := [Cond.constant RL 8 (790386105)]
set_option maxRecDepth 20000 in
theorem wsL_in_r2_6 : ∀ w ∈ wsL_in_r2_6w, w ∈ lw_tbl := fun w h => by
  rw [List.mem_singleton.mp h]
  exact List.mem_of_getElem? (i := 396) rfl
def wsL_in_r2_7w : List Cond := [Cond.methodLink RL 9 yL_below, Cond.static yL_below]
set_option maxRecDepth 20000 in
theorem wsL_in_r2_7 : ∀ w ∈ wsL_in_r2_7w, w ∈ lw_tbl := fun w h => (goodIn_p wsL_in_r2_7w [] (by decide +kernel) (by decide +kernel) w h).1
def wsL_in_r2_8w : List Cond := [Cond.code yL_below cL_below 2 (some .int)]
set_option maxRecDepth 20000 in
theorem wsL_in_r2_8 : ∀ w ∈ wsL_in_r2_8w, w ∈ lw_tbl := fun w h => by
  rw [List.mem_singleton.mp h]
  exact List.mem_of_getElem? (i := 402) rfl
def wsL_in_r2_9w : List Cond := [Cond.constant RL 7 (2147483647)]
set_option maxRecDepth 20000 in
theorem wsL_in_r2_9 : ∀ w ∈ wsL_in_r2_9w, w ∈ lw_tbl := fun w h => by
  rw [List.mem_singleton.mp h]
  exact List.mem_of_getElem? (i := 403) rfl
def wsL_in_r2_10w : List Cond := [Cond.methodLink RL 98 yL_act, Cond.static yL_act]
set_option maxRecDepth 20000 in
theorem wsL_in_r2_10 : ∀ w ∈ wsL_in_r2_10w, w ∈ lw_tbl := fun w h => (goodIn_p wsL_in_r2_10w [] (by decide +kernel) (by decide +kernel) w h).1
def wsL_in_r2_11w : List Cond := [Cond.code yL_act cL_act 16 (some .boolean)]
set_option maxRecDepth 20000 in
theorem wsL_in_r2_11 : ∀ w ∈ wsL_in_r2_11w, w ∈ lw_tbl := fun w h => by
  rw [List.mem_singleton.mp h]
  exact List.mem_of_getElem? (i := 399) rfl
def wsL_in_r2_12w : List Cond := [Cond.fieldLink RL 15 "CurfewDeskLaw$Sim" "quarters" "I"]
set_option maxRecDepth 20000 in
theorem wsL_in_r2_12 : ∀ w ∈ wsL_in_r2_12w, w ∈ lw_tbl := fun w h => (goodIn_p wsL_in_r2_12w [] (by decide +kernel) (by decide +kernel) w h).1
theorem wsL_in_r2 : ∀ w ∈ wsL_law0_r2, w ∈ lw_tbl := lw_app2 wsL_in_r2_0 (lw_app2 wsL_in_r2_1 (lw_app2 wsL_in_r2_2 (lw_app2 wsL_in_r2_3 (lw_app2 wsL_in_r2_4 (lw_app2 wsL_in_r2_5 (lw_app2 wsL_in_r2_6 (lw_app2 wsL_in_r2_7 (lw_app2 wsL_in_r2_8 (lw_app2 wsL_in_r2_9 (lw_app2 wsL_in_r2_10 (lw_app2 wsL_in_r2_11 (wsL_in_r2_12))))))))))))
def wsL_in_r3_0w : List Cond := [Cond.fieldLink RL 27 "CurfewDeskLaw$Sim" "people" "I", Cond.fieldLink RL 30 "CurfewDeskLaw$Sim" "person" "[[I", Cond.fieldLink RL 38 "CurfewDeskLaw$Sim" "orders" "I", Cond.fieldLink RL 41 "CurfewDeskLaw$Sim" "order" "[[I", Cond.fieldLink RL 56 "CurfewDeskLaw$Sim" "shift" "I", Cond.methodLink RL 62 Lib.Math.min.name, Cond.static Lib.Math.min.name, Cond.initialized "java/lang/Math"]
set_option maxRecDepth 20000 in
theorem wsL_in_r3_0 : ∀ w ∈ wsL_in_r3_0w, w ∈ lw_tbl := fun w h => (goodIn_p wsL_in_r3_0w [] (by decide +kernel) (by decide +kernel) w h).1
def wsL_in_r3_1w : List Cond := [Cond.code Lib.Math.min.name Lib.Math.min.code 2 (some .int)]
set_option maxRecDepth 20000 in
theorem wsL_in_r3_1 : ∀ w ∈ wsL_in_r3_1w, w ∈ lw_tbl := fun w h => by
  rw [List.mem_singleton.mp h]
  exact List.mem_of_getElem? (i := 448) rfl
def wsL_in_r3_2w : List Cond := [Cond.fieldLink RL 81 "CurfewDeskLaw$Sim" "used" "[I", Cond.methodLink RL 21 yX0_addQuarter, Cond.instanceMethod yX0_addQuarter, Cond.selects RX0 yX0_addQuarter yX0_addQuarter]
set_option maxRecDepth 20000 in
theorem wsL_in_r3_2 : ∀ w ∈ wsL_in_r3_2w, w ∈ lw_tbl := fun w h => (goodIn_p wsL_in_r3_2w [] (by decide +kernel) (by decide +kernel) w h).1
def wsL_in_r3_3w : List Cond := [Cond.code yX0_addQuarter cX0_addQuarter 2 (some .int)]
set_option maxRecDepth 20000 in
theorem wsL_in_r3_3 : ∀ w ∈ wsL_in_r3_3w, w ∈ lw_tbl := fun w h => by
  rw [List.mem_singleton.mp h]
  exact List.mem_of_getElem? (i := 407) rfl
def wsL_in_r3_4w : List Cond := [Cond.classLink RX0 48 "java/lang/IllegalStateException", Cond.initialized "java/lang/IllegalStateException", Cond.fieldLink RX0 44 "CurfewDesk" "quarterCount" "I", Cond.methodLink RL 34 yX0_addPerson, Cond.instanceMethod yX0_addPerson, Cond.selects RX0 yX0_addPerson yX0_addPerson]
set_option maxRecDepth 20000 in
theorem wsL_in_r3_4 : ∀ w ∈ wsL_in_r3_4w, w ∈ lw_tbl := fun w h => (goodIn_p wsL_in_r3_4w [] (by decide +kernel) (by decide +kernel) w h).1
def wsL_in_r3_5w : List Cond := [Cond.code yX0_addPerson cX0_addPerson 3 (some .int)]
set_option maxRecDepth 20000 in
theorem wsL_in_r3_5 : ∀ w ∈ wsL_in_r3_5w, w ∈ lw_tbl := fun w h => by
  rw [List.mem_singleton.mp h]
  exact List.mem_of_getElem? (i := 427) rfl
def wsL_in_r3_6w : List Cond := [Cond.fieldLink RX0 59 "CurfewDesk" "personCount" "I", Cond.methodLink RX0 55 yX0_requireTrade, Cond.static yX0_requireTrade]
set_option maxRecDepth 20000 in
theorem wsL_in_r3_6 : ∀ w ∈ wsL_in_r3_6w, w ∈ lw_tbl := fun w h => (goodIn_p wsL_in_r3_6w [] (by decide +kernel) (by decide +kernel) w h).1
theorem wsL_in_r3 : ∀ w ∈ wsL_law0_r3, w ∈ lw_tbl := lw_app2 wsL_in_r3_0 (lw_app2 wsL_in_r3_1 (lw_app2 wsL_in_r3_2 (lw_app2 wsL_in_r3_3 (lw_app2 wsL_in_r3_4 (lw_app2 wsL_in_r3_5 (wsL_in_r3_6))))))
def wsL_in_r4_0w : List Cond := [Cond.code yX0_requireTrade cX0_requireTrade 1 none]
set_option maxRecDepth 20000 in
theorem wsL_in_r4_0 : ∀ w ∈ wsL_in_r4_0w, w ∈ lw_tbl := fun w h => by
  rw [List.mem_singleton.mp h]
  exact List.mem_of_getElem? (i := 222) rfl
def wsL_in_r4_1w : List Cond := [Cond.classLink RX0 190 "java/lang/IndexOutOfBoundsException", Cond.initialized "java/lang/IndexOutOfBoundsException", Cond.methodLink RL 44 yX0_addOrder, Cond.instanceMethod yX0_addOrder, Cond.selects RX0 yX0_addOrder yX0_addOrder]
set_option maxRecDepth 20000 in
theorem wsL_in_r4_1 : ∀ w ∈ wsL_in_r4_1w, w ∈ lw_tbl := fun w h => (goodIn_p wsL_in_r4_1w [] (by decide +kernel) (by decide +kernel) w h).1
def wsL_in_r4_2w : List Cond := [Cond.code yX0_addOrder cX0_addOrder 6 (some .int)]
set_option maxRecDepth 20000 in
theorem wsL_in_r4_2 : ∀ w ∈ wsL_in_r4_2w, w ∈ lw_tbl := fun w h => by
  rw [List.mem_singleton.mp h]
  exact List.mem_of_getElem? (i := 432) rfl
def wsL_in_r4_3w : List Cond := [Cond.fieldLink RX0 74 "CurfewDesk" "orderCount" "I", Cond.methodLink RX0 64 yX0_requireQuarter, Cond.instanceMethod yX0_requireQuarter, Cond.selects RX0 yX0_requireQuarter yX0_requireQuarter]
set_option maxRecDepth 20000 in
theorem wsL_in_r4_3 : ∀ w ∈ wsL_in_r4_3w, w ∈ lw_tbl := fun w h => (goodIn_p wsL_in_r4_3w [] (by decide +kernel) (by decide +kernel) w h).1
def wsL_in_r4_4w : List Cond := [Cond.code yX0_requireQuarter cX0_requireQuarter 2 none]
set_option maxRecDepth 20000 in
theorem wsL_in_r4_4 : ∀ w ∈ wsL_in_r4_4w, w ∈ lw_tbl := fun w h => by
  rw [List.mem_singleton.mp h]
  exact List.mem_of_getElem? (i := 271) rfl
def wsL_in_r4_5w : List Cond := [Cond.methodLink RX0 67 yX0_requireColour, Cond.static yX0_requireColour]
set_option maxRecDepth 20000 in
theorem wsL_in_r4_5 : ∀ w ∈ wsL_in_r4_5w, w ∈ lw_tbl := fun w h => (goodIn_p wsL_in_r4_5w [] (by decide +kernel) (by decide +kernel) w h).1
def wsL_in_r4_6w : List Cond := [Cond.code yX0_requireColour cX0_requireColour 1 none]
set_option maxRecDepth 20000 in
theorem wsL_in_r4_6 : ∀ w ∈ wsL_in_r4_6w, w ∈ lw_tbl := fun w h => by
  rw [List.mem_singleton.mp h]
  exact List.mem_of_getElem? (i := 251) rfl
