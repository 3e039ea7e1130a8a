set_option maxRecDepth 20000 in
theorem gX4_clear_X2_addClear : GoodIn wsX4_clear (wsV RX4 89 RX2 yX2_addClear wsX2_addClear) := goodIn_app (goodIn_of _ (by decide +kernel)) ggX4_clear_X2_addClear
set_option maxRecDepth 20000 in
theorem ggX4_clear_X4_only : GoodIn wsX4_clear wsX4_only := goodIn_r _ [16] (by decide +kernel) (by decide +kernel)
set_option maxRecDepth 20000 in
theorem gX4_clear_X4_only : GoodIn wsX4_clear (va_wsS RX4 82 yX4_only wsX4_only) := goodIn_app (goodIn_of _ (by decide +kernel)) ggX4_clear_X4_only
set_option maxRecDepth 20000 in
theorem ggX4_clear_X3_leave : GoodIn wsX4_clear wsX3_leave := goodIn_r _ [46, 47, 48, 49, 50, 45, 51, 52, 53, 54, 55, 56, 57, 69, 70, 71] (by decide +kernel) (by decide +kernel)
set_option maxRecDepth 20000 in
theorem gX4_clear_X3_leave : GoodIn wsX4_clear (wsV RX4 92 RX3 yX3_leave wsX3_leave) := goodIn_app (goodIn_of _ (by decide +kernel)) ggX4_clear_X3_leave
set_option maxRecDepth 20000 in
theorem ggX4_events_X2_count : GoodIn wsX4_events wsX2_count := goodIn_r _ [6, 7, 13, 14, 15, 16, 17, 18] (by decide +kernel) (by decide +kernel)
set_option maxRecDepth 20000 in
theorem gX4_events_X2_count : GoodIn wsX4_events (wsV RX4 103 RX2 yX2_count wsX2_count) := goodIn_app (goodIn_of _ (by decide +kernel)) ggX4_events_X2_count
set_option maxRecDepth 20000 in
theorem ggX4_ticketOf_X4_checkNode : GoodIn wsX4_ticketOf wsX4_checkNode := goodIn_ca (goodIn_r _ [5, 6, 7] (by decide +kernel) (by decide +kernel)) (goodIn_sub (fun _ h => List.mem_cons_of_mem _ (List.mem_append_right _ h)) (by decide +kernel))
set_option maxRecDepth 20000 in
theorem gX4_ticketOf_X4_checkNode : GoodIn wsX4_ticketOf (va_wsS RX4 37 yX4_checkNode wsX4_checkNode) := goodIn_app (goodIn_of _ (by decide +kernel)) ggX4_ticketOf_X4_checkNode
set_option maxRecDepth 20000 in
theorem ggX4_ticketOf_X3_numberOf : GoodIn wsX4_ticketOf wsX3_numberOf := goodIn_r _ [12, 13, 19, 20, 21] (by decide +kernel) (by decide +kernel)
set_option maxRecDepth 20000 in
theorem gX4_ticketOf_X3_numberOf : GoodIn wsX4_ticketOf (wsV RX4 125 RX3 yX3_numberOf wsX3_numberOf) := goodIn_app (goodIn_of _ (by decide +kernel)) ggX4_ticketOf_X3_numberOf
set_option maxRecDepth 20000 in
theorem ggX4_isPlausible_X4_checkNode : GoodIn wsX4_isPlausible wsX4_checkNode := goodIn_ca (goodIn_r _ [4, 5, 6] (by decide +kernel) (by decide +kernel)) (goodIn_sub (fun _ h => List.mem_cons_of_mem _ (List.mem_append_right _ h)) (by decide +kernel))
set_option maxRecDepth 20000 in
theorem gX4_isPlausible_X4_checkNode : GoodIn wsX4_isPlausible (va_wsS RX4 37 yX4_checkNode wsX4_checkNode) := goodIn_app (goodIn_of _ (by decide +kernel)) ggX4_isPlausible_X4_checkNode
set_option maxRecDepth 20000 in
theorem ggX4_isPlausible_X4_diagnoser : GoodIn wsX4_isPlausible wsX4_diagnoser := goodIn_r _ [10, 11, 12, 13, 14, 15, 16, 17, 18, 19, 20, 21, 22, 23, 24, 25, 26, 27, 28, 29, 30, 31, 32, 33, 34, 3, 35, 44, 45, 46, 47, 48, 49, 50, 51, 52, 53, 54, 55] (by decide +kernel) (by decide +kernel)
set_option maxRecDepth 20000 in
theorem gX4_isPlausible_X4_diagnoser : GoodIn wsX4_isPlausible (wsV RX4 137 RX4 yX4_diagnoser wsX4_diagnoser) := goodIn_app (goodIn_of _ (by decide +kernel)) ggX4_isPlausible_X4_diagnoser
set_option maxRecDepth 20000 in
theorem ggX4_isPlausible_X0_plausibleNodes : GoodIn wsX4_isPlausible wsX0_plausibleNodes := goodIn_r _ [39, 24, 44, 45, 46] (by decide +kernel) (by decide +kernel)
set_option maxRecDepth 20000 in
theorem gX4_isPlausible_X0_plausibleNodes : GoodIn wsX4_isPlausible (wsV RX4 141 RX0 yX0_plausibleNodes wsX0_plausibleNodes) := goodIn_app (goodIn_of _ (by decide +kernel)) ggX4_isPlausible_X0_plausibleNodes
set_option maxRecDepth 20000 in
theorem ggX4_isPlausible_X4_has : GoodIn wsX4_isPlausible wsX4_has := goodIn_r _ [42, 43, 34, 3, 35] (by decide +kernel) (by decide +kernel)
set_option maxRecDepth 20000 in
theorem gX4_isPlausible_X4_has : GoodIn wsX4_isPlausible (va_wsS RX4 45 yX4_has wsX4_has) := goodIn_app (goodIn_of _ (by decide +kernel)) ggX4_isPlausible_X4_has
set_option maxRecDepth 20000 in
theorem ggX4_causes_X4_diagnoser : GoodIn wsX4_causes wsX4_diagnoser := goodIn_r _ [5, 6, 7, 8, 9, 10, 11, 12, 13, 14, 15, 16, 17, 18, 19, 20, 21, 22, 23, 24, 25, 26, 27, 28, 29, 4, 30, 66, 67, 68, 69, 70, 71, 72, 73, 74, 75, 76, 77] (by decide +kernel) (by decide +kernel)
set_option maxRecDepth 20000 in
theorem gX4_causes_X4_diagnoser : GoodIn wsX4_causes (wsV RX4 137 RX4 yX4_diagnoser wsX4_diagnoser) := goodIn_app (goodIn_of _ (by decide +kernel)) ggX4_causes_X4_diagnoser
set_option maxRecDepth 20000 in
theorem ggX4_causes_X0_bestBySearch : GoodIn wsX4_causes wsX0_bestBySearch := goodIn_r _ [34, 18, 19, 35, 36, 8, 37, 17, 38, 4, 39, 40, 41, 42, 43, 29, 30, 44, 45, 46, 47, 48, 49, 50, 51, 52, 53, 54, 55, 56, 57, 26, 58, 59, 60, 61, 62, 63, 64, 66, 67, 68, 74, 75, 76, 77] (by decide +kernel) (by decide +kernel)
set_option maxRecDepth 20000 in
theorem gX4_causes_X0_bestBySearch : GoodIn wsX4_causes (wsV RX4 146 RX0 yX0_bestBySearch wsX0_bestBySearch) := goodIn_app (goodIn_of _ (by decide +kernel)) ggX4_causes_X0_bestBySearch
set_option maxRecDepth 20000 in
theorem ggX4_causes_J6_bitCount_0f7a4 : GoodIn wsX4_causes wsJ6_bitCount_0f7a4 := goodIn_r _ [51, 52, 53, 54] (by decide +kernel) (by decide +kernel)
set_option maxRecDepth 20000 in
theorem gX4_causes_J6_bitCount_0f7a4 : GoodIn wsX4_causes (va_wsS RX4 149 yJ6_bitCount_0f7a4 wsJ6_bitCount_0f7a4) := goodIn_app (goodIn_of _ (by decide +kernel)) ggX4_causes_J6_bitCount_0f7a4
set_option maxRecDepth 20000 in
theorem ggX4_cause_X4_diagnoser : GoodIn wsX4_cause wsX4_diagnoser := goodIn_r _ [5, 6, 7, 8, 9, 10, 11, 12, 13, 14, 15, 16, 17, 18, 19, 20, 21, 22, 23, 24, 25, 26, 27, 28, 29, 4, 30, 71, 72, 73, 74, 75, 76, 77, 78, 79, 80, 81, 82] (by decide +kernel) (by decide +kernel)
set_option maxRecDepth 20000 in
theorem gX4_cause_X4_diagnoser : GoodIn wsX4_cause (wsV RX4 137 RX4 yX4_diagnoser wsX4_diagnoser) := goodIn_app (goodIn_of _ (by decide +kernel)) ggX4_cause_X4_diagnoser
set_option maxRecDepth 20000 in
theorem ggX4_cause_X0_bestBySearch : GoodIn wsX4_cause wsX0_bestBySearch := goodIn_r _ [34, 18, 19, 35, 36, 8, 37, 17, 38, 4, 39, 40, 41, 42, 43, 29, 30, 44, 45, 46, 47, 48, 49, 50, 51, 52, 53, 54, 55, 56, 57, 26, 58, 59, 60, 61, 62, 63, 64, 71, 72, 73, 79, 80, 81, 82] (by decide +kernel) (by decide +kernel)
set_option maxRecDepth 20000 in
theorem gX4_cause_X0_bestBySearch : GoodIn wsX4_cause (wsV RX4 146 RX0 yX0_bestBySearch wsX0_bestBySearch) := goodIn_app (goodIn_of _ (by decide +kernel)) ggX4_cause_X0_bestBySearch
set_option maxRecDepth 20000 in
theorem ggX4_cause_X4_nodeThere : GoodIn wsX4_cause wsX4_nodeThere := goodIn_ca (goodIn_r _ [67, 68, 69, 70, 38, 4, 39, 40, 41, 42, 43, 29, 30] (by decide +kernel) (by decide +kernel)) (goodIn_sub (fun _ h => List.mem_cons_of_mem _ (List.mem_append_right _ h)) (by decide +kernel))
set_option maxRecDepth 20000 in
theorem gX4_cause_X4_nodeThere : GoodIn wsX4_cause (va_wsS RX4 154 yX4_nodeThere wsX4_nodeThere) := goodIn_app (goodIn_of _ (by decide +kernel)) ggX4_cause_X4_nodeThere
set_option maxRecDepth 20000 in
theorem ggX4_causeByTrying_X4_diagnoser : GoodIn wsX4_causeByTrying wsX4_diagnoser := goodIn_r _ [5, 6, 7, 8, 9, 10, 11, 12, 13, 14, 15, 16, 17, 18, 19, 20, 21, 22, 23, 24, 25, 26, 27, 28, 29, 4, 30, 67, 68, 69, 70, 71, 72, 73, 74, 75, 76, 77, 78] (by decide +kernel) (by decide +kernel)
set_option maxRecDepth 20000 in
theorem gX4_causeByTrying_X4_diagnoser : GoodIn wsX4_causeByTrying (wsV RX4 137 RX4 yX4_diagnoser wsX4_diagnoser) := goodIn_app (goodIn_of _ (by decide +kernel)) ggX4_causeByTrying_X4_diagnoser
set_option maxRecDepth 20000 in
theorem ggX4_causeByTrying_X0_bestByTrying : GoodIn wsX4_causeByTrying wsX0_bestByTrying := goodIn_r _ [34, 18, 19, 35, 36, 37, 38, 39, 40, 41, 42, 43, 44, 8, 45, 46, 4, 47, 48, 49, 50, 51, 29, 30, 52, 53, 54, 55, 17, 56, 57, 58, 26, 59, 60, 67, 68, 69, 75, 76, 77, 78] (by decide +kernel) (by decide +kernel)
set_option maxRecDepth 20000 in
theorem gX4_causeByTrying_X0_bestByTrying : GoodIn wsX4_causeByTrying (wsV RX4 157 RX0 yX0_bestByTrying wsX0_bestByTrying) := goodIn_app (goodIn_of _ (by decide +kernel)) ggX4_causeByTrying_X0_bestByTrying
set_option maxRecDepth 20000 in
theorem ggX4_causeByTrying_X4_nodeThere : GoodIn wsX4_causeByTrying wsX4_nodeThere := goodIn_ca (goodIn_r _ [63, 64, 65, 66, 46, 4, 47, 48, 49, 50, 51, 29, 30] (by decide +kernel) (by decide +kernel)) (goodIn_sub (fun _ h => List.mem_cons_of_mem _ (List.mem_append_right _ h)) (by decide +kernel))
set_option maxRecDepth 20000 in
theorem gX4_causeByTrying_X4_nodeThere : GoodIn wsX4_causeByTrying (va_wsS RX4 154 yX4_nodeThere wsX4_nodeThere) := goodIn_app (goodIn_of _ (by decide +kernel)) ggX4_causeByTrying_X4_nodeThere
set_option maxRecDepth 20000 in
theorem ggX4_greedyCauses_X4_diagnoser : GoodIn wsX4_greedyCauses wsX4_diagnoser := goodIn_r _ [5, 6, 7, 8, 9, 10, 11, 12, 13, 14, 15, 16, 17, 18, 19, 20, 21, 22, 23, 24, 25, 26, 27, 28, 29, 4, 30, 54, 55, 56, 57, 58, 59, 60, 61, 62, 63, 64, 65] (by decide +kernel) (by decide +kernel)
set_option maxRecDepth 20000 in
theorem gX4_greedyCauses_X4_diagnoser : GoodIn wsX4_greedyCauses (wsV RX4 137 RX4 yX4_diagnoser wsX4_diagnoser) := goodIn_app (goodIn_of _ (by decide +kernel)) ggX4_greedyCauses_X4_diagnoser
set_option maxRecDepth 20000 in
theorem ggX4_greedyCauses_X0_greedyCount : GoodIn wsX4_greedyCauses wsX0_greedyCount := goodIn_r _ [34, 18, 17, 35, 36, 37, 8, 38, 19, 39, 4, 40, 41, 29, 30, 42, 43, 44, 26, 45, 46, 47, 48, 49, 50, 51, 52, 53, 54, 55, 56, 62, 63, 64, 65] (by decide +kernel) (by decide +kernel)
set_option maxRecDepth 20000 in
theorem gX4_greedyCauses_X0_greedyCount : GoodIn wsX4_greedyCauses (wsV RX4 160 RX0 yX0_greedyCount wsX0_greedyCount) := goodIn_app (goodIn_of _ (by decide +kernel)) ggX4_greedyCauses_X0_greedyCount
set_option maxRecDepth 20000 in
theorem ggX4_greedyCause_X4_diagnoser : GoodIn wsX4_greedyCause wsX4_diagnoser := goodIn_r _ [7, 8, 9, 10, 11, 12, 13, 14, 15, 16, 17, 18, 19, 20, 21, 22, 23, 24, 25, 26, 27, 28, 29, 30, 31, 6, 32, 56, 57, 58, 59, 60, 61, 62, 63, 64, 65, 66, 67] (by decide +kernel) (by decide +kernel)
set_option maxRecDepth 20000 in
theorem gX4_greedyCause_X4_diagnoser : GoodIn wsX4_greedyCause (wsV RX4 137 RX4 yX4_diagnoser wsX4_diagnoser) := goodIn_app (goodIn_of _ (by decide +kernel)) ggX4_greedyCause_X4_diagnoser
set_option maxRecDepth 20000 in
theorem ggX4_greedyCause_X0_greedyAt : GoodIn wsX4_greedyCause wsX0_greedyAt := goodIn_r _ [36, 20, 19, 37, 38, 39, 10, 40, 21, 41, 6, 42, 43, 31, 32, 44, 45, 46, 28, 47, 48, 49, 50, 51, 52, 53, 54, 55, 56, 57, 58, 64, 65, 66, 67] (by decide +kernel) (by decide +kernel)
set_option maxRecDepth 20000 in
theorem gX4_greedyCause_X0_greedyAt : GoodIn wsX4_greedyCause (wsV RX4 163 RX0 yX0_greedyAt wsX0_greedyAt) := goodIn_app (goodIn_of _ (by decide +kernel)) ggX4_greedyCause_X0_greedyAt
set_option maxRecDepth 20000 in
theorem ggX4_causeOf_X4_checkNode : GoodIn wsX4_causeOf wsX4_checkNode := goodIn_ca (goodIn_r _ [6, 7, 8] (by decide +kernel) (by decide +kernel)) (goodIn_sub (fun _ h => List.mem_cons_of_mem _ (List.mem_append_right _ h)) (by decide +kernel))
set_option maxRecDepth 20000 in
theorem gX4_causeOf_X4_checkNode : GoodIn wsX4_causeOf (va_wsS RX4 37 yX4_checkNode wsX4_checkNode) := goodIn_app (goodIn_of _ (by decide +kernel)) ggX4_causeOf_X4_checkNode
set_option maxRecDepth 20000 in
theorem ggX4_causeOf_X4_has : GoodIn wsX4_causeOf wsX4_has := goodIn_r _ [11, 12, 13, 5, 14] (by decide +kernel) (by decide +kernel)
set_option maxRecDepth 20000 in
theorem gX4_causeOf_X4_has : GoodIn wsX4_causeOf (va_wsS RX4 45 yX4_has wsX4_has) := goodIn_app (goodIn_of _ (by decide +kernel)) ggX4_causeOf_X4_has
set_option maxRecDepth 20000 in
theorem ggX4_causeOf_X4_diagnoser : GoodIn wsX4_causeOf wsX4_diagnoser := goodIn_r _ [18, 19, 20, 21, 2, 1, 22, 23, 24, 25, 26, 27, 28, 29, 30, 31, 32, 33, 34, 35, 36, 37, 38, 39, 13, 5, 14, 77, 78, 79, 72, 73, 74, 75, 76, 80, 81, 82, 83] (by decide +kernel) (by decide +kernel)
set_option maxRecDepth 20000 in
theorem gX4_causeOf_X4_diagnoser : GoodIn wsX4_causeOf (wsV RX4 137 RX4 yX4_diagnoser wsX4_diagnoser) := goodIn_app (goodIn_of _ (by decide +kernel)) ggX4_causeOf_X4_diagnoser
set_option maxRecDepth 20000 in
theorem ggX4_causeOf_X0_bestBySearch : GoodIn wsX4_causeOf wsX0_bestBySearch := goodIn_r _ [43, 29, 30, 44, 45, 21, 46, 28, 47, 5, 48, 9, 10, 11, 12, 13, 14, 49, 50, 51, 52, 53, 54, 55, 56, 57, 58, 59, 60, 61, 62, 37, 63, 64, 65, 66, 67, 68, 69, 77, 78, 79, 80, 81, 82, 83] (by decide +kernel) (by decide +kernel)
set_option maxRecDepth 20000 in
theorem gX4_causeOf_X0_bestBySearch : GoodIn wsX4_causeOf (wsV RX4 146 RX0 yX0_bestBySearch wsX0_bestBySearch) := goodIn_app (goodIn_of _ (by decide +kernel)) ggX4_causeOf_X0_bestBySearch
set_option maxRecDepth 20000 in
theorem ggX4_causeOf_X1_explainersOf : GoodIn wsX4_causeOf wsX1_explainersOf := goodIn_r _ [63, 64, 13, 5, 14, 80, 81, 82, 83] (by decide +kernel) (by decide +kernel)
set_option maxRecDepth 20000 in
theorem gX4_causeOf_X1_explainersOf : GoodIn wsX4_causeOf (wsV RX4 171 RX1 yX1_explainersOf wsX1_explainersOf) := goodIn_app (goodIn_of _ (by decide +kernel)) ggX4_causeOf_X1_explainersOf
set_option maxRecDepth 20000 in
theorem ggX4_causeOf_X4_nodeAtPlace : GoodIn wsX4_causeOf wsX4_nodeAtPlace := goodIn_r _ [48, 9, 10, 5, 11, 12, 13, 14] (by decide +kernel) (by decide +kernel)
set_option maxRecDepth 20000 in
theorem gX4_causeOf_X4_nodeAtPlace : GoodIn wsX4_causeOf (va_wsS RX4 174 yX4_nodeAtPlace wsX4_nodeAtPlace) := goodIn_app (goodIn_of _ (by decide +kernel)) ggX4_causeOf_X4_nodeAtPlace
set_option maxRecDepth 20000 in
theorem ggX4_diagnoser_X0_init : GoodIn wsX4_diagnoser wsX0_init := goodIn_r _ [8, 9, 10, 11, 12, 13, 14, 15, 16, 3, 17, 18, 19, 20, 21, 22, 23, 24, 25, 26, 27, 28, 29, 35, 36, 37, 38] (by decide +kernel) (by decide +kernel)
set_option maxRecDepth 20000 in
theorem gX4_diagnoser_X0_init : GoodIn wsX4_diagnoser (wsX0_init) := ggX4_diagnoser_X0_init
set_option maxRecDepth 20000 in
theorem ggX4_checkChange_X2_isFull : GoodIn wsX4_checkChange wsX2_isFull := goodIn_r _ [8, 9, 15, 16, 17, 18, 19, 20] (by decide +kernel) (by decide +kernel)
set_option maxRecDepth 20000 in
theorem gX4_checkChange_X2_isFull : GoodIn wsX4_checkChange (wsV RX4 184 RX2 yX2_isFull wsX2_isFull) := goodIn_app (goodIn_of _ (by decide +kernel)) ggX4_checkChange_X2_isFull
set_option maxRecDepth 20000 in
theorem ggX4_nodeThere_X4_nodeAtPlace : GoodIn wsX4_nodeThere wsX4_nodeAtPlace := goodIn_r _ [6, 7, 8, 5, 9, 10, 11, 12] (by decide +kernel) (by decide +kernel)
set_option maxRecDepth 20000 in
theorem gX4_nodeThere_X4_nodeAtPlace : GoodIn wsX4_nodeThere (va_wsS RX4 174 yX4_nodeAtPlace wsX4_nodeAtPlace) := goodIn_app (goodIn_of _ (by decide +kernel)) ggX4_nodeThere_X4_nodeAtPlace
set_option maxRecDepth 20000 in
theorem ggX4_has_X4_only : GoodIn wsX4_has wsX4_only := goodIn_r _ [4] (by decide +kernel) (by decide +kernel)
set_option maxRecDepth 20000 in
theorem gX4_has_X4_only : GoodIn wsX4_has (va_wsS RX4 82 yX4_only wsX4_only) := goodIn_app (goodIn_of _ (by decide +kernel)) ggX4_has_X4_only
set_option maxRecDepth 20000 in
theorem ggX4_nodeAtPlace_X4_has : GoodIn wsX4_nodeAtPlace wsX4_has := goodIn_r _ [4, 5, 6, 3, 7] (by decide +kernel) (by decide +kernel)
set_option maxRecDepth 20000 in
theorem gX4_nodeAtPlace_X4_has : GoodIn wsX4_nodeAtPlace (va_wsS RX4 45 yX4_has wsX4_has) := goodIn_app (goodIn_of _ (by decide +kernel)) ggX4_nodeAtPlace_X4_has
set_option maxRecDepth 20000 in
theorem ggL_need_X4_need : GoodIn wsL_need wsX4_need := goodIn_ca (goodIn_ca (goodIn_r _ [7, 8, 9, 10, 11, 12, 6, 13, 14, 15, 16, 17, 18, 19, 20, 21, 22, 23, 24, 25, 26, 27, 28, 29, 30, 31, 32, 33, 34, 35, 36, 37, 38, 39, 40, 41, 42, 43, 44, 45, 46, 47, 48, 49, 50, 51, 52, 53] (by decide +kernel) (by decide +kernel)) (goodIn_sub (fun _ h => List.mem_cons_of_mem _ (List.mem_append_left _ (List.mem_append_right _ h))) (by decide +kernel))) (goodIn_sub (fun _ h => List.mem_cons_of_mem _ (List.mem_append_right _ h)) (by decide +kernel))
set_option maxRecDepth 20000 in
theorem gL_need_X4_need : GoodIn wsL_need (wsV RL 9 RX4 yX4_need wsX4_need) := goodIn_app (goodIn_of _ (by decide +kernel)) ggL_need_X4_need
set_option maxRecDepth 20000 in
theorem ggL_release_X4_release : GoodIn wsL_release wsX4_release := goodIn_ca (goodIn_r _ [6, 7, 8, 9, 5, 10, 11, 12, 13, 14, 15, 16, 17, 18, 19, 20, 21, 22, 23, 24, 25, 26, 27, 28, 29, 30, 31, 32, 33, 34, 35, 36, 37, 38, 39, 40, 41, 42, 43, 44, 45] (by decide +kernel) (by decide +kernel)) (goodIn_sub (fun _ h => List.mem_cons_of_mem _ (List.mem_append_right _ h)) (by decide +kernel))
set_option maxRecDepth 20000 in
theorem gL_release_X4_release : GoodIn wsL_release (wsV RL 19 RX4 yX4_release wsX4_release) := goodIn_app (goodIn_of _ (by decide +kernel)) ggL_release_X4_release
set_option maxRecDepth 20000 in
theorem ggL_needs_X4_needs : GoodIn wsL_needs wsX4_needs := goodIn_ca (goodIn_r _ [6, 7, 8, 9, 5, 10, 11, 12, 13, 14, 15, 16, 17, 18, 19, 20, 21, 22, 23, 24, 25, 26, 27, 28, 29, 30, 31, 32, 33] (by decide +kernel) (by decide +kernel)) (goodIn_sub (fun _ h => List.mem_cons_of_mem _ (List.mem_append_right _ h)) (by decide +kernel))
set_option maxRecDepth 20000 in
theorem gL_needs_X4_needs : GoodIn wsL_needs (wsV RL 22 RX4 yX4_needs wsX4_needs) := goodIn_app (goodIn_of _ (by decide +kernel)) ggL_needs_X4_needs
set_option maxRecDepth 20000 in
theorem ggL_depends_X4_dependsOn : GoodIn wsL_depends wsX4_dependsOn := goodIn_ca (goodIn_r _ [6, 7, 8, 9, 5, 10, 11, 12, 13, 14, 15, 16, 17, 18, 19, 20, 21, 22, 23, 24, 25, 26, 27, 28, 29, 30, 31, 32, 33] (by decide +kernel) (by decide +kernel)) (goodIn_sub (fun _ h => List.mem_cons_of_mem _ (List.mem_append_right _ h)) (by decide +kernel))
set_option maxRecDepth 20000 in
theorem gL_depends_X4_dependsOn : GoodIn wsL_depends (wsV RL 25 RX4 yX4_dependsOn wsX4_dependsOn) := goodIn_app (goodIn_of _ (by decide +kernel)) ggL_depends_X4_dependsOn
set_option maxRecDepth 20000 in
theorem ggL_height_X4_height : GoodIn wsL_height wsX4_height := goodIn_ca (goodIn_r _ [6, 7, 8, 9, 5, 10, 11, 12, 13, 14, 15, 16, 17, 18, 19, 20, 21, 22, 23, 24, 25, 26, 27, 28, 29, 30, 31, 32, 33, 34, 35] (by decide +kernel) (by decide +kernel)) (goodIn_sub (fun _ h => List.mem_cons_of_mem _ (List.mem_append_right _ h)) (by decide +kernel))
set_option maxRecDepth 20000 in
theorem gL_height_X4_height : GoodIn wsL_height (wsV RL 28 RX4 yX4_height wsX4_height) := goodIn_app (goodIn_of _ (by decide +kernel)) ggL_height_X4_height
set_option maxRecDepth 20000 in
theorem ggL_tick_X4_tick : GoodIn wsL_tick wsX4_tick := goodIn_ca (goodIn_r _ [6, 7, 8, 9, 5, 10, 11, 12, 13, 14, 15, 16, 17] (by decide +kernel) (by decide +kernel)) (goodIn_sub (fun _ h => List.mem_cons_of_mem _ (List.mem_append_right _ h)) (by decide +kernel))
