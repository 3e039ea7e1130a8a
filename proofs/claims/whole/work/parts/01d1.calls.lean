set_option maxRecDepth 20000 in
theorem ggX4_raise_X1_above : GoodIn wsX4_raise wsX1_above := goodIn_r _ [52, 53, 89, 90, 91, 92] (by decide +kernel) (by decide +kernel)
set_option maxRecDepth 20000 in
theorem gX4_raise_X1_above : GoodIn wsX4_raise (wsV RX4 79 RX1 yX1_above wsX1_above) := goodIn_app (goodIn_of _ (by decide +kernel)) ggX4_raise_X1_above
set_option maxRecDepth 20000 in
theorem ggX4_raise_X4_only : GoodIn wsX4_raise wsX4_only := goodIn_r _ [17] (by decide +kernel) (by decide +kernel)
set_option maxRecDepth 20000 in
theorem gX4_raise_X4_only : GoodIn wsX4_raise (va_wsS RX4 82 yX4_only wsX4_only) := goodIn_app (goodIn_of _ (by decide +kernel)) ggX4_raise_X4_only
set_option maxRecDepth 20000 in
theorem ggX4_raise_X3_join : GoodIn wsX4_raise wsX3_join := goodIn_r _ [58, 59, 60, 61, 62, 63, 57, 64, 65, 66, 67, 68, 13, 8, 14, 15, 16, 17, 69, 70, 71, 72, 73, 74, 75, 76, 77, 93, 94, 95] (by decide +kernel) (by decide +kernel)
set_option maxRecDepth 20000 in
theorem gX4_raise_X3_join : GoodIn wsX4_raise (wsV RX4 85 RX3 yX3_join wsX3_join) := goodIn_app (goodIn_of _ (by decide +kernel)) ggX4_raise_X3_join
set_option maxRecDepth 20000 in
theorem ggX4_clear_X4_checkNode : GoodIn wsX4_clear wsX4_checkNode := goodIn_ca (goodIn_r _ [8, 9, 10] (by decide +kernel) (by decide +kernel)) (goodIn_sub (fun _ h => List.mem_cons_of_mem _ (List.mem_append_left _ (List.mem_append_right _ h))) (by decide +kernel))
set_option maxRecDepth 20000 in
theorem gX4_clear_X4_checkNode : GoodIn wsX4_clear (va_wsS RX4 37 yX4_checkNode wsX4_checkNode) := goodIn_app (goodIn_of _ (by decide +kernel)) ggX4_clear_X4_checkNode
set_option maxRecDepth 20000 in
theorem ggX4_clear_X4_has : GoodIn wsX4_clear wsX4_has := goodIn_r _ [13, 14, 15, 7, 16] (by decide +kernel) (by decide +kernel)
set_option maxRecDepth 20000 in
theorem gX4_clear_X4_has : GoodIn wsX4_clear (va_wsS RX4 45 yX4_has wsX4_has) := goodIn_app (goodIn_of _ (by decide +kernel)) ggX4_clear_X4_has
set_option maxRecDepth 20000 in
theorem ggX4_clear_X4_checkChange : GoodIn wsX4_clear wsX4_checkChange := goodIn_ca (goodIn_r _ [20, 21, 22, 2, 23, 24, 25, 26, 27, 28, 58, 59, 60, 61, 62, 63, 64, 65, 66, 67, 68] (by decide +kernel) (by decide +kernel)) (goodIn_sub (fun _ h => List.mem_cons_of_mem _ (List.mem_append_right _ h)) (by decide +kernel))
set_option maxRecDepth 20000 in
theorem gX4_clear_X4_checkChange : GoodIn wsX4_clear (wsV RX4 72 RX4 yX4_checkChange wsX4_checkChange) := goodIn_app (goodIn_of _ (by decide +kernel)) ggX4_clear_X4_checkChange
set_option maxRecDepth 20000 in
theorem ggX4_clear_X2_addClear : GoodIn wsX4_clear wsX2_addClear := goodIn_r _ [32, 33, 34, 35, 36, 26, 37, 38, 28, 39, 40, 41, 63, 64, 65, 66, 67, 68] (by decide +kernel) (by decide +kernel)
set_option maxRecDepth 20000 in
theorem gX4_clear_X2_addClear : GoodIn wsX4_clear (wsV RX4 89 RX2 yX2_addClear wsX2_addClear) := goodIn_app (goodIn_of _ (by decide +kernel)) ggX4_clear_X2_addClear
set_option maxRecDepth 20000 in
theorem ggX4_clear_X4_only : GoodIn wsX4_clear wsX4_only := goodIn_r _ [16] (by decide +kernel) (by decide +kernel)
set_option maxRecDepth 20000 in
theorem gX4_clear_X4_only : GoodIn wsX4_clear (va_wsS RX4 82 yX4_only wsX4_only) := goodIn_app (goodIn_of _ (by decide +kernel)) ggX4_clear_X4_only
set_option maxRecDepth 20000 in
theorem ggX4_clear_X3_leave : GoodIn wsX4_clear wsX3_leave := goodIn_r _ [46, 47, 48, 49, 50, 45, 51, 52, 53, 54, 55, 56, 57, 69, 70, 71] (by decide +kernel) (by decide +kernel)
set_option maxRecDepth 20000 in
theorem gX4_clear_X3_leave : GoodIn wsX4_clear (wsV RX4 92 RX3 yX3_leave wsX3_leave) := goodIn_app (goodIn_of _ (by decide +kernel)) ggX4_clear_X3_leave
set_option maxRecDepth 20000 in
theorem ggX4_state_X4_checkNode : GoodIn wsX4_state wsX4_checkNode := goodIn_ca (goodIn_r _ [4, 5, 6] (by decide +kernel) (by decide +kernel)) (goodIn_sub (fun _ h => List.mem_cons_of_mem _ (List.mem_append_right _ h)) (by decide +kernel))
set_option maxRecDepth 20000 in
theorem gX4_state_X4_checkNode : GoodIn wsX4_state (va_wsS RX4 37 yX4_checkNode wsX4_checkNode) := goodIn_app (goodIn_of _ (by decide +kernel)) ggX4_state_X4_checkNode
set_option maxRecDepth 20000 in
theorem ggX4_state_X4_stateNow : GoodIn wsX4_state wsX4_stateNow := goodIn_r _ [10, 11, 12, 13, 14, 15, 16, 3, 17, 18, 19, 20, 21, 22, 23, 24, 25, 26, 27, 28, 29, 30, 31, 32, 33, 34, 35, 36, 37, 38, 39, 40, 41, 42, 43, 44, 45, 46, 47, 48, 49, 50] (by decide +kernel) (by decide +kernel)
set_option maxRecDepth 20000 in
theorem gX4_state_X4_stateNow : GoodIn wsX4_state (wsV RX4 95 RX4 yX4_stateNow wsX4_stateNow) := goodIn_app (goodIn_of _ (by decide +kernel)) ggX4_state_X4_stateNow
set_option maxRecDepth 20000 in
theorem ggX4_nodesThatAre_X4_stateNow : GoodIn wsX4_nodesThatAre wsX4_stateNow := goodIn_r _ [7, 8, 9, 10, 11, 12, 13, 6, 14, 15, 16, 17, 18, 19, 20, 21, 22, 23, 24, 25, 26, 27, 28, 29, 30, 31, 32, 33, 34, 35, 36, 37, 38, 39, 40, 41, 42, 43, 44, 45, 46, 47] (by decide +kernel) (by decide +kernel)
set_option maxRecDepth 20000 in
theorem gX4_nodesThatAre_X4_stateNow : GoodIn wsX4_nodesThatAre (wsV RX4 95 RX4 yX4_stateNow wsX4_stateNow) := goodIn_app (goodIn_of _ (by decide +kernel)) ggX4_nodesThatAre_X4_stateNow
set_option maxRecDepth 20000 in
theorem ggX4_raises_X4_checkNode : GoodIn wsX4_raises wsX4_checkNode := goodIn_ca (goodIn_r _ [6, 7, 8] (by decide +kernel) (by decide +kernel)) (goodIn_sub (fun _ h => List.mem_cons_of_mem _ (List.mem_append_left _ (List.mem_append_right _ h))) (by decide +kernel))
set_option maxRecDepth 20000 in
theorem gX4_raises_X4_checkNode : GoodIn wsX4_raises (va_wsS RX4 37 yX4_checkNode wsX4_checkNode) := goodIn_app (goodIn_of _ (by decide +kernel)) ggX4_raises_X4_checkNode
set_option maxRecDepth 20000 in
theorem ggX4_raises_X4_checkTicks : GoodIn wsX4_raises wsX4_checkTicks := goodIn_ca (goodIn_r _ [11, 12, 13] (by decide +kernel) (by decide +kernel)) (goodIn_sub (fun _ h => List.mem_cons_of_mem _ (List.mem_append_right _ h)) (by decide +kernel))
set_option maxRecDepth 20000 in
theorem gX4_raises_X4_checkTicks : GoodIn wsX4_raises (va_wsS RX4 68 yX4_checkTicks wsX4_checkTicks) := goodIn_app (goodIn_of _ (by decide +kernel)) ggX4_raises_X4_checkTicks
set_option maxRecDepth 20000 in
theorem ggX4_raises_X2_raisesAfter : GoodIn wsX4_raises wsX2_raisesAfter := goodIn_r _ [18, 19, 20, 21, 22, 28, 29, 30, 31, 32, 33] (by decide +kernel) (by decide +kernel)
set_option maxRecDepth 20000 in
theorem gX4_raises_X2_raisesAfter : GoodIn wsX4_raises (wsV RX4 100 RX2 yX2_raisesAfter wsX2_raisesAfter) := goodIn_app (goodIn_of _ (by decide +kernel)) ggX4_raises_X2_raisesAfter
set_option maxRecDepth 20000 in
theorem ggX4_stateNow_X4_has : GoodIn wsX4_stateNow wsX4_has := goodIn_r _ [8, 9, 10, 7, 11] (by decide +kernel) (by decide +kernel)
set_option maxRecDepth 20000 in
theorem gX4_stateNow_X4_has : GoodIn wsX4_stateNow (va_wsS RX4 45 yX4_has wsX4_has) := goodIn_app (goodIn_of _ (by decide +kernel)) ggX4_stateNow_X4_has
set_option maxRecDepth 20000 in
theorem ggX4_stateNow_X2_raisesAfter : GoodIn wsX4_stateNow wsX2_raisesAfter := goodIn_r _ [16, 17, 18, 19, 20, 32, 33, 34, 35, 36, 37] (by decide +kernel) (by decide +kernel)
set_option maxRecDepth 20000 in
theorem gX4_stateNow_X2_raisesAfter : GoodIn wsX4_stateNow (wsV RX4 100 RX2 yX2_raisesAfter wsX2_raisesAfter) := goodIn_app (goodIn_of _ (by decide +kernel)) ggX4_stateNow_X2_raisesAfter
set_option maxRecDepth 20000 in
theorem ggX4_stateNow_X1_below : GoodIn wsX4_stateNow wsX1_below := goodIn_r _ [25, 26, 38, 39, 40, 41] (by decide +kernel) (by decide +kernel)
set_option maxRecDepth 20000 in
theorem gX4_stateNow_X1_below : GoodIn wsX4_stateNow (wsV RX4 41 RX1 yX1_below wsX1_below) := goodIn_app (goodIn_of _ (by decide +kernel)) ggX4_stateNow_X1_below
set_option maxRecDepth 20000 in
theorem ggX4_events_X2_count : GoodIn wsX4_events wsX2_count := goodIn_r _ [6, 7, 13, 14, 15, 16, 17, 18] (by decide +kernel) (by decide +kernel)
set_option maxRecDepth 20000 in
theorem gX4_events_X2_count : GoodIn wsX4_events (wsV RX4 103 RX2 yX2_count wsX2_count) := goodIn_app (goodIn_of _ (by decide +kernel)) ggX4_events_X2_count
set_option maxRecDepth 20000 in
theorem ggX4_eventKind_X4_checkEvent : GoodIn wsX4_eventKind wsX4_checkEvent := goodIn_ca (goodIn_r _ [6, 7, 8, 1, 9, 10, 11, 12, 13, 14, 20, 21, 22, 23, 24, 25, 26, 27, 28, 29, 30] (by decide +kernel) (by decide +kernel)) (goodIn_sub (fun _ h => List.mem_cons_of_mem _ (List.mem_append_right _ h)) (by decide +kernel))
set_option maxRecDepth 20000 in
theorem gX4_eventKind_X4_checkEvent : GoodIn wsX4_eventKind (wsV RX4 107 RX4 yX4_checkEvent wsX4_checkEvent) := goodIn_app (goodIn_of _ (by decide +kernel)) ggX4_eventKind_X4_checkEvent
set_option maxRecDepth 20000 in
theorem ggX4_eventKind_X2_kindAt : GoodIn wsX4_eventKind wsX2_kindAt := goodIn_r _ [18, 19, 25, 26, 27, 28, 29, 30] (by decide +kernel) (by decide +kernel)
set_option maxRecDepth 20000 in
theorem gX4_eventKind_X2_kindAt : GoodIn wsX4_eventKind (wsV RX4 110 RX2 yX2_kindAt wsX2_kindAt) := goodIn_app (goodIn_of _ (by decide +kernel)) ggX4_eventKind_X2_kindAt
set_option maxRecDepth 20000 in
theorem ggX4_eventNode_X4_checkEvent : GoodIn wsX4_eventNode wsX4_checkEvent := goodIn_ca (goodIn_r _ [6, 7, 8, 1, 9, 10, 11, 12, 13, 14, 20, 21, 22, 23, 24, 25, 26, 27, 28, 29, 30] (by decide +kernel) (by decide +kernel)) (goodIn_sub (fun _ h => List.mem_cons_of_mem _ (List.mem_append_right _ h)) (by decide +kernel))
set_option maxRecDepth 20000 in
theorem gX4_eventNode_X4_checkEvent : GoodIn wsX4_eventNode (wsV RX4 107 RX4 yX4_checkEvent wsX4_checkEvent) := goodIn_app (goodIn_of _ (by decide +kernel)) ggX4_eventNode_X4_checkEvent
set_option maxRecDepth 20000 in
theorem ggX4_eventNode_X2_nodeAt : GoodIn wsX4_eventNode wsX2_nodeAt := goodIn_r _ [18, 19, 25, 26, 27, 28, 29, 30] (by decide +kernel) (by decide +kernel)
set_option maxRecDepth 20000 in
theorem gX4_eventNode_X2_nodeAt : GoodIn wsX4_eventNode (wsV RX4 113 RX2 yX2_nodeAt wsX2_nodeAt) := goodIn_app (goodIn_of _ (by decide +kernel)) ggX4_eventNode_X2_nodeAt
set_option maxRecDepth 20000 in
theorem ggX4_eventTime_X4_checkEvent : GoodIn wsX4_eventTime wsX4_checkEvent := goodIn_ca (goodIn_r _ [6, 7, 8, 1, 9, 10, 11, 12, 13, 14, 20, 21, 22, 23, 24, 25, 26, 27, 28, 29, 30] (by decide +kernel) (by decide +kernel)) (goodIn_sub (fun _ h => List.mem_cons_of_mem _ (List.mem_append_right _ h)) (by decide +kernel))
set_option maxRecDepth 20000 in
theorem gX4_eventTime_X4_checkEvent : GoodIn wsX4_eventTime (wsV RX4 107 RX4 yX4_checkEvent wsX4_checkEvent) := goodIn_app (goodIn_of _ (by decide +kernel)) ggX4_eventTime_X4_checkEvent
set_option maxRecDepth 20000 in
theorem ggX4_eventTime_X2_timeAt : GoodIn wsX4_eventTime wsX2_timeAt := goodIn_r _ [18, 19, 25, 26, 27, 28, 29, 30] (by decide +kernel) (by decide +kernel)
set_option maxRecDepth 20000 in
theorem gX4_eventTime_X2_timeAt : GoodIn wsX4_eventTime (wsV RX4 116 RX2 yX2_timeAt wsX2_timeAt) := goodIn_app (goodIn_of _ (by decide +kernel)) ggX4_eventTime_X2_timeAt
set_option maxRecDepth 20000 in
theorem ggX4_eventLength_X4_checkEvent : GoodIn wsX4_eventLength wsX4_checkEvent := goodIn_ca (goodIn_r _ [6, 7, 8, 1, 9, 10, 11, 12, 13, 14, 20, 21, 22, 23, 24, 25, 26, 27, 28, 29, 30] (by decide +kernel) (by decide +kernel)) (goodIn_sub (fun _ h => List.mem_cons_of_mem _ (List.mem_append_right _ h)) (by decide +kernel))
set_option maxRecDepth 20000 in
theorem gX4_eventLength_X4_checkEvent : GoodIn wsX4_eventLength (wsV RX4 107 RX4 yX4_checkEvent wsX4_checkEvent) := goodIn_app (goodIn_of _ (by decide +kernel)) ggX4_eventLength_X4_checkEvent
set_option maxRecDepth 20000 in
theorem ggX4_eventLength_X2_lengthAt : GoodIn wsX4_eventLength wsX2_lengthAt := goodIn_r _ [18, 19, 25, 26, 27, 28, 29, 30] (by decide +kernel) (by decide +kernel)
set_option maxRecDepth 20000 in
theorem gX4_eventLength_X2_lengthAt : GoodIn wsX4_eventLength (wsV RX4 119 RX2 yX2_lengthAt wsX2_lengthAt) := goodIn_app (goodIn_of _ (by decide +kernel)) ggX4_eventLength_X2_lengthAt
set_option maxRecDepth 20000 in
theorem ggX4_openTickets_X3_countOpen : GoodIn wsX4_openTickets wsX3_countOpen := goodIn_r _ [6, 7, 8, 9, 10, 5, 11, 12, 13, 14, 15, 16, 17, 18, 19, 20, 21, 27, 28, 29] (by decide +kernel) (by decide +kernel)
set_option maxRecDepth 20000 in
theorem gX4_openTickets_X3_countOpen : GoodIn wsX4_openTickets (wsV RX4 122 RX3 yX3_countOpen wsX3_countOpen) := goodIn_app (goodIn_of _ (by decide +kernel)) ggX4_openTickets_X3_countOpen
set_option maxRecDepth 20000 in
theorem ggX4_ticketOf_X4_checkNode : GoodIn wsX4_ticketOf wsX4_checkNode := goodIn_ca (goodIn_r _ [5, 6, 7] (by decide +kernel) (by decide +kernel)) (goodIn_sub (fun _ h => List.mem_cons_of_mem _ (List.mem_append_right _ h)) (by decide +kernel))
set_option maxRecDepth 20000 in
theorem gX4_ticketOf_X4_checkNode : GoodIn wsX4_ticketOf (va_wsS RX4 37 yX4_checkNode wsX4_checkNode) := goodIn_app (goodIn_of _ (by decide +kernel)) ggX4_ticketOf_X4_checkNode
set_option maxRecDepth 20000 in
theorem ggX4_ticketOf_X3_numberOf : GoodIn wsX4_ticketOf wsX3_numberOf := goodIn_r _ [12, 13, 19, 20, 21] (by decide +kernel) (by decide +kernel)
set_option maxRecDepth 20000 in
theorem gX4_ticketOf_X3_numberOf : GoodIn wsX4_ticketOf (wsV RX4 125 RX3 yX3_numberOf wsX3_numberOf) := goodIn_app (goodIn_of _ (by decide +kernel)) ggX4_ticketOf_X3_numberOf
set_option maxRecDepth 20000 in
theorem ggX4_ticketState_X3_stateOf : GoodIn wsX4_ticketState wsX3_stateOf := goodIn_r _ [6, 7, 8, 9, 10, 5, 11, 12, 13, 14, 15, 16, 17, 23, 24, 25] (by decide +kernel) (by decide +kernel)
set_option maxRecDepth 20000 in
theorem gX4_ticketState_X3_stateOf : GoodIn wsX4_ticketState (wsV RX4 128 RX3 yX3_stateOf wsX3_stateOf) := goodIn_app (goodIn_of _ (by decide +kernel)) ggX4_ticketState_X3_stateOf
set_option maxRecDepth 20000 in
theorem ggX4_ticketSize_X3_sizeOf : GoodIn wsX4_ticketSize wsX3_sizeOf := goodIn_r _ [6, 7, 8, 9, 10, 5, 11, 12, 13, 19, 20, 21] (by decide +kernel) (by decide +kernel)
set_option maxRecDepth 20000 in
theorem gX4_ticketSize_X3_sizeOf : GoodIn wsX4_ticketSize (wsV RX4 131 RX3 yX3_sizeOf wsX3_sizeOf) := goodIn_app (goodIn_of _ (by decide +kernel)) ggX4_ticketSize_X3_sizeOf
set_option maxRecDepth 20000 in
theorem ggX4_mergedInto_X3_targetOf : GoodIn wsX4_mergedInto wsX3_targetOf := goodIn_r _ [6, 7, 8, 9, 10, 5, 11, 12, 18, 19, 20] (by decide +kernel) (by decide +kernel)
set_option maxRecDepth 20000 in
theorem gX4_mergedInto_X3_targetOf : GoodIn wsX4_mergedInto (wsV RX4 134 RX3 yX3_targetOf wsX3_targetOf) := goodIn_app (goodIn_of _ (by decide +kernel)) ggX4_mergedInto_X3_targetOf
set_option maxRecDepth 20000 in
theorem ggX4_isPlausible_X4_checkNode : GoodIn wsX4_isPlausible wsX4_checkNode := goodIn_ca (goodIn_r _ [4, 5, 6] (by decide +kernel) (by decide +kernel)) (goodIn_sub (fun _ h => List.mem_cons_of_mem _ (List.mem_append_right _ h)) (by decide +kernel))
set_option maxRecDepth 20000 in
theorem gX4_isPlausible_X4_checkNode : GoodIn wsX4_isPlausible (va_wsS RX4 37 yX4_checkNode wsX4_checkNode) := goodIn_app (goodIn_of _ (by decide +kernel)) ggX4_isPlausible_X4_checkNode
set_option maxRecDepth 20000 in
theorem ggX4_isPlausible_X4_diagnoser : GoodIn wsX4_isPlausible wsX4_diagnoser := goodIn_r _ [10, 11, 12, 13, 14, 15, 16, 17, 18, 19, 20, 21, 22, 23, 24, 25, 26, 27, 28, 29, 30, 31, 32, 33, 34, 3, 35, 44, 45, 46, 47, 48, 49, 50, 51, 52, 53, 54, 55] (by decide +kernel) (by decide +kernel)
set_option maxRecDepth 20000 in
theorem gX4_isPlausible_X4_diagnoser : GoodIn wsX4_isPlausible (wsV RX4 137 RX4 yX4_diagnoser wsX4_diagnoser) := goodIn_app (goodIn_of _ (by decide +kernel)) ggX4_isPlausible_X4_diagnoser
set_option maxRecDepth 20000 in
theorem ggX4_isPlausible_X0_plausibleNodes : GoodIn wsX4_isPlausible wsX0_plausibleNodes := goodIn_r _ [39, 24, 44, 45, 46] (by decide +kernel) (by decide +kernel)
set_option maxRecDepth 20000 in
theorem gX4_isPlausible_X0_plausibleNodes : GoodIn wsX4_isPlausible (wsV RX4 141 RX0 yX0_plausibleNodes wsX0_plausibleNodes) := goodIn_app (goodIn_of _ (by decide +kernel)) ggX4_isPlausible_X0_plausibleNodes
set_option maxRecDepth 20000 in
theorem ggX4_isPlausible_X4_has : GoodIn wsX4_isPlausible wsX4_has := goodIn_r _ [42, 43, 34, 3, 35] (by decide +kernel) (by decide +kernel)
set_option maxRecDepth 20000 in
theorem gX4_isPlausible_X4_has : GoodIn wsX4_isPlausible (va_wsS RX4 45 yX4_has wsX4_has) := goodIn_app (goodIn_of _ (by decide +kernel)) ggX4_isPlausible_X4_has
set_option maxRecDepth 20000 in
theorem ggX4_causes_X4_diagnoser : GoodIn wsX4_causes wsX4_diagnoser := goodIn_r _ [5, 6, 7, 8, 9, 10, 11, 12, 13, 14, 15, 16, 17, 18, 19, 20, 21, 22, 23, 24, 25, 26, 27, 28, 29, 4, 30, 66, 67, 68, 69, 70, 71, 72, 73, 74, 75, 76, 77] (by decide +kernel) (by decide +kernel)
set_option maxRecDepth 20000 in
theorem gX4_causes_X4_diagnoser : GoodIn wsX4_causes (wsV RX4 137 RX4 yX4_diagnoser wsX4_diagnoser) := goodIn_app (goodIn_of _ (by decide +kernel)) ggX4_causes_X4_diagnoser
set_option maxRecDepth 20000 in
theorem ggX4_causes_X0_bestBySearch : GoodIn wsX4_causes wsX0_bestBySearch := goodIn_r _ [34, 18, 19, 35, 36, 8, 37, 17, 38, 4, 39, 40, 41, 42, 43, 29, 30, 44, 45, 46, 47, 48, 49, 50, 51, 52, 53, 54, 55, 56, 57, 26, 58, 59, 60, 61, 62, 63, 64, 66, 67, 68, 74, 75, 76, 77] (by decide +kernel) (by decide +kernel)
set_option maxRecDepth 20000 in
theorem gX4_causes_X0_bestBySearch : GoodIn wsX4_causes (wsV RX4 146 RX0 yX0_bestBySearch wsX0_bestBySearch) := goodIn_app (goodIn_of _ (by decide +kernel)) ggX4_causes_X0_bestBySearch
set_option maxRecDepth 20000 in
theorem ggX4_causes_J6_bitCount_0f7a4 : GoodIn wsX4_causes wsJ6_bitCount_0f7a4 := goodIn_r _ [51, 52, 53, 54] (by decide +kernel) (by decide +kernel)
set_option maxRecDepth 20000 in
theorem gX4_causes_J6_bitCount_0f7a4 : GoodIn wsX4_causes (va_wsS RX4 149 yJ6_bitCount_0f7a4 wsJ6_bitCount_0f7a4) := goodIn_app (goodIn_of _ (by decide +kernel)) ggX4_causes_J6_bitCount_0f7a4
set_option maxRecDepth 20000 in
theorem ggX4_cause_X4_diagnoser : GoodIn wsX4_cause wsX4_diagnoser := goodIn_r _ [5, 6, 7, 8, 9, 10, 11, 12, 13, 14, 15, 16, 17, 18, 19, 20, 21, 22, 23, 24, 25, 26, 27, 28, 29, 4, 30, 71, 72, 73, 74, 75, 76, 77, 78, 79, 80, 81, 82] (by decide +kernel) (by decide +kernel)
set_option maxRecDepth 20000 in
theorem gX4_cause_X4_diagnoser : GoodIn wsX4_cause (wsV RX4 137 RX4 yX4_diagnoser wsX4_diagnoser) := goodIn_app (goodIn_of _ (by decide +kernel)) ggX4_cause_X4_diagnoser
set_option maxRecDepth 20000 in
theorem ggX4_cause_X0_bestBySearch : GoodIn wsX4_cause wsX0_bestBySearch := goodIn_r _ [34, 18, 19, 35, 36, 8, 37, 17, 38, 4, 39, 40, 41, 42, 43, 29, 30, 44, 45, 46, 47, 48, 49, 50, 51, 52, 53, 54, 55, 56, 57, 26, 58, 59, 60, 61, 62, 63, 64, 71, 72, 73, 79, 80, 81, 82] (by decide +kernel) (by decide +kernel)
set_option maxRecDepth 20000 in
theorem gX4_cause_X0_bestBySearch : GoodIn wsX4_cause (wsV RX4 146 RX0 yX0_bestBySearch wsX0_bestBySearch) := goodIn_app (goodIn_of _ (by decide +kernel)) ggX4_cause_X0_bestBySearch
set_option maxRecDepth 20000 in
theorem ggX4_cause_X4_nodeThere : GoodIn wsX4_cause wsX4_nodeThere := goodIn_ca (goodIn_r _ [67, 68, 69, 70, 38, 4, 39, 40, 41, 42, 43, 29, 30] (by decide +kernel) (by decide +kernel)) (goodIn_sub (fun _ h => List.mem_cons_of_mem _ (List.mem_append_right _ h)) (by decide +kernel))
set_option maxRecDepth 20000 in
theorem gX4_cause_X4_nodeThere : GoodIn wsX4_cause (va_wsS RX4 154 yX4_nodeThere wsX4_nodeThere) := goodIn_app (goodIn_of _ (by decide +kernel)) ggX4_cause_X4_nodeThere
set_option maxRecDepth 20000 in
theorem ggX4_causeByTrying_X4_diagnoser : GoodIn wsX4_causeByTrying wsX4_diagnoser := goodIn_r _ [5, 6, 7, 8, 9, 10, 11, 12, 13, 14, 15, 16, 17, 18, 19, 20, 21, 22, 23, 24, 25, 26, 27, 28, 29, 4, 30, 67, 68, 69, 70, 71, 72, 73, 74, 75, 76, 77, 78] (by decide +kernel) (by decide +kernel)
set_option maxRecDepth 20000 in
theorem gX4_causeByTrying_X4_diagnoser : GoodIn wsX4_causeByTrying (wsV RX4 137 RX4 yX4_diagnoser wsX4_diagnoser) := goodIn_app (goodIn_of _ (by decide +kernel)) ggX4_causeByTrying_X4_diagnoser
set_option maxRecDepth 20000 in
theorem ggX4_causeByTrying_X0_bestByTrying : GoodIn wsX4_causeByTrying wsX0_bestByTrying := goodIn_r _ [34, 18, 19, 35, 36, 37, 38, 39, 40, 41, 42, 43, 44, 8, 45, 46, 4, 47, 48, 49, 50, 51, 29, 30, 52, 53, 54, 55, 17, 56, 57, 58, 26, 59, 60, 67, 68, 69, 75, 76, 77, 78] (by decide +kernel) (by decide +kernel)
set_option maxRecDepth 20000 in
theorem gX4_causeByTrying_X0_bestByTrying : GoodIn wsX4_causeByTrying (wsV RX4 157 RX0 yX0_bestByTrying wsX0_bestByTrying) := goodIn_app (goodIn_of _ (by decide +kernel)) ggX4_causeByTrying_X0_bestByTrying
set_option maxRecDepth 20000 in
theorem ggX4_causeByTrying_X4_nodeThere : GoodIn wsX4_causeByTrying wsX4_nodeThere := goodIn_ca (goodIn_r _ [63, 64, 65, 66, 46, 4, 47, 48, 49, 50, 51, 29, 30] (by decide +kernel) (by decide +kernel)) (goodIn_sub (fun _ h => List.mem_cons_of_mem _ (List.mem_append_right _ h)) (by decide +kernel))
set_option maxRecDepth 20000 in
theorem gX4_causeByTrying_X4_nodeThere : GoodIn wsX4_causeByTrying (va_wsS RX4 154 yX4_nodeThere wsX4_nodeThere) := goodIn_app (goodIn_of _ (by decide +kernel)) ggX4_causeByTrying_X4_nodeThere
set_option maxRecDepth 20000 in
theorem ggX4_greedyCauses_X4_diagnoser : GoodIn wsX4_greedyCauses wsX4_diagnoser := goodIn_r _ [5, 6, 7, 8, 9, 10, 11, 12, 13, 14, 15, 16, 17, 18, 19, 20, 21, 22, 23, 24, 25, 26, 27, 28, 29, 4, 30, 54, 55, 56, 57, 58, 59, 60, 61, 62, 63, 64, 65] (by decide +kernel) (by decide +kernel)
set_option maxRecDepth 20000 in
theorem gX4_greedyCauses_X4_diagnoser : GoodIn wsX4_greedyCauses (wsV RX4 137 RX4 yX4_diagnoser wsX4_diagnoser) := goodIn_app (goodIn_of _ (by decide +kernel)) ggX4_greedyCauses_X4_diagnoser
set_option maxRecDepth 20000 in
theorem ggX4_greedyCauses_X0_greedyCount : GoodIn wsX4_greedyCauses wsX0_greedyCount := goodIn_r _ [34, 18, 17, 35, 36, 37, 8, 38, 19, 39, 4, 40, 41, 29, 30, 42, 43, 44, 26, 45, 46, 47, 48, 49, 50, 51, 52, 53, 54, 55, 56, 62, 63, 64, 65] (by decide +kernel) (by decide +kernel)
set_option maxRecDepth 20000 in
theorem gX4_greedyCauses_X0_greedyCount : GoodIn wsX4_greedyCauses (wsV RX4 160 RX0 yX0_greedyCount wsX0_greedyCount) := goodIn_app (goodIn_of _ (by decide +kernel)) ggX4_greedyCauses_X0_greedyCount
set_option maxRecDepth 20000 in
theorem ggX4_greedyCause_X4_diagnoser : GoodIn wsX4_greedyCause wsX4_diagnoser := goodIn_r _ [7, 8, 9, 10, 11, 12, 13, 14, 15, 16, 17, 18, 19, 20, 21, 22, 23, 24, 25, 26, 27, 28, 29, 30, 31, 6, 32, 56, 57, 58, 59, 60, 61, 62, 63, 64, 65, 66, 67] (by decide +kernel) (by decide +kernel)
set_option maxRecDepth 20000 in
theorem gX4_greedyCause_X4_diagnoser : GoodIn wsX4_greedyCause (wsV RX4 137 RX4 yX4_diagnoser wsX4_diagnoser) := goodIn_app (goodIn_of _ (by decide +kernel)) ggX4_greedyCause_X4_diagnoser
set_option maxRecDepth 20000 in
theorem ggX4_greedyCause_X0_greedyAt : GoodIn wsX4_greedyCause wsX0_greedyAt := goodIn_r _ [36, 20, 19, 37, 38, 39, 10, 40, 21, 41, 6, 42, 43, 31, 32, 44, 45, 46, 28, 47, 48, 49, 50, 51, 52, 53, 54, 55, 56, 57, 58, 64, 65, 66, 67] (by decide +kernel) (by decide +kernel)
set_option maxRecDepth 20000 in
theorem gX4_greedyCause_X0_greedyAt : GoodIn wsX4_greedyCause (wsV RX4 163 RX0 yX0_greedyAt wsX0_greedyAt) := goodIn_app (goodIn_of _ (by decide +kernel)) ggX4_greedyCause_X0_greedyAt
set_option maxRecDepth 20000 in
theorem ggX4_causeOf_X4_checkNode : GoodIn wsX4_causeOf wsX4_checkNode := goodIn_ca (goodIn_r _ [6, 7, 8] (by decide +kernel) (by decide +kernel)) (goodIn_sub (fun _ h => List.mem_cons_of_mem _ (List.mem_append_right _ h)) (by decide +kernel))
set_option maxRecDepth 20000 in
theorem gX4_causeOf_X4_checkNode : GoodIn wsX4_causeOf (va_wsS RX4 37 yX4_checkNode wsX4_checkNode) := goodIn_app (goodIn_of _ (by decide +kernel)) ggX4_causeOf_X4_checkNode
set_option maxRecDepth 20000 in
theorem ggX4_causeOf_X4_has : GoodIn wsX4_causeOf wsX4_has := goodIn_r _ [11, 12, 13, 5, 14] (by decide +kernel) (by decide +kernel)
set_option maxRecDepth 20000 in
theorem gX4_causeOf_X4_has : GoodIn wsX4_causeOf (va_wsS RX4 45 yX4_has wsX4_has) := goodIn_app (goodIn_of _ (by decide +kernel)) ggX4_causeOf_X4_has
set_option maxRecDepth 20000 in
theorem ggX4_causeOf_X4_diagnoser : GoodIn wsX4_causeOf wsX4_diagnoser := goodIn_r _ [18, 19, 20, 21, 2, 1, 22, 23, 24, 25, 26, 27, 28, 29, 30, 31, 32, 33, 34, 35, 36, 37, 38, 39, 13, 5, 14, 77, 78, 79, 72, 73, 74, 75, 76, 80, 81, 82, 83] (by decide +kernel) (by decide +kernel)
set_option maxRecDepth 20000 in
theorem gX4_causeOf_X4_diagnoser : GoodIn wsX4_causeOf (wsV RX4 137 RX4 yX4_diagnoser wsX4_diagnoser) := goodIn_app (goodIn_of _ (by decide +kernel)) ggX4_causeOf_X4_diagnoser
set_option maxRecDepth 20000 in
theorem ggX4_causeOf_X0_bestBySearch : GoodIn wsX4_causeOf wsX0_bestBySearch := goodIn_r _ [43, 29, 30, 44, 45, 21, 46, 28, 47, 5, 48, 9, 10, 11, 12, 13, 14, 49, 50, 51, 52, 53, 54, 55, 56, 57, 58, 59, 60, 61, 62, 37, 63, 64, 65, 66, 67, 68, 69, 77, 78, 79, 80, 81, 82, 83] (by decide +kernel) (by decide +kernel)
set_option maxRecDepth 20000 in
theorem gX4_causeOf_X0_bestBySearch : GoodIn wsX4_causeOf (wsV RX4 146 RX0 yX0_bestBySearch wsX0_bestBySearch) := goodIn_app (goodIn_of _ (by decide +kernel)) ggX4_causeOf_X0_bestBySearch
set_option maxRecDepth 20000 in
theorem ggX4_causeOf_X1_explainersOf : GoodIn wsX4_causeOf wsX1_explainersOf := goodIn_r _ [63, 64, 13, 5, 14, 80, 81, 82, 83] (by decide +kernel) (by decide +kernel)
set_option maxRecDepth 20000 in
theorem gX4_causeOf_X1_explainersOf : GoodIn wsX4_causeOf (wsV RX4 171 RX1 yX1_explainersOf wsX1_explainersOf) := goodIn_app (goodIn_of _ (by decide +kernel)) ggX4_causeOf_X1_explainersOf
set_option maxRecDepth 20000 in
theorem ggX4_causeOf_X4_nodeAtPlace : GoodIn wsX4_causeOf wsX4_nodeAtPlace := goodIn_r _ [48, 9, 10, 5, 11, 12, 13, 14] (by decide +kernel) (by decide +kernel)
set_option maxRecDepth 20000 in
theorem gX4_causeOf_X4_nodeAtPlace : GoodIn wsX4_causeOf (va_wsS RX4 174 yX4_nodeAtPlace wsX4_nodeAtPlace) := goodIn_app (goodIn_of _ (by decide +kernel)) ggX4_causeOf_X4_nodeAtPlace
set_option maxRecDepth 20000 in
theorem ggX4_diagnoser_X0_init : GoodIn wsX4_diagnoser wsX0_init := goodIn_r _ [8, 9, 10, 11, 12, 13, 14, 15, 16, 3, 17, 18, 19, 20, 21, 22, 23, 24, 25, 26, 27, 28, 29, 35, 36, 37, 38] (by decide +kernel) (by decide +kernel)
set_option maxRecDepth 20000 in
theorem gX4_diagnoser_X0_init : GoodIn wsX4_diagnoser (wsX0_init) := ggX4_diagnoser_X0_init
set_option maxRecDepth 20000 in
theorem ggX4_checkChange_X2_isFull : GoodIn wsX4_checkChange wsX2_isFull := goodIn_r _ [8, 9, 15, 16, 17, 18, 19, 20] (by decide +kernel) (by decide +kernel)
set_option maxRecDepth 20000 in
theorem gX4_checkChange_X2_isFull : GoodIn wsX4_checkChange (wsV RX4 184 RX2 yX2_isFull wsX2_isFull) := goodIn_app (goodIn_of _ (by decide +kernel)) ggX4_checkChange_X2_isFull
set_option maxRecDepth 20000 in
theorem ggX4_checkEvent_X2_count : GoodIn wsX4_checkEvent wsX2_count := goodIn_r _ [8, 9, 15, 16, 17, 18, 19, 20] (by decide +kernel) (by decide +kernel)
set_option maxRecDepth 20000 in
theorem gX4_checkEvent_X2_count : GoodIn wsX4_checkEvent (wsV RX4 103 RX2 yX2_count wsX2_count) := goodIn_app (goodIn_of _ (by decide +kernel)) ggX4_checkEvent_X2_count
set_option maxRecDepth 20000 in
theorem ggX4_nodeThere_X4_nodeAtPlace : GoodIn wsX4_nodeThere wsX4_nodeAtPlace := goodIn_r _ [6, 7, 8, 5, 9, 10, 11, 12] (by decide +kernel) (by decide +kernel)
set_option maxRecDepth 20000 in
theorem gX4_nodeThere_X4_nodeAtPlace : GoodIn wsX4_nodeThere (va_wsS RX4 174 yX4_nodeAtPlace wsX4_nodeAtPlace) := goodIn_app (goodIn_of _ (by decide +kernel)) ggX4_nodeThere_X4_nodeAtPlace
set_option maxRecDepth 20000 in
theorem ggX4_has_X4_only : GoodIn wsX4_has wsX4_only := goodIn_r _ [4] (by decide +kernel) (by decide +kernel)
set_option maxRecDepth 20000 in
theorem gX4_has_X4_only : GoodIn wsX4_has (va_wsS RX4 82 yX4_only wsX4_only) := goodIn_app (goodIn_of _ (by decide +kernel)) ggX4_has_X4_only
set_option maxRecDepth 20000 in
theorem ggX4_nodeAtPlace_X4_has : GoodIn wsX4_nodeAtPlace wsX4_has := goodIn_r _ [4, 5, 6, 3, 7] (by decide +kernel) (by decide +kernel)
set_option maxRecDepth 20000 in
theorem gX4_nodeAtPlace_X4_has : GoodIn wsX4_nodeAtPlace (va_wsS RX4 45 yX4_has wsX4_has) := goodIn_app (goodIn_of _ (by decide +kernel)) ggX4_nodeAtPlace_X4_has
set_option maxRecDepth 20000 in
theorem ggX5_at_X5_has : GoodIn wsX5_at wsX5_has := goodIn_r _ [4] (by decide +kernel) (by decide +kernel)
set_option maxRecDepth 20000 in
theorem gX5_at_X5_has : GoodIn wsX5_at (va_wsS RX5 47 yX5_has wsX5_has) := goodIn_app (goodIn_of _ (by decide +kernel)) ggX5_at_X5_has
set_option maxRecDepth 20000 in
theorem ggX5_closes_X5_has : GoodIn wsX5_closes wsX5_has := goodIn_r _ [6] (by decide +kernel) (by decide +kernel)
set_option maxRecDepth 20000 in
theorem gX5_closes_X5_has : GoodIn wsX5_closes (va_wsS RX5 47 yX5_has wsX5_has) := goodIn_app (goodIn_of _ (by decide +kernel)) ggX5_closes_X5_has
set_option maxRecDepth 20000 in
theorem ggX5_need_X5_isNode : GoodIn wsX5_need wsX5_isNode := goodIn_r _ [6] (by decide +kernel) (by decide +kernel)
set_option maxRecDepth 20000 in
theorem gX5_need_X5_isNode : GoodIn wsX5_need (va_wsS RX5 51 yX5_isNode wsX5_isNode) := goodIn_app (goodIn_of _ (by decide +kernel)) ggX5_need_X5_isNode
set_option maxRecDepth 20000 in
theorem ggX5_need_X5_has : GoodIn wsX5_need wsX5_has := goodIn_r _ [9] (by decide +kernel) (by decide +kernel)
set_option maxRecDepth 20000 in
theorem gX5_need_X5_has : GoodIn wsX5_need (va_wsS RX5 47 yX5_has wsX5_has) := goodIn_app (goodIn_of _ (by decide +kernel)) ggX5_need_X5_has
set_option maxRecDepth 20000 in
theorem ggX5_need_X5_goes : GoodIn wsX5_need wsX5_goes := goodIn_r _ [13, 14, 19, 20, 21, 22, 23, 24, 25, 26, 27, 28, 29, 30, 31, 32, 33, 34] (by decide +kernel) (by decide +kernel)
set_option maxRecDepth 20000 in
theorem gX5_need_X5_goes : GoodIn wsX5_need (wsV RX5 55 RX5 yX5_goes wsX5_goes) := goodIn_app (goodIn_of _ (by decide +kernel)) ggX5_need_X5_goes
set_option maxRecDepth 20000 in
theorem ggX5_need_X5_closes : GoodIn wsX5_need wsX5_closes := goodIn_r _ [18, 1, 2, 7, 8, 5, 9, 19, 20, 21, 22, 23, 24, 25, 26, 27, 28, 29, 30, 31, 32, 33, 34] (by decide +kernel) (by decide +kernel)
set_option maxRecDepth 20000 in
theorem gX5_need_X5_closes : GoodIn wsX5_need (wsV RX5 59 RX5 yX5_closes wsX5_closes) := goodIn_app (goodIn_of _ (by decide +kernel)) ggX5_need_X5_closes
set_option maxRecDepth 20000 in
theorem ggX5_release_X5_isNode : GoodIn wsX5_release wsX5_isNode := goodIn_r _ [5] (by decide +kernel) (by decide +kernel)
set_option maxRecDepth 20000 in
theorem gX5_release_X5_isNode : GoodIn wsX5_release (va_wsS RX5 51 yX5_isNode wsX5_isNode) := goodIn_app (goodIn_of _ (by decide +kernel)) ggX5_release_X5_isNode
set_option maxRecDepth 20000 in
theorem ggX5_release_X5_goes : GoodIn wsX5_release wsX5_goes := goodIn_r _ [9, 10, 19, 20, 21, 22, 23, 24, 25, 26, 27, 28, 29, 30, 31, 32, 33, 34] (by decide +kernel) (by decide +kernel)
set_option maxRecDepth 20000 in
theorem gX5_release_X5_goes : GoodIn wsX5_release (wsV RX5 55 RX5 yX5_goes wsX5_goes) := goodIn_app (goodIn_of _ (by decide +kernel)) ggX5_release_X5_goes
set_option maxRecDepth 20000 in
theorem ggX5_release_X5_has : GoodIn wsX5_release wsX5_has := goodIn_r _ [13] (by decide +kernel) (by decide +kernel)
set_option maxRecDepth 20000 in
theorem gX5_release_X5_has : GoodIn wsX5_release (va_wsS RX5 47 yX5_has wsX5_has) := goodIn_app (goodIn_of _ (by decide +kernel)) ggX5_release_X5_has
set_option maxRecDepth 20000 in
theorem ggX5_release_X5_closes : GoodIn wsX5_release wsX5_closes := goodIn_r _ [17, 18, 1, 11, 12, 4, 13, 19, 20, 21, 22, 23, 24, 25, 26, 27, 28, 29, 30, 31, 32, 33, 34] (by decide +kernel) (by decide +kernel)
set_option maxRecDepth 20000 in
theorem gX5_release_X5_closes : GoodIn wsX5_release (wsV RX5 59 RX5 yX5_closes wsX5_closes) := goodIn_app (goodIn_of _ (by decide +kernel)) ggX5_release_X5_closes
set_option maxRecDepth 20000 in
theorem ggX5_needs_X5_isNode : GoodIn wsX5_needs wsX5_isNode := goodIn_r _ [5] (by decide +kernel) (by decide +kernel)
set_option maxRecDepth 20000 in
theorem gX5_needs_X5_isNode : GoodIn wsX5_needs (va_wsS RX5 51 yX5_isNode wsX5_isNode) := goodIn_app (goodIn_of _ (by decide +kernel)) ggX5_needs_X5_isNode
set_option maxRecDepth 20000 in
theorem ggX5_needs_X5_goes : GoodIn wsX5_needs wsX5_goes := goodIn_r _ [9, 10, 14, 15, 16, 17, 18, 19, 20, 21, 22, 23, 24, 25, 26, 27, 28, 29] (by decide +kernel) (by decide +kernel)
set_option maxRecDepth 20000 in
theorem gX5_needs_X5_goes : GoodIn wsX5_needs (wsV RX5 55 RX5 yX5_goes wsX5_goes) := goodIn_app (goodIn_of _ (by decide +kernel)) ggX5_needs_X5_goes
set_option maxRecDepth 20000 in
theorem ggX5_needs_X5_has : GoodIn wsX5_needs wsX5_has := goodIn_r _ [13] (by decide +kernel) (by decide +kernel)
set_option maxRecDepth 20000 in
theorem gX5_needs_X5_has : GoodIn wsX5_needs (va_wsS RX5 47 yX5_has wsX5_has) := goodIn_app (goodIn_of _ (by decide +kernel)) ggX5_needs_X5_has
set_option maxRecDepth 20000 in
theorem ggX5_dependsOn_X5_isNode : GoodIn wsX5_dependsOn wsX5_isNode := goodIn_r _ [5] (by decide +kernel) (by decide +kernel)
set_option maxRecDepth 20000 in
theorem gX5_dependsOn_X5_isNode : GoodIn wsX5_dependsOn (va_wsS RX5 51 yX5_isNode wsX5_isNode) := goodIn_app (goodIn_of _ (by decide +kernel)) ggX5_dependsOn_X5_isNode
