set_option maxRecDepth 20000 in
theorem ggX5_dependsOn_X5_goes : GoodIn wsX5_dependsOn wsX5_goes := goodIn_r _ [9, 10, 14, 15, 16, 17, 18, 19, 20, 21, 22, 23, 24, 25, 26, 27, 28, 29] (by decide +kernel) (by decide +kernel)
set_option maxRecDepth 20000 in
theorem gX5_dependsOn_X5_goes : GoodIn wsX5_dependsOn (wsV RX5 55 RX5 yX5_goes wsX5_goes) := goodIn_app (goodIn_of _ (by decide +kernel)) ggX5_dependsOn_X5_goes
set_option maxRecDepth 20000 in
theorem ggX5_dependsOn_X5_has : GoodIn wsX5_dependsOn wsX5_has := goodIn_r _ [13] (by decide +kernel) (by decide +kernel)
set_option maxRecDepth 20000 in
theorem gX5_dependsOn_X5_has : GoodIn wsX5_dependsOn (va_wsS RX5 47 yX5_has wsX5_has) := goodIn_app (goodIn_of _ (by decide +kernel)) ggX5_dependsOn_X5_has
set_option maxRecDepth 20000 in
theorem ggX5_height_X5_isNode : GoodIn wsX5_height wsX5_isNode := goodIn_r _ [5] (by decide +kernel) (by decide +kernel)
set_option maxRecDepth 20000 in
theorem gX5_height_X5_isNode : GoodIn wsX5_height (va_wsS RX5 51 yX5_isNode wsX5_isNode) := goodIn_app (goodIn_of _ (by decide +kernel)) ggX5_height_X5_isNode
set_option maxRecDepth 20000 in
theorem ggX5_height_X5_goes : GoodIn wsX5_height wsX5_goes := goodIn_r _ [9, 10, 14, 15, 16, 17, 18, 19, 20, 21, 22, 23, 24, 25, 26, 27, 28, 29] (by decide +kernel) (by decide +kernel)
set_option maxRecDepth 20000 in
theorem gX5_height_X5_goes : GoodIn wsX5_height (wsV RX5 55 RX5 yX5_goes wsX5_goes) := goodIn_app (goodIn_of _ (by decide +kernel)) ggX5_height_X5_goes
set_option maxRecDepth 20000 in
theorem ggX5_height_X5_has : GoodIn wsX5_height wsX5_has := goodIn_r _ [13] (by decide +kernel) (by decide +kernel)
set_option maxRecDepth 20000 in
theorem gX5_height_X5_has : GoodIn wsX5_height (va_wsS RX5 47 yX5_has wsX5_has) := goodIn_app (goodIn_of _ (by decide +kernel)) ggX5_height_X5_has
set_option maxRecDepth 20000 in
theorem ggX5_tick_X5_goes : GoodIn wsX5_tick wsX5_goes := goodIn_r _ [6, 7, 8, 9, 10, 11, 12, 13, 14, 15, 16, 17, 18, 19, 20, 21, 22, 23] (by decide +kernel) (by decide +kernel)
set_option maxRecDepth 20000 in
theorem gX5_tick_X5_goes : GoodIn wsX5_tick (wsV RX5 55 RX5 yX5_goes wsX5_goes) := goodIn_app (goodIn_of _ (by decide +kernel)) ggX5_tick_X5_goes
set_option maxRecDepth 20000 in
theorem ggX5_kin_X5_has : GoodIn wsX5_kin wsX5_has := goodIn_r _ [5] (by decide +kernel) (by decide +kernel)
set_option maxRecDepth 20000 in
theorem gX5_kin_X5_has : GoodIn wsX5_kin (va_wsS RX5 47 yX5_has wsX5_has) := goodIn_app (goodIn_of _ (by decide +kernel)) ggX5_kin_X5_has
set_option maxRecDepth 20000 in
theorem ggX5_raise_X5_isNode : GoodIn wsX5_raise wsX5_isNode := goodIn_r _ [13] (by decide +kernel) (by decide +kernel)
set_option maxRecDepth 20000 in
theorem gX5_raise_X5_isNode : GoodIn wsX5_raise (va_wsS RX5 51 yX5_isNode wsX5_isNode) := goodIn_app (goodIn_of _ (by decide +kernel)) ggX5_raise_X5_isNode
set_option maxRecDepth 20000 in
theorem ggX5_raise_X5_has : GoodIn wsX5_raise wsX5_has := goodIn_r _ [16] (by decide +kernel) (by decide +kernel)
set_option maxRecDepth 20000 in
theorem gX5_raise_X5_has : GoodIn wsX5_raise (va_wsS RX5 47 yX5_has wsX5_has) := goodIn_app (goodIn_of _ (by decide +kernel)) ggX5_raise_X5_has
set_option maxRecDepth 20000 in
theorem ggX5_raise_X5_goes : GoodIn wsX5_raise wsX5_goes := goodIn_r _ [20, 21, 35, 36, 37, 38, 39, 40, 41, 42, 43, 44, 45, 46, 47, 48, 49, 50] (by decide +kernel) (by decide +kernel)
set_option maxRecDepth 20000 in
theorem gX5_raise_X5_goes : GoodIn wsX5_raise (wsV RX5 55 RX5 yX5_goes wsX5_goes) := goodIn_app (goodIn_of _ (by decide +kernel)) ggX5_raise_X5_goes
set_option maxRecDepth 20000 in
theorem ggX5_raise_X5_kin : GoodIn wsX5_raise wsX5_kin := goodIn_r _ [25, 26, 14, 15, 12, 16, 35, 36, 37, 38, 39, 40, 41, 42, 43, 44, 45, 46, 47, 48, 49, 50] (by decide +kernel) (by decide +kernel)
set_option maxRecDepth 20000 in
theorem gX5_raise_X5_kin : GoodIn wsX5_raise (wsV RX5 71 RX5 yX5_kin wsX5_kin) := goodIn_app (goodIn_of _ (by decide +kernel)) ggX5_raise_X5_kin
set_option maxRecDepth 20000 in
theorem ggX5_raise_X5_notes : GoodIn wsX5_raise wsX5_notes := goodIn_r _ [30, 31, 2, 32, 33, 9, 34, 35, 36, 37, 38, 39, 40, 41, 42, 43, 44, 45, 46, 47, 48, 49, 50] (by decide +kernel) (by decide +kernel)
set_option maxRecDepth 20000 in
theorem gX5_raise_X5_notes : GoodIn wsX5_raise (wsV RX5 78 RX5 yX5_notes wsX5_notes) := goodIn_app (goodIn_of _ (by decide +kernel)) ggX5_raise_X5_notes
set_option maxRecDepth 20000 in
theorem ggX5_clear_X5_isNode : GoodIn wsX5_clear wsX5_isNode := goodIn_r _ [11] (by decide +kernel) (by decide +kernel)
set_option maxRecDepth 20000 in
theorem gX5_clear_X5_isNode : GoodIn wsX5_clear (va_wsS RX5 51 yX5_isNode wsX5_isNode) := goodIn_app (goodIn_of _ (by decide +kernel)) ggX5_clear_X5_isNode
set_option maxRecDepth 20000 in
theorem ggX5_clear_X5_has : GoodIn wsX5_clear wsX5_has := goodIn_r _ [14] (by decide +kernel) (by decide +kernel)
set_option maxRecDepth 20000 in
theorem gX5_clear_X5_has : GoodIn wsX5_clear (va_wsS RX5 47 yX5_has wsX5_has) := goodIn_app (goodIn_of _ (by decide +kernel)) ggX5_clear_X5_has
set_option maxRecDepth 20000 in
theorem ggX5_clear_X5_goes : GoodIn wsX5_clear wsX5_goes := goodIn_r _ [18, 19, 31, 32, 33, 34, 35, 36, 37, 38, 39, 40, 41, 42, 43, 44, 45, 46] (by decide +kernel) (by decide +kernel)
set_option maxRecDepth 20000 in
theorem gX5_clear_X5_goes : GoodIn wsX5_clear (wsV RX5 55 RX5 yX5_goes wsX5_goes) := goodIn_app (goodIn_of _ (by decide +kernel)) ggX5_clear_X5_goes
set_option maxRecDepth 20000 in
theorem ggX5_clear_X5_notes : GoodIn wsX5_clear wsX5_notes := goodIn_r _ [23, 24, 2, 25, 26, 6, 27, 31, 32, 33, 34, 35, 36, 37, 38, 39, 40, 41, 42, 43, 44, 45, 46] (by decide +kernel) (by decide +kernel)
set_option maxRecDepth 20000 in
theorem gX5_clear_X5_notes : GoodIn wsX5_clear (wsV RX5 78 RX5 yX5_notes wsX5_notes) := goodIn_app (goodIn_of _ (by decide +kernel)) ggX5_clear_X5_notes
set_option maxRecDepth 20000 in
theorem ggX5_clear_X5_count : GoodIn wsX5_clear wsX5_count := goodIn_r _ [30] (by decide +kernel) (by decide +kernel)
set_option maxRecDepth 20000 in
theorem gX5_clear_X5_count : GoodIn wsX5_clear (va_wsS RX5 82 yX5_count wsX5_count) := goodIn_app (goodIn_of _ (by decide +kernel)) ggX5_clear_X5_count
set_option maxRecDepth 20000 in
theorem ggX5_stateOf_X5_has : GoodIn wsX5_stateOf wsX5_has := goodIn_r _ [6] (by decide +kernel) (by decide +kernel)
set_option maxRecDepth 20000 in
theorem gX5_stateOf_X5_has : GoodIn wsX5_stateOf (va_wsS RX5 47 yX5_has wsX5_has) := goodIn_app (goodIn_of _ (by decide +kernel)) ggX5_stateOf_X5_has
set_option maxRecDepth 20000 in
theorem ggX5_stateOf_X5_raisesOf : GoodIn wsX5_stateOf wsX5_raisesOf := goodIn_r _ [10, 11, 12, 13, 14, 15, 16, 17, 18, 19, 20, 21, 22, 23, 24, 25, 26, 27, 28, 29, 30, 31] (by decide +kernel) (by decide +kernel)
set_option maxRecDepth 20000 in
theorem gX5_stateOf_X5_raisesOf : GoodIn wsX5_stateOf (wsV RX5 85 RX5 yX5_raisesOf wsX5_raisesOf) := goodIn_app (goodIn_of _ (by decide +kernel)) ggX5_stateOf_X5_raisesOf
set_option maxRecDepth 20000 in
theorem ggX5_state_X5_isNode : GoodIn wsX5_state wsX5_isNode := goodIn_r _ [4] (by decide +kernel) (by decide +kernel)
set_option maxRecDepth 20000 in
theorem gX5_state_X5_isNode : GoodIn wsX5_state (va_wsS RX5 51 yX5_isNode wsX5_isNode) := goodIn_app (goodIn_of _ (by decide +kernel)) ggX5_state_X5_isNode
set_option maxRecDepth 20000 in
theorem ggX5_state_X5_goes : GoodIn wsX5_state wsX5_goes := goodIn_r _ [8, 9, 28, 29, 30, 31, 32, 33, 34, 35, 36, 37, 38, 39, 40, 41, 42, 43] (by decide +kernel) (by decide +kernel)
set_option maxRecDepth 20000 in
theorem gX5_state_X5_goes : GoodIn wsX5_state (wsV RX5 55 RX5 yX5_goes wsX5_goes) := goodIn_app (goodIn_of _ (by decide +kernel)) ggX5_state_X5_goes
set_option maxRecDepth 20000 in
theorem ggX5_state_X5_stateOf : GoodIn wsX5_state wsX5_stateOf := goodIn_r _ [13, 14, 15, 16, 17, 3, 18, 19, 20, 21, 22, 23, 24, 25, 26, 27, 28, 29, 30, 31, 32, 33, 34, 35, 36, 37, 38, 39, 40, 41, 42, 43] (by decide +kernel) (by decide +kernel)
set_option maxRecDepth 20000 in
theorem gX5_state_X5_stateOf : GoodIn wsX5_state (wsV RX5 89 RX5 yX5_stateOf wsX5_stateOf) := goodIn_app (goodIn_of _ (by decide +kernel)) ggX5_state_X5_stateOf
set_option maxRecDepth 20000 in
theorem ggX5_nodesThatAre_X5_goes : GoodIn wsX5_nodesThatAre wsX5_goes := goodIn_r _ [5, 6, 25, 26, 27, 28, 29, 30, 31, 32, 33, 34, 35, 36, 37, 38, 39, 40] (by decide +kernel) (by decide +kernel)
set_option maxRecDepth 20000 in
theorem gX5_nodesThatAre_X5_goes : GoodIn wsX5_nodesThatAre (wsV RX5 55 RX5 yX5_goes wsX5_goes) := goodIn_app (goodIn_of _ (by decide +kernel)) ggX5_nodesThatAre_X5_goes
set_option maxRecDepth 20000 in
theorem ggX5_nodesThatAre_X5_stateOf : GoodIn wsX5_nodesThatAre wsX5_stateOf := goodIn_r _ [10, 11, 12, 13, 14, 4, 15, 16, 17, 18, 19, 20, 21, 22, 23, 24, 25, 26, 27, 28, 29, 30, 31, 32, 33, 34, 35, 36, 37, 38, 39, 40] (by decide +kernel) (by decide +kernel)
set_option maxRecDepth 20000 in
theorem gX5_nodesThatAre_X5_stateOf : GoodIn wsX5_nodesThatAre (wsV RX5 89 RX5 yX5_stateOf wsX5_stateOf) := goodIn_app (goodIn_of _ (by decide +kernel)) ggX5_nodesThatAre_X5_stateOf
set_option maxRecDepth 20000 in
theorem ggX5_raises_X5_isNode : GoodIn wsX5_raises wsX5_isNode := goodIn_r _ [4] (by decide +kernel) (by decide +kernel)
set_option maxRecDepth 20000 in
theorem gX5_raises_X5_isNode : GoodIn wsX5_raises (va_wsS RX5 51 yX5_isNode wsX5_isNode) := goodIn_app (goodIn_of _ (by decide +kernel)) ggX5_raises_X5_isNode
set_option maxRecDepth 20000 in
theorem ggX5_raises_X5_goes : GoodIn wsX5_raises wsX5_goes := goodIn_r _ [8, 9, 19, 20, 21, 22, 23, 24, 25, 26, 27, 28, 29, 30, 31, 32, 33, 34] (by decide +kernel) (by decide +kernel)
set_option maxRecDepth 20000 in
theorem gX5_raises_X5_goes : GoodIn wsX5_raises (wsV RX5 55 RX5 yX5_goes wsX5_goes) := goodIn_app (goodIn_of _ (by decide +kernel)) ggX5_raises_X5_goes
set_option maxRecDepth 20000 in
theorem ggX5_raises_X5_raisesOf : GoodIn wsX5_raises wsX5_raisesOf := goodIn_r _ [13, 14, 15, 16, 17, 18, 19, 20, 21, 22, 23, 24, 25, 26, 27, 28, 29, 30, 31, 32, 33, 34] (by decide +kernel) (by decide +kernel)
set_option maxRecDepth 20000 in
theorem gX5_raises_X5_raisesOf : GoodIn wsX5_raises (wsV RX5 85 RX5 yX5_raisesOf wsX5_raisesOf) := goodIn_app (goodIn_of _ (by decide +kernel)) ggX5_raises_X5_raisesOf
set_option maxRecDepth 20000 in
theorem ggX5_isEvent_X5_goes : GoodIn wsX5_isEvent wsX5_goes := goodIn_r _ [6, 7, 8, 9, 10, 11, 12, 13, 14, 15, 16, 17, 18, 19, 20, 21, 22, 23] (by decide +kernel) (by decide +kernel)
set_option maxRecDepth 20000 in
theorem gX5_isEvent_X5_goes : GoodIn wsX5_isEvent (wsV RX5 55 RX5 yX5_goes wsX5_goes) := goodIn_app (goodIn_of _ (by decide +kernel)) ggX5_isEvent_X5_goes
set_option maxRecDepth 20000 in
theorem ggX5_eventKind_X5_isEvent : GoodIn wsX5_eventKind wsX5_isEvent := goodIn_r _ [6, 7, 8, 9, 10, 5, 11, 12, 13, 14, 15, 16, 17, 18, 19, 20, 21, 22, 23, 24, 25, 26, 27, 28] (by decide +kernel) (by decide +kernel)
set_option maxRecDepth 20000 in
theorem gX5_eventKind_X5_isEvent : GoodIn wsX5_eventKind (wsV RX5 92 RX5 yX5_isEvent wsX5_isEvent) := goodIn_app (goodIn_of _ (by decide +kernel)) ggX5_eventKind_X5_isEvent
set_option maxRecDepth 20000 in
theorem ggX5_eventNode_X5_isEvent : GoodIn wsX5_eventNode wsX5_isEvent := goodIn_r _ [6, 7, 8, 9, 10, 5, 11, 12, 13, 14, 15, 16, 17, 18, 19, 20, 21, 22, 23, 24, 25, 26, 27, 28] (by decide +kernel) (by decide +kernel)
set_option maxRecDepth 20000 in
theorem gX5_eventNode_X5_isEvent : GoodIn wsX5_eventNode (wsV RX5 92 RX5 yX5_isEvent wsX5_isEvent) := goodIn_app (goodIn_of _ (by decide +kernel)) ggX5_eventNode_X5_isEvent
set_option maxRecDepth 20000 in
theorem ggX5_eventTime_X5_isEvent : GoodIn wsX5_eventTime wsX5_isEvent := goodIn_r _ [6, 7, 8, 9, 10, 5, 11, 12, 13, 14, 15, 16, 17, 18, 19, 20, 21, 22, 23, 24, 25, 26, 27, 28] (by decide +kernel) (by decide +kernel)
set_option maxRecDepth 20000 in
theorem gX5_eventTime_X5_isEvent : GoodIn wsX5_eventTime (wsV RX5 92 RX5 yX5_isEvent wsX5_isEvent) := goodIn_app (goodIn_of _ (by decide +kernel)) ggX5_eventTime_X5_isEvent
set_option maxRecDepth 20000 in
theorem ggX5_eventLength_X5_isEvent : GoodIn wsX5_eventLength wsX5_isEvent := goodIn_r _ [6, 7, 8, 9, 10, 5, 11, 12, 13, 14, 15, 16, 17, 18, 19, 20, 21, 22, 23, 24, 25, 26, 27, 28] (by decide +kernel) (by decide +kernel)
set_option maxRecDepth 20000 in
theorem gX5_eventLength_X5_isEvent : GoodIn wsX5_eventLength (wsV RX5 92 RX5 yX5_isEvent wsX5_isEvent) := goodIn_app (goodIn_of _ (by decide +kernel)) ggX5_eventLength_X5_isEvent
set_option maxRecDepth 20000 in
theorem ggX5_ticketOf_X5_isNode : GoodIn wsX5_ticketOf wsX5_isNode := goodIn_r _ [6] (by decide +kernel) (by decide +kernel)
set_option maxRecDepth 20000 in
theorem gX5_ticketOf_X5_isNode : GoodIn wsX5_ticketOf (va_wsS RX5 51 yX5_isNode wsX5_isNode) := goodIn_app (goodIn_of _ (by decide +kernel)) ggX5_ticketOf_X5_isNode
set_option maxRecDepth 20000 in
theorem ggX5_ticketOf_X5_goes : GoodIn wsX5_ticketOf wsX5_goes := goodIn_r _ [10, 11, 15, 16, 17, 18, 19, 20, 21, 22, 23, 24, 25, 26, 27, 28, 29, 30] (by decide +kernel) (by decide +kernel)
set_option maxRecDepth 20000 in
theorem gX5_ticketOf_X5_goes : GoodIn wsX5_ticketOf (wsV RX5 55 RX5 yX5_goes wsX5_goes) := goodIn_app (goodIn_of _ (by decide +kernel)) ggX5_ticketOf_X5_goes
set_option maxRecDepth 20000 in
theorem ggX5_ticketOf_X5_has : GoodIn wsX5_ticketOf wsX5_has := goodIn_r _ [14] (by decide +kernel) (by decide +kernel)
set_option maxRecDepth 20000 in
theorem gX5_ticketOf_X5_has : GoodIn wsX5_ticketOf (va_wsS RX5 47 yX5_has wsX5_has) := goodIn_app (goodIn_of _ (by decide +kernel)) ggX5_ticketOf_X5_has
set_option maxRecDepth 20000 in
theorem ggX5_ticketState_X5_isTicket : GoodIn wsX5_ticketState wsX5_isTicket := goodIn_r _ [7, 8, 9, 10, 11, 12, 13, 14, 15, 16, 17, 18, 19, 20, 21, 22, 23, 24] (by decide +kernel) (by decide +kernel)
set_option maxRecDepth 20000 in
theorem gX5_ticketState_X5_isTicket : GoodIn wsX5_ticketState (wsV RX5 95 RX5 yX5_isTicket wsX5_isTicket) := goodIn_app (goodIn_of _ (by decide +kernel)) ggX5_ticketState_X5_isTicket
set_option maxRecDepth 20000 in
theorem ggX5_ticketSize_X5_isTicket : GoodIn wsX5_ticketSize wsX5_isTicket := goodIn_r _ [7, 8, 12, 13, 14, 15, 16, 17, 18, 19, 20, 21, 22, 23, 24, 25, 26, 27] (by decide +kernel) (by decide +kernel)
set_option maxRecDepth 20000 in
theorem gX5_ticketSize_X5_isTicket : GoodIn wsX5_ticketSize (wsV RX5 95 RX5 yX5_isTicket wsX5_isTicket) := goodIn_app (goodIn_of _ (by decide +kernel)) ggX5_ticketSize_X5_isTicket
set_option maxRecDepth 20000 in
theorem ggX5_ticketSize_X5_count : GoodIn wsX5_ticketSize wsX5_count := goodIn_r _ [11] (by decide +kernel) (by decide +kernel)
set_option maxRecDepth 20000 in
theorem gX5_ticketSize_X5_count : GoodIn wsX5_ticketSize (va_wsS RX5 82 yX5_count wsX5_count) := goodIn_app (goodIn_of _ (by decide +kernel)) ggX5_ticketSize_X5_count
set_option maxRecDepth 20000 in
theorem ggX5_mergedInto_X5_isTicket : GoodIn wsX5_mergedInto wsX5_isTicket := goodIn_r _ [8, 9, 10, 11, 12, 13, 14, 15, 16, 17, 18, 19, 20, 21, 22, 23, 24, 25] (by decide +kernel) (by decide +kernel)
set_option maxRecDepth 20000 in
theorem gX5_mergedInto_X5_isTicket : GoodIn wsX5_mergedInto (wsV RX5 95 RX5 yX5_isTicket wsX5_isTicket) := goodIn_app (goodIn_of _ (by decide +kernel)) ggX5_mergedInto_X5_isTicket
set_option maxRecDepth 20000 in
theorem ggX5_plausible_X5_has : GoodIn wsX5_plausible wsX5_has := goodIn_r _ [6] (by decide +kernel) (by decide +kernel)
set_option maxRecDepth 20000 in
theorem gX5_plausible_X5_has : GoodIn wsX5_plausible (va_wsS RX5 47 yX5_has wsX5_has) := goodIn_app (goodIn_of _ (by decide +kernel)) ggX5_plausible_X5_has
set_option maxRecDepth 20000 in
theorem ggX5_isPlausible_X5_isNode : GoodIn wsX5_isPlausible wsX5_isNode := goodIn_r _ [4] (by decide +kernel) (by decide +kernel)
set_option maxRecDepth 20000 in
theorem gX5_isPlausible_X5_isNode : GoodIn wsX5_isPlausible (va_wsS RX5 51 yX5_isNode wsX5_isNode) := goodIn_app (goodIn_of _ (by decide +kernel)) ggX5_isPlausible_X5_isNode
set_option maxRecDepth 20000 in
theorem ggX5_isPlausible_X5_goes : GoodIn wsX5_isPlausible wsX5_goes := goodIn_r _ [8, 9, 19, 20, 21, 22, 23, 24, 25, 26, 27, 28, 29, 30, 31, 32, 33, 34] (by decide +kernel) (by decide +kernel)
set_option maxRecDepth 20000 in
theorem gX5_isPlausible_X5_goes : GoodIn wsX5_isPlausible (wsV RX5 55 RX5 yX5_goes wsX5_goes) := goodIn_app (goodIn_of _ (by decide +kernel)) ggX5_isPlausible_X5_goes
set_option maxRecDepth 20000 in
theorem ggX5_isPlausible_X5_plausible : GoodIn wsX5_isPlausible wsX5_plausible := goodIn_r _ [13, 14, 15, 16, 17, 3, 18, 19, 20, 21, 22, 23, 24, 25, 26, 27, 28, 29, 30, 31, 32, 33, 34] (by decide +kernel) (by decide +kernel)
set_option maxRecDepth 20000 in
theorem gX5_isPlausible_X5_plausible : GoodIn wsX5_isPlausible (wsV RX5 98 RX5 yX5_plausible wsX5_plausible) := goodIn_app (goodIn_of _ (by decide +kernel)) ggX5_isPlausible_X5_plausible
set_option maxRecDepth 20000 in
theorem ggX5_explains_X5_has : GoodIn wsX5_explains wsX5_has := goodIn_r _ [5] (by decide +kernel) (by decide +kernel)
set_option maxRecDepth 20000 in
theorem gX5_explains_X5_has : GoodIn wsX5_explains (va_wsS RX5 47 yX5_has wsX5_has) := goodIn_app (goodIn_of _ (by decide +kernel)) ggX5_explains_X5_has
set_option maxRecDepth 20000 in
theorem ggX5_explained_X5_has : GoodIn wsX5_explained wsX5_has := goodIn_r _ [5] (by decide +kernel) (by decide +kernel)
set_option maxRecDepth 20000 in
theorem gX5_explained_X5_has : GoodIn wsX5_explained (va_wsS RX5 47 yX5_has wsX5_has) := goodIn_app (goodIn_of _ (by decide +kernel)) ggX5_explained_X5_has
set_option maxRecDepth 20000 in
theorem ggX5_isBetter_X5_count : GoodIn wsX5_isBetter wsX5_count := goodIn_r _ [5] (by decide +kernel) (by decide +kernel)
set_option maxRecDepth 20000 in
theorem gX5_isBetter_X5_count : GoodIn wsX5_isBetter (va_wsS RX5 82 yX5_count wsX5_count) := goodIn_app (goodIn_of _ (by decide +kernel)) ggX5_isBetter_X5_count
set_option maxRecDepth 20000 in
theorem ggX5_best_X5_plausible : GoodIn wsX5_best wsX5_plausible := goodIn_r _ [6, 7, 1, 8, 9, 5, 10, 23, 24, 25, 26, 27, 28, 29, 30, 31, 32, 33, 34, 35, 36, 37, 38] (by decide +kernel) (by decide +kernel)
set_option maxRecDepth 20000 in
theorem gX5_best_X5_plausible : GoodIn wsX5_best (wsV RX5 98 RX5 yX5_plausible wsX5_plausible) := goodIn_app (goodIn_of _ (by decide +kernel)) ggX5_best_X5_plausible
set_option maxRecDepth 20000 in
theorem ggX5_best_X5_isBetter : GoodIn wsX5_best wsX5_isBetter := goodIn_r _ [14, 1, 15, 16, 5, 17, 23, 24, 25, 26, 27, 28, 29, 30, 31, 32, 33, 34, 35, 36, 37, 38] (by decide +kernel) (by decide +kernel)
set_option maxRecDepth 20000 in
theorem gX5_best_X5_isBetter : GoodIn wsX5_best (wsV RX5 101 RX5 yX5_isBetter wsX5_isBetter) := goodIn_app (goodIn_of _ (by decide +kernel)) ggX5_best_X5_isBetter
set_option maxRecDepth 20000 in
theorem ggX5_best_X5_explained : GoodIn wsX5_best wsX5_explained := goodIn_r _ [21, 22, 8, 9, 5, 10, 23, 24, 25, 26, 27, 28, 29, 30, 31, 32, 33, 34, 35, 36, 37, 38] (by decide +kernel) (by decide +kernel)
set_option maxRecDepth 20000 in
theorem gX5_best_X5_explained : GoodIn wsX5_best (wsV RX5 104 RX5 yX5_explained wsX5_explained) := goodIn_app (goodIn_of _ (by decide +kernel)) ggX5_best_X5_explained
set_option maxRecDepth 20000 in
theorem ggX5_causes_X5_best : GoodIn wsX5_causes wsX5_best := goodIn_r _ [6, 7, 8, 9, 10, 5, 11, 12, 13, 14, 15, 16, 17, 18, 19, 20, 21, 22, 23, 24, 25, 26, 27, 28, 29, 30, 31, 32, 33, 34, 35, 36, 37, 38, 39, 40, 41, 42, 43] (by decide +kernel) (by decide +kernel)
set_option maxRecDepth 20000 in
theorem gX5_causes_X5_best : GoodIn wsX5_causes (wsV RX5 107 RX5 yX5_best wsX5_best) := goodIn_app (goodIn_of _ (by decide +kernel)) ggX5_causes_X5_best
set_option maxRecDepth 20000 in
theorem ggX5_causes_X5_count : GoodIn wsX5_causes wsX5_count := goodIn_r _ [22] (by decide +kernel) (by decide +kernel)
set_option maxRecDepth 20000 in
theorem gX5_causes_X5_count : GoodIn wsX5_causes (va_wsS RX5 82 yX5_count wsX5_count) := goodIn_app (goodIn_of _ (by decide +kernel)) ggX5_causes_X5_count
set_option maxRecDepth 20000 in
theorem ggX5_cause_X5_best : GoodIn wsX5_cause wsX5_best := goodIn_r _ [5, 6, 7, 8, 9, 4, 10, 11, 12, 13, 14, 15, 16, 17, 18, 19, 20, 21, 22, 23, 24, 25, 26, 35, 36, 37, 38, 39, 40, 41, 42, 43, 44, 45, 46, 47, 48, 49, 50] (by decide +kernel) (by decide +kernel)
set_option maxRecDepth 20000 in
theorem gX5_cause_X5_best : GoodIn wsX5_cause (wsV RX5 107 RX5 yX5_best wsX5_best) := goodIn_app (goodIn_of _ (by decide +kernel)) ggX5_cause_X5_best
set_option maxRecDepth 20000 in
theorem ggX5_cause_X5_count : GoodIn wsX5_cause wsX5_count := goodIn_r _ [21] (by decide +kernel) (by decide +kernel)
set_option maxRecDepth 20000 in
theorem gX5_cause_X5_count : GoodIn wsX5_cause (va_wsS RX5 82 yX5_count wsX5_count) := goodIn_app (goodIn_of _ (by decide +kernel)) ggX5_cause_X5_count
set_option maxRecDepth 20000 in
theorem ggX5_cause_X5_goes : GoodIn wsX5_cause wsX5_goes := goodIn_r _ [30, 31, 35, 36, 37, 38, 39, 40, 41, 42, 43, 44, 45, 46, 47, 48, 49, 50] (by decide +kernel) (by decide +kernel)
set_option maxRecDepth 20000 in
theorem gX5_cause_X5_goes : GoodIn wsX5_cause (wsV RX5 55 RX5 yX5_goes wsX5_goes) := goodIn_app (goodIn_of _ (by decide +kernel)) ggX5_cause_X5_goes
set_option maxRecDepth 20000 in
theorem ggX5_cause_X5_at : GoodIn wsX5_cause wsX5_at := goodIn_r _ [34, 12, 13, 4, 14] (by decide +kernel) (by decide +kernel)
set_option maxRecDepth 20000 in
theorem gX5_cause_X5_at : GoodIn wsX5_cause (va_wsS RX5 111 yX5_at wsX5_at) := goodIn_app (goodIn_of _ (by decide +kernel)) ggX5_cause_X5_at
set_option maxRecDepth 20000 in
theorem ggX5_causeByTrying_X5_cause : GoodIn wsX5_causeByTrying wsX5_cause := goodIn_r _ [5, 6, 7, 8, 4, 9, 10, 11, 12, 13, 14, 15, 16, 17, 18, 19, 20, 21, 22, 23, 24, 25, 26, 27, 28, 29, 30, 31, 32, 33, 34, 35, 36, 37, 38, 39, 40, 41, 42, 43, 44, 45, 46, 47, 48, 49, 50, 51, 52, 53, 54] (by decide +kernel) (by decide +kernel)
set_option maxRecDepth 20000 in
theorem gX5_causeByTrying_X5_cause : GoodIn wsX5_causeByTrying (wsV RX5 114 RX5 yX5_cause wsX5_cause) := goodIn_app (goodIn_of _ (by decide +kernel)) ggX5_causeByTrying_X5_cause
set_option maxRecDepth 20000 in
theorem ggX5_joins_X5_plausible : GoodIn wsX5_joins wsX5_plausible := goodIn_r _ [6, 7, 1, 8, 9, 5, 10, 19, 20, 21, 22, 23, 24, 25, 26, 27, 28, 29, 30, 31, 32, 33, 34] (by decide +kernel) (by decide +kernel)
set_option maxRecDepth 20000 in
theorem gX5_joins_X5_plausible : GoodIn wsX5_joins (wsV RX5 98 RX5 yX5_plausible wsX5_plausible) := goodIn_app (goodIn_of _ (by decide +kernel)) ggX5_joins_X5_plausible
set_option maxRecDepth 20000 in
theorem ggX5_joins_X5_explains : GoodIn wsX5_joins wsX5_explains := goodIn_r _ [14, 15, 8, 9, 5, 10, 19, 20, 21, 22, 23, 24, 25, 26, 27, 28, 29, 30, 31, 32, 33, 34] (by decide +kernel) (by decide +kernel)
set_option maxRecDepth 20000 in
theorem gX5_joins_X5_explains : GoodIn wsX5_joins (wsV RX5 117 RX5 yX5_explains wsX5_explains) := goodIn_app (goodIn_of _ (by decide +kernel)) ggX5_joins_X5_explains
set_option maxRecDepth 20000 in
theorem ggX5_joins_X5_count : GoodIn wsX5_joins wsX5_count := goodIn_r _ [18] (by decide +kernel) (by decide +kernel)
set_option maxRecDepth 20000 in
theorem gX5_joins_X5_count : GoodIn wsX5_joins (va_wsS RX5 82 yX5_count wsX5_count) := goodIn_app (goodIn_of _ (by decide +kernel)) ggX5_joins_X5_count
set_option maxRecDepth 20000 in
theorem ggX5_joins_X5_has : GoodIn wsX5_joins wsX5_has := goodIn_r _ [10] (by decide +kernel) (by decide +kernel)
set_option maxRecDepth 20000 in
theorem gX5_joins_X5_has : GoodIn wsX5_joins (va_wsS RX5 47 yX5_has wsX5_has) := goodIn_app (goodIn_of _ (by decide +kernel)) ggX5_joins_X5_has
set_option maxRecDepth 20000 in
theorem ggX5_greedyCauses_X5_joins : GoodIn wsX5_greedyCauses wsX5_joins := goodIn_r _ [7, 2, 8, 9, 10, 6, 11, 12, 13, 14, 15, 16, 17, 18, 19, 20, 21, 22, 23, 24, 25, 26, 27, 28, 29, 30, 31, 32, 33, 34, 35, 36, 37, 38, 39] (by decide +kernel) (by decide +kernel)
set_option maxRecDepth 20000 in
theorem gX5_greedyCauses_X5_joins : GoodIn wsX5_greedyCauses (wsV RX5 120 RX5 yX5_joins wsX5_joins) := goodIn_app (goodIn_of _ (by decide +kernel)) ggX5_greedyCauses_X5_joins
set_option maxRecDepth 20000 in
theorem ggX5_greedyCauses_X5_explains : GoodIn wsX5_greedyCauses wsX5_explains := goodIn_r _ [19, 20, 13, 14, 6, 15, 24, 25, 26, 27, 28, 29, 30, 31, 32, 33, 34, 35, 36, 37, 38, 39] (by decide +kernel) (by decide +kernel)
set_option maxRecDepth 20000 in
theorem gX5_greedyCauses_X5_explains : GoodIn wsX5_greedyCauses (wsV RX5 117 RX5 yX5_explains wsX5_explains) := goodIn_app (goodIn_of _ (by decide +kernel)) ggX5_greedyCauses_X5_explains
set_option maxRecDepth 20000 in
theorem ggX5_greedyCause_X5_joins : GoodIn wsX5_greedyCause wsX5_joins := goodIn_r _ [6, 1, 7, 8, 9, 5, 10, 11, 12, 13, 14, 15, 16, 17, 18, 19, 20, 21, 22, 28, 29, 30, 31, 32, 33, 34, 35, 36, 37, 38, 39, 40, 41, 42, 43] (by decide +kernel) (by decide +kernel)
set_option maxRecDepth 20000 in
theorem gX5_greedyCause_X5_joins : GoodIn wsX5_greedyCause (wsV RX5 120 RX5 yX5_joins wsX5_joins) := goodIn_app (goodIn_of _ (by decide +kernel)) ggX5_greedyCause_X5_joins
set_option maxRecDepth 20000 in
theorem ggX5_greedyCause_X5_explains : GoodIn wsX5_greedyCause wsX5_explains := goodIn_r _ [18, 19, 12, 13, 5, 14, 28, 29, 30, 31, 32, 33, 34, 35, 36, 37, 38, 39, 40, 41, 42, 43] (by decide +kernel) (by decide +kernel)
set_option maxRecDepth 20000 in
theorem gX5_greedyCause_X5_explains : GoodIn wsX5_greedyCause (wsV RX5 117 RX5 yX5_explains wsX5_explains) := goodIn_app (goodIn_of _ (by decide +kernel)) ggX5_greedyCause_X5_explains
set_option maxRecDepth 20000 in
theorem ggX5_greedyCause_X5_goes : GoodIn wsX5_greedyCause wsX5_goes := goodIn_r _ [26, 27, 28, 29, 30, 31, 32, 33, 34, 35, 36, 37, 38, 39, 40, 41, 42, 43] (by decide +kernel) (by decide +kernel)
set_option maxRecDepth 20000 in
theorem gX5_greedyCause_X5_goes : GoodIn wsX5_greedyCause (wsV RX5 55 RX5 yX5_goes wsX5_goes) := goodIn_app (goodIn_of _ (by decide +kernel)) ggX5_greedyCause_X5_goes
set_option maxRecDepth 20000 in
theorem ggX5_causeOf_X5_isNode : GoodIn wsX5_causeOf wsX5_isNode := goodIn_r _ [5] (by decide +kernel) (by decide +kernel)
set_option maxRecDepth 20000 in
theorem gX5_causeOf_X5_isNode : GoodIn wsX5_causeOf (va_wsS RX5 51 yX5_isNode wsX5_isNode) := goodIn_app (goodIn_of _ (by decide +kernel)) ggX5_causeOf_X5_isNode
set_option maxRecDepth 20000 in
theorem ggX5_causeOf_X5_goes : GoodIn wsX5_causeOf wsX5_goes := goodIn_r _ [9, 10, 39, 40, 41, 42, 43, 44, 45, 46, 47, 48, 49, 50, 51, 52, 53, 54] (by decide +kernel) (by decide +kernel)
set_option maxRecDepth 20000 in
theorem gX5_causeOf_X5_goes : GoodIn wsX5_causeOf (wsV RX5 55 RX5 yX5_goes wsX5_goes) := goodIn_app (goodIn_of _ (by decide +kernel)) ggX5_causeOf_X5_goes
set_option maxRecDepth 20000 in
theorem ggX5_causeOf_X5_best : GoodIn wsX5_causeOf wsX5_best := goodIn_r _ [14, 1, 15, 16, 17, 4, 18, 19, 20, 21, 22, 23, 24, 25, 26, 27, 28, 29, 30, 31, 32, 33, 34, 39, 40, 41, 42, 43, 44, 45, 46, 47, 48, 49, 50, 51, 52, 53, 54] (by decide +kernel) (by decide +kernel)
set_option maxRecDepth 20000 in
theorem gX5_causeOf_X5_best : GoodIn wsX5_causeOf (wsV RX5 107 RX5 yX5_best wsX5_best) := goodIn_app (goodIn_of _ (by decide +kernel)) ggX5_causeOf_X5_best
set_option maxRecDepth 20000 in
theorem ggX5_causeOf_X5_has : GoodIn wsX5_causeOf wsX5_has := goodIn_r _ [22] (by decide +kernel) (by decide +kernel)
set_option maxRecDepth 20000 in
theorem gX5_causeOf_X5_has : GoodIn wsX5_causeOf (va_wsS RX5 47 yX5_has wsX5_has) := goodIn_app (goodIn_of _ (by decide +kernel)) ggX5_causeOf_X5_has
set_option maxRecDepth 20000 in
theorem ggX5_causeOf_X5_explains : GoodIn wsX5_causeOf wsX5_explains := goodIn_r _ [38, 34, 20, 21, 4, 22, 39, 40, 41, 42, 43, 44, 45, 46, 47, 48, 49, 50, 51, 52, 53, 54] (by decide +kernel) (by decide +kernel)
set_option maxRecDepth 20000 in
theorem gX5_causeOf_X5_explains : GoodIn wsX5_causeOf (wsV RX5 117 RX5 yX5_explains wsX5_explains) := goodIn_app (goodIn_of _ (by decide +kernel)) ggX5_causeOf_X5_explains
set_option maxRecDepth 20000 in
theorem ggL_need_X4_need : GoodIn wsL_need wsX4_need := goodIn_ca (goodIn_ca (goodIn_r _ [7, 8, 9, 10, 11, 12, 6, 13, 14, 15, 16, 17, 18, 19, 20, 21, 22, 23, 24, 25, 26, 27, 28, 29, 30, 31, 32, 33, 34, 35, 36, 37, 38, 39, 40, 41, 42, 43, 44, 45, 46, 47, 48, 49, 50, 51, 52, 53] (by decide +kernel) (by decide +kernel)) (goodIn_sub (fun _ h => List.mem_cons_of_mem _ (List.mem_append_left _ (List.mem_append_right _ h))) (by decide +kernel))) (goodIn_sub (fun _ h => List.mem_cons_of_mem _ (List.mem_append_right _ h)) (by decide +kernel))
set_option maxRecDepth 20000 in
theorem gL_need_X4_need : GoodIn wsL_need (wsV RL 7 RX4 yX4_need wsX4_need) := goodIn_app (goodIn_of _ (by decide +kernel)) ggL_need_X4_need
set_option maxRecDepth 20000 in
theorem ggL_release_X4_release : GoodIn wsL_release wsX4_release := goodIn_ca (goodIn_r _ [6, 7, 8, 9, 5, 10, 11, 12, 13, 14, 15, 16, 17, 18, 19, 20, 21, 22, 23, 24, 25, 26, 27, 28, 29, 30, 31, 32, 33, 34, 35, 36, 37, 38, 39, 40, 41, 42, 43, 44, 45] (by decide +kernel) (by decide +kernel)) (goodIn_sub (fun _ h => List.mem_cons_of_mem _ (List.mem_append_right _ h)) (by decide +kernel))
set_option maxRecDepth 20000 in
theorem gL_release_X4_release : GoodIn wsL_release (wsV RL 17 RX4 yX4_release wsX4_release) := goodIn_app (goodIn_of _ (by decide +kernel)) ggL_release_X4_release
set_option maxRecDepth 20000 in
theorem ggL_needs_X4_needs : GoodIn wsL_needs wsX4_needs := goodIn_ca (goodIn_r _ [6, 7, 8, 9, 5, 10, 11, 12, 13, 14, 15, 16, 17, 18, 19, 20, 21, 22, 23, 24, 25, 26, 27, 28, 29, 30, 31, 32, 33] (by decide +kernel) (by decide +kernel)) (goodIn_sub (fun _ h => List.mem_cons_of_mem _ (List.mem_append_right _ h)) (by decide +kernel))
set_option maxRecDepth 20000 in
theorem gL_needs_X4_needs : GoodIn wsL_needs (wsV RL 20 RX4 yX4_needs wsX4_needs) := goodIn_app (goodIn_of _ (by decide +kernel)) ggL_needs_X4_needs
set_option maxRecDepth 20000 in
theorem ggL_dependsOn_X4_dependsOn : GoodIn wsL_dependsOn wsX4_dependsOn := goodIn_ca (goodIn_r _ [6, 7, 8, 9, 5, 10, 11, 12, 13, 14, 15, 16, 17, 18, 19, 20, 21, 22, 23, 24, 25, 26, 27, 28, 29, 30, 31, 32, 33] (by decide +kernel) (by decide +kernel)) (goodIn_sub (fun _ h => List.mem_cons_of_mem _ (List.mem_append_right _ h)) (by decide +kernel))
set_option maxRecDepth 20000 in
theorem gL_dependsOn_X4_dependsOn : GoodIn wsL_dependsOn (wsV RL 23 RX4 yX4_dependsOn wsX4_dependsOn) := goodIn_app (goodIn_of _ (by decide +kernel)) ggL_dependsOn_X4_dependsOn
set_option maxRecDepth 20000 in
theorem ggL_height_X4_height : GoodIn wsL_height wsX4_height := goodIn_ca (goodIn_r _ [6, 7, 8, 9, 5, 10, 11, 12, 13, 14, 15, 16, 17, 18, 19, 20, 21, 22, 23, 24, 25, 26, 27, 28, 29, 30, 31, 32, 33, 34, 35] (by decide +kernel) (by decide +kernel)) (goodIn_sub (fun _ h => List.mem_cons_of_mem _ (List.mem_append_right _ h)) (by decide +kernel))
set_option maxRecDepth 20000 in
theorem gL_height_X4_height : GoodIn wsL_height (wsV RL 26 RX4 yX4_height wsX4_height) := goodIn_app (goodIn_of _ (by decide +kernel)) ggL_height_X4_height
set_option maxRecDepth 20000 in
theorem ggL_tick_X4_tick : GoodIn wsL_tick wsX4_tick := goodIn_ca (goodIn_r _ [6, 7, 8, 9, 5, 10, 11, 12, 13, 14, 15, 16, 17] (by decide +kernel) (by decide +kernel)) (goodIn_sub (fun _ h => List.mem_cons_of_mem _ (List.mem_append_right _ h)) (by decide +kernel))
set_option maxRecDepth 20000 in
theorem gL_tick_X4_tick : GoodIn wsL_tick (wsV RL 30 RX4 yX4_tick wsX4_tick) := goodIn_app (goodIn_of _ (by decide +kernel)) ggL_tick_X4_tick
