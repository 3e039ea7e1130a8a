set_option maxRecDepth 20000 in
theorem ggX0_init_X0_plausibleOf : GoodIn wsX0_init wsX0_plausibleOf := goodIn_r _ [10, 11, 12, 13, 14, 15, 16, 17, 18, 19, 23, 24, 25, 26] (by decide +kernel) (by decide +kernel)
set_option maxRecDepth 20000 in
theorem gX0_init_X0_plausibleOf : GoodIn wsX0_init (va_wsS RX0 19 yX0_plausibleOf wsX0_plausibleOf) := goodIn_app (goodIn_of _ (by decide +kernel)) ggX0_init_X0_plausibleOf
set_option maxRecDepth 20000 in
theorem ggX0_bestBySearch_X0_search : GoodIn wsX0_bestBySearch wsX0_search := goodIn_r _ [6, 7, 8, 9, 10, 11, 12, 13, 14, 15, 16, 17, 18, 19, 5, 20, 1, 21, 22, 23, 24, 25, 26, 27, 28, 29, 30, 31, 32, 33, 34, 35, 36, 37, 38, 3, 4, 39, 40, 41, 42, 43, 44, 45] (by decide +kernel) (by decide +kernel)
set_option maxRecDepth 20000 in
theorem gX0_bestBySearch_X0_search : GoodIn wsX0_bestBySearch (va_wsS RX0 26 yX0_search wsX0_search) := goodIn_app (goodIn_of _ (by decide +kernel)) ggX0_bestBySearch_X0_search
set_option maxRecDepth 20000 in
theorem ggX0_bestByTrying_J6_bitCount_0f7a4 : GoodIn wsX0_bestByTrying wsJ6_bitCount_0f7a4 := goodIn_r _ [6, 7, 8, 9] (by decide +kernel) (by decide +kernel)
set_option maxRecDepth 20000 in
theorem gX0_bestByTrying_J6_bitCount_0f7a4 : GoodIn wsX0_bestByTrying (va_wsS RX0 30 yJ6_bitCount_0f7a4 wsJ6_bitCount_0f7a4) := goodIn_app (goodIn_of _ (by decide +kernel)) ggX0_bestByTrying_J6_bitCount_0f7a4
set_option maxRecDepth 20000 in
theorem ggX0_bestByTrying_X0_isBetter : GoodIn wsX0_bestByTrying wsX0_isBetter := goodIn_r _ [14, 1, 3, 4, 5, 6, 7, 8, 9, 15, 16, 17, 18, 19, 20, 21, 22, 23, 35, 36, 37] (by decide +kernel) (by decide +kernel)
set_option maxRecDepth 20000 in
theorem gX0_bestByTrying_X0_isBetter : GoodIn wsX0_bestByTrying (wsV RX0 36 RX0 yX0_isBetter wsX0_isBetter) := goodIn_app (goodIn_of _ (by decide +kernel)) ggX0_bestByTrying_X0_isBetter
set_option maxRecDepth 20000 in
theorem ggX0_bestByTrying_X0_explainsAll : GoodIn wsX0_bestByTrying wsX0_explainsAll := goodIn_r _ [27, 1, 28, 19, 16, 20, 21, 22, 23, 29, 30, 31, 32, 33, 34, 35, 36, 37, 38, 39, 40, 41] (by decide +kernel) (by decide +kernel)
set_option maxRecDepth 20000 in
theorem gX0_bestByTrying_X0_explainsAll : GoodIn wsX0_bestByTrying (wsV RX0 40 RX0 yX0_explainsAll wsX0_explainsAll) := goodIn_app (goodIn_of _ (by decide +kernel)) ggX0_bestByTrying_X0_explainsAll
set_option maxRecDepth 20000 in
theorem ggX0_greedyCount_X0_greedyNext : GoodIn wsX0_greedyCount wsX0_greedyNext := goodIn_r _ [7, 8, 2, 1, 9, 10, 11, 12, 13, 14, 15, 16, 17, 18, 19, 20, 21, 22, 23, 24, 25, 26, 27, 28, 29, 30, 31, 32, 33, 34] (by decide +kernel) (by decide +kernel)
set_option maxRecDepth 20000 in
theorem gX0_greedyCount_X0_greedyNext : GoodIn wsX0_greedyCount (wsV RX0 44 RX0 yX0_greedyNext wsX0_greedyNext) := goodIn_app (goodIn_of _ (by decide +kernel)) ggX0_greedyCount_X0_greedyNext
set_option maxRecDepth 20000 in
theorem ggX0_greedyCount_X1_explainedBy : GoodIn wsX0_greedyCount wsX1_explainedBy := goodIn_r _ [19, 20, 13, 10, 14, 31, 32, 33, 34] (by decide +kernel) (by decide +kernel)
set_option maxRecDepth 20000 in
theorem gX0_greedyCount_X1_explainedBy : GoodIn wsX0_greedyCount (wsV RX0 47 RX1 yX1_explainedBy wsX1_explainedBy) := goodIn_app (goodIn_of _ (by decide +kernel)) ggX0_greedyCount_X1_explainedBy
set_option maxRecDepth 20000 in
theorem ggX0_greedyAt_X0_greedyNext : GoodIn wsX0_greedyAt wsX0_greedyNext := goodIn_r _ [7, 8, 2, 1, 9, 10, 11, 12, 13, 14, 15, 16, 17, 18, 19, 20, 21, 22, 23, 24, 25, 26, 27, 28, 29, 30, 31, 32, 33, 34] (by decide +kernel) (by decide +kernel)
set_option maxRecDepth 20000 in
theorem gX0_greedyAt_X0_greedyNext : GoodIn wsX0_greedyAt (wsV RX0 44 RX0 yX0_greedyNext wsX0_greedyNext) := goodIn_app (goodIn_of _ (by decide +kernel)) ggX0_greedyAt_X0_greedyNext
set_option maxRecDepth 20000 in
theorem ggX0_greedyAt_X1_explainedBy : GoodIn wsX0_greedyAt wsX1_explainedBy := goodIn_r _ [19, 20, 13, 10, 14, 31, 32, 33, 34] (by decide +kernel) (by decide +kernel)
set_option maxRecDepth 20000 in
theorem gX0_greedyAt_X1_explainedBy : GoodIn wsX0_greedyAt (wsV RX0 47 RX1 yX1_explainedBy wsX1_explainedBy) := goodIn_app (goodIn_of _ (by decide +kernel)) ggX0_greedyAt_X1_explainedBy
set_option maxRecDepth 20000 in
theorem ggX0_greedyNext_X4_has : GoodIn wsX0_greedyNext wsX4_has := goodIn_r _ [6, 7, 8, 5, 9] (by decide +kernel) (by decide +kernel)
set_option maxRecDepth 20000 in
theorem gX0_greedyNext_X4_has_n52 : GoodIn wsX0_greedyNext (wsX4_has) := ggX0_greedyNext_X4_has
set_option maxRecDepth 20000 in
theorem ggX0_greedyNext_X1_explainedBy : GoodIn wsX0_greedyNext wsX1_explainedBy := goodIn_r _ [14, 15, 8, 5, 9, 26, 27, 28, 29] (by decide +kernel) (by decide +kernel)
set_option maxRecDepth 20000 in
theorem gX0_greedyNext_X1_explainedBy : GoodIn wsX0_greedyNext (wsV RX0 47 RX1 yX1_explainedBy wsX1_explainedBy) := goodIn_app (goodIn_of _ (by decide +kernel)) ggX0_greedyNext_X1_explainedBy
set_option maxRecDepth 20000 in
theorem ggX0_greedyNext_J6_bitCount_0f7a4 : GoodIn wsX0_greedyNext wsJ6_bitCount_0f7a4 := goodIn_r _ [19, 20, 21, 22] (by decide +kernel) (by decide +kernel)
set_option maxRecDepth 20000 in
theorem gX0_greedyNext_J6_bitCount_0f7a4 : GoodIn wsX0_greedyNext (va_wsS RX0 30 yJ6_bitCount_0f7a4 wsJ6_bitCount_0f7a4) := goodIn_app (goodIn_of _ (by decide +kernel)) ggX0_greedyNext_J6_bitCount_0f7a4
set_option maxRecDepth 20000 in
theorem ggX0_search_X4_nodeAtPlace : GoodIn wsX0_search wsX4_nodeAtPlace := goodIn_r _ [4, 5, 6, 3, 7, 8, 9, 10] (by decide +kernel) (by decide +kernel)
set_option maxRecDepth 20000 in
theorem gX0_search_X4_nodeAtPlace_n55 : GoodIn wsX0_search (wsX4_nodeAtPlace) := ggX0_search_X4_nodeAtPlace
set_option maxRecDepth 20000 in
theorem ggX0_search_X0_isBetter : GoodIn wsX0_search wsX0_isBetter := goodIn_r _ [15, 16, 17, 18, 19, 20, 21, 22, 23, 2, 3, 4, 5, 6, 7, 8, 9, 10, 37, 38, 39] (by decide +kernel) (by decide +kernel)
set_option maxRecDepth 20000 in
theorem gX0_search_X0_isBetter : GoodIn wsX0_search (wsV RX0 36 RX0 yX0_isBetter wsX0_isBetter) := goodIn_app (goodIn_of _ (by decide +kernel)) ggX0_search_X0_isBetter
set_option maxRecDepth 20000 in
theorem ggX0_search_X1_explainersOf : GoodIn wsX0_search wsX1_explainersOf := goodIn_r _ [28, 29, 9, 3, 10, 40, 41, 42, 43] (by decide +kernel) (by decide +kernel)
set_option maxRecDepth 20000 in
theorem gX0_search_X1_explainersOf : GoodIn wsX0_search (wsV RX0 59 RX1 yX1_explainersOf wsX1_explainersOf) := goodIn_app (goodIn_of _ (by decide +kernel)) ggX0_search_X1_explainersOf
set_option maxRecDepth 20000 in
theorem ggX0_search_J6_bitCount_0f7a4 : GoodIn wsX0_search wsJ6_bitCount_0f7a4 := goodIn_r _ [20, 21, 22, 23] (by decide +kernel) (by decide +kernel)
set_option maxRecDepth 20000 in
theorem gX0_search_J6_bitCount_0f7a4 : GoodIn wsX0_search (va_wsS RX0 30 yJ6_bitCount_0f7a4 wsJ6_bitCount_0f7a4) := goodIn_app (goodIn_of _ (by decide +kernel)) ggX0_search_J6_bitCount_0f7a4
set_option maxRecDepth 20000 in
theorem ggX0_search_X4_has : GoodIn wsX0_search wsX4_has := goodIn_r _ [7, 8, 9, 3, 10] (by decide +kernel) (by decide +kernel)
set_option maxRecDepth 20000 in
theorem gX0_search_X4_has_n52 : GoodIn wsX0_search (wsX4_has) := ggX0_search_X4_has
set_option maxRecDepth 20000 in
theorem ggX0_search_X4_only : GoodIn wsX0_search wsX4_only := goodIn_r _ [10] (by decide +kernel) (by decide +kernel)
set_option maxRecDepth 20000 in
theorem gX0_search_X4_only_n62 : GoodIn wsX0_search (wsX4_only) := ggX0_search_X4_only
set_option maxRecDepth 20000 in
theorem ggX0_search_X1_explainedBy : GoodIn wsX0_search wsX1_explainedBy := goodIn_r _ [33, 34, 9, 3, 10, 40, 41, 42, 43] (by decide +kernel) (by decide +kernel)
set_option maxRecDepth 20000 in
theorem gX0_search_X1_explainedBy : GoodIn wsX0_search (wsV RX0 47 RX1 yX1_explainedBy wsX1_explainedBy) := goodIn_app (goodIn_of _ (by decide +kernel)) ggX0_search_X1_explainedBy
set_option maxRecDepth 20000 in
theorem ggX0_search_X0_search : GoodIn wsX0_search wsX0_search := goodIn_r _ [0, 1, 2, 3, 4, 5, 6, 7, 8, 9, 10, 11, 12, 13, 14, 15, 16, 17, 18, 19, 20, 21, 22, 23, 24, 25, 26, 27, 28, 29, 30, 31, 32, 33, 34, 35, 36, 37, 38, 39, 40, 41, 42, 43] (by decide +kernel) (by decide +kernel)
set_option maxRecDepth 20000 in
theorem gX0_search_X0_search : GoodIn wsX0_search (va_wsS RX0 26 yX0_search wsX0_search) := goodIn_app (goodIn_of _ (by decide +kernel)) ggX0_search_X0_search
set_option maxRecDepth 20000 in
theorem ggX0_isBetter_J6_bitCount_0f7a4 : GoodIn wsX0_isBetter wsJ6_bitCount_0f7a4 := goodIn_r _ [5, 6, 7, 8] (by decide +kernel) (by decide +kernel)
set_option maxRecDepth 20000 in
theorem gX0_isBetter_J6_bitCount_0f7a4 : GoodIn wsX0_isBetter (va_wsS RX0 30 yJ6_bitCount_0f7a4 wsJ6_bitCount_0f7a4) := goodIn_app (goodIn_of _ (by decide +kernel)) ggX0_isBetter_J6_bitCount_0f7a4
set_option maxRecDepth 20000 in
theorem ggX0_isBetter_X4_nodeAtPlace : GoodIn wsX0_isBetter wsX4_nodeAtPlace := goodIn_r _ [11, 12, 13, 10, 14, 15, 16, 17] (by decide +kernel) (by decide +kernel)
set_option maxRecDepth 20000 in
theorem gX0_isBetter_X4_nodeAtPlace_n55 : GoodIn wsX0_isBetter (wsX4_nodeAtPlace) := ggX0_isBetter_X4_nodeAtPlace
set_option maxRecDepth 20000 in
theorem ggX0_isBetter_X4_has : GoodIn wsX0_isBetter wsX4_has := goodIn_r _ [14, 15, 16, 10, 17] (by decide +kernel) (by decide +kernel)
set_option maxRecDepth 20000 in
theorem gX0_isBetter_X4_has_n52 : GoodIn wsX0_isBetter (wsX4_has) := ggX0_isBetter_X4_has
set_option maxRecDepth 20000 in
theorem ggX0_explainsAll_X4_has : GoodIn wsX0_explainsAll wsX4_has := goodIn_r _ [5, 6, 7, 4, 8] (by decide +kernel) (by decide +kernel)
set_option maxRecDepth 20000 in
theorem gX0_explainsAll_X4_has_n52 : GoodIn wsX0_explainsAll (wsX4_has) := ggX0_explainsAll_X4_has
set_option maxRecDepth 20000 in
theorem ggX0_explainsAll_X1_explainersOf : GoodIn wsX0_explainsAll wsX1_explainersOf := goodIn_r _ [13, 14, 7, 4, 8, 18, 19, 20, 21] (by decide +kernel) (by decide +kernel)
set_option maxRecDepth 20000 in
theorem gX0_explainsAll_X1_explainersOf : GoodIn wsX0_explainsAll (wsV RX0 59 RX1 yX1_explainersOf wsX1_explainersOf) := goodIn_app (goodIn_of _ (by decide +kernel)) ggX0_explainsAll_X1_explainersOf
set_option maxRecDepth 20000 in
theorem ggX0_plausibleOf_X1_users : GoodIn wsX0_plausibleOf wsX1_users := goodIn_r _ [5, 6, 10, 11, 12, 13] (by decide +kernel) (by decide +kernel)
set_option maxRecDepth 20000 in
theorem gX0_plausibleOf_X1_users : GoodIn wsX0_plausibleOf (wsV RX0 65 RX1 yX1_users wsX1_users) := goodIn_app (goodIn_of _ (by decide +kernel)) ggX0_plausibleOf_X1_users
set_option maxRecDepth 20000 in
theorem ggX0_plausibleOf_X4_only : GoodIn wsX0_plausibleOf wsX4_only := goodIn_r _ [9] (by decide +kernel) (by decide +kernel)
set_option maxRecDepth 20000 in
theorem gX0_plausibleOf_X4_only_n62 : GoodIn wsX0_plausibleOf (wsX4_only) := ggX0_plausibleOf_X4_only
set_option maxRecDepth 20000 in
theorem ggX1_explainersOf_X4_only : GoodIn wsX1_explainersOf wsX4_only := goodIn_r _ [4] (by decide +kernel) (by decide +kernel)
set_option maxRecDepth 20000 in
theorem gX1_explainersOf_X4_only_n24 : GoodIn wsX1_explainersOf (wsX4_only) := ggX1_explainersOf_X4_only
set_option maxRecDepth 20000 in
theorem ggX1_explainedBy_X4_only : GoodIn wsX1_explainedBy wsX4_only := goodIn_r _ [4] (by decide +kernel) (by decide +kernel)
set_option maxRecDepth 20000 in
theorem gX1_explainedBy_X4_only_n24 : GoodIn wsX1_explainedBy (wsX4_only) := ggX1_explainedBy_X4_only
set_option maxRecDepth 20000 in
theorem ggX1_link_X4_has : GoodIn wsX1_link wsX4_has := goodIn_r _ [5, 6, 7, 4, 8] (by decide +kernel) (by decide +kernel)
set_option maxRecDepth 20000 in
theorem gX1_link_X4_has_n28 : GoodIn wsX1_link (wsX4_has) := ggX1_link_X4_has
set_option maxRecDepth 20000 in
theorem ggX1_link_X4_only : GoodIn wsX1_link wsX4_only := goodIn_r _ [8] (by decide +kernel) (by decide +kernel)
set_option maxRecDepth 20000 in
theorem gX1_link_X4_only_n24 : GoodIn wsX1_link (wsX4_only) := ggX1_link_X4_only
set_option maxRecDepth 20000 in
theorem ggX1_link_X1_followAll : GoodIn wsX1_link wsX1_followAll := goodIn_r _ [13, 14, 1, 15, 2, 16, 17, 12, 18, 7, 4, 8, 19, 20, 21, 3, 5, 6, 22, 23, 24, 25] (by decide +kernel) (by decide +kernel)
set_option maxRecDepth 20000 in
theorem gX1_link_X1_followAll : GoodIn wsX1_link (wsV RX1 32 RX1 yX1_followAll wsX1_followAll) := goodIn_app (goodIn_of _ (by decide +kernel)) ggX1_link_X1_followAll
set_option maxRecDepth 20000 in
theorem ggX1_unlink_X4_has : GoodIn wsX1_unlink wsX4_has := goodIn_r _ [5, 6, 7, 4, 8] (by decide +kernel) (by decide +kernel)
set_option maxRecDepth 20000 in
theorem gX1_unlink_X4_has_n28 : GoodIn wsX1_unlink (wsX4_has) := ggX1_unlink_X4_has
set_option maxRecDepth 20000 in
theorem ggX1_unlink_X4_only : GoodIn wsX1_unlink wsX4_only := goodIn_r _ [8] (by decide +kernel) (by decide +kernel)
set_option maxRecDepth 20000 in
theorem gX1_unlink_X4_only_n24 : GoodIn wsX1_unlink (wsX4_only) := ggX1_unlink_X4_only
set_option maxRecDepth 20000 in
theorem ggX1_unlink_X1_followAll : GoodIn wsX1_unlink wsX1_followAll := goodIn_r _ [13, 14, 1, 15, 2, 16, 17, 12, 18, 7, 4, 8, 19, 20, 21, 3, 5, 6, 22, 23, 24, 25] (by decide +kernel) (by decide +kernel)
set_option maxRecDepth 20000 in
theorem gX1_unlink_X1_followAll : GoodIn wsX1_unlink (wsV RX1 32 RX1 yX1_followAll wsX1_followAll) := goodIn_app (goodIn_of _ (by decide +kernel)) ggX1_unlink_X1_followAll
set_option maxRecDepth 20000 in
theorem ggX1_longestWayDown_X4_only : GoodIn wsX1_longestWayDown wsX4_only := goodIn_r _ [4] (by decide +kernel) (by decide +kernel)
set_option maxRecDepth 20000 in
theorem gX1_longestWayDown_X4_only_n24 : GoodIn wsX1_longestWayDown (wsX4_only) := ggX1_longestWayDown_X4_only
set_option maxRecDepth 20000 in
theorem ggX1_longestWayDown_X1_step : GoodIn wsX1_longestWayDown wsX1_step := goodIn_r _ [8, 9, 3, 10, 11, 2, 4] (by decide +kernel) (by decide +kernel)
set_option maxRecDepth 20000 in
theorem gX1_longestWayDown_X1_step : GoodIn wsX1_longestWayDown (va_wsS RX1 35 yX1_step wsX1_step) := goodIn_app (goodIn_of _ (by decide +kernel)) ggX1_longestWayDown_X1_step
set_option maxRecDepth 20000 in
theorem ggX1_followAll_X1_follow : GoodIn wsX1_followAll wsX1_follow := goodIn_r _ [8, 9, 10, 11, 12, 13, 7, 14, 15, 16, 17] (by decide +kernel) (by decide +kernel)
set_option maxRecDepth 20000 in
theorem gX1_followAll_X1_follow : GoodIn wsX1_followAll (va_wsS RX1 39 yX1_follow wsX1_follow) := goodIn_app (goodIn_of _ (by decide +kernel)) ggX1_followAll_X1_follow
set_option maxRecDepth 20000 in
theorem ggX1_follow_X4_only : GoodIn wsX1_follow wsX4_only := goodIn_r _ [3] (by decide +kernel) (by decide +kernel)
set_option maxRecDepth 20000 in
theorem gX1_follow_X4_only_n24 : GoodIn wsX1_follow (wsX4_only) := ggX1_follow_X4_only
