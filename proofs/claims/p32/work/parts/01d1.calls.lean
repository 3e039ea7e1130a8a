set_option maxRecDepth 20000 in
theorem ggX1_follow_X1_step : GoodIn wsX1_follow wsX1_step := goodIn_r _ [7, 8, 2, 9, 10, 1, 3] (by decide +kernel) (by decide +kernel)
set_option maxRecDepth 20000 in
theorem gX1_follow_X1_step : GoodIn wsX1_follow (va_wsS RX1 35 yX1_step wsX1_step) := goodIn_app (goodIn_of _ (by decide +kernel)) ggX1_follow_X1_step
set_option maxRecDepth 20000 in
theorem ggX1_step_X4_has : GoodIn wsX1_step wsX4_has := goodIn_r _ [3, 4, 5, 2, 6] (by decide +kernel) (by decide +kernel)
set_option maxRecDepth 20000 in
theorem gX1_step_X4_has_n28 : GoodIn wsX1_step (wsX4_has) := ggX1_step_X4_has
set_option maxRecDepth 20000 in
theorem ggX2_addRaise_X2_add : GoodIn wsX2_addRaise wsX2_add := goodIn_r _ [6, 7, 8, 9, 10, 11, 12, 13, 14, 15, 16, 17] (by decide +kernel) (by decide +kernel)
set_option maxRecDepth 20000 in
theorem gX2_addRaise_X2_add : GoodIn wsX2_addRaise (wsV RX2 31 RX2 yX2_add wsX2_add) := goodIn_app (goodIn_of _ (by decide +kernel)) ggX2_addRaise_X2_add
set_option maxRecDepth 20000 in
theorem ggX2_addClear_X2_add : GoodIn wsX2_addClear wsX2_add := goodIn_r _ [6, 7, 8, 9, 10, 11, 12, 13, 14, 15, 16, 17] (by decide +kernel) (by decide +kernel)
set_option maxRecDepth 20000 in
theorem gX2_addClear_X2_add : GoodIn wsX2_addClear (wsV RX2 31 RX2 yX2_add wsX2_add) := goodIn_app (goodIn_of _ (by decide +kernel)) ggX2_addClear_X2_add
set_option maxRecDepth 20000 in
theorem ggX3_sizeOf_X3_isUsed : GoodIn wsX3_sizeOf wsX3_isUsed := goodIn_r _ [6, 7, 8, 9, 10, 11] (by decide +kernel) (by decide +kernel)
set_option maxRecDepth 20000 in
theorem gX3_sizeOf_X3_isUsed : GoodIn wsX3_sizeOf (wsV RX3 22 RX3 yX3_isUsed wsX3_isUsed) := goodIn_app (goodIn_of _ (by decide +kernel)) ggX3_sizeOf_X3_isUsed
set_option maxRecDepth 20000 in
theorem ggX3_join_X3_unite : GoodIn wsX3_join wsX3_unite := goodIn_r _ [7, 1, 2, 8, 9, 10, 11, 12, 13, 14, 15, 16, 17, 18, 19, 20, 6, 21, 22, 23, 24, 25, 26, 27, 28, 29] (by decide +kernel) (by decide +kernel)
set_option maxRecDepth 20000 in
theorem gX3_join_X3_unite : GoodIn wsX3_join (wsV RX3 33 RX3 yX3_unite wsX3_unite) := goodIn_app (goodIn_of _ (by decide +kernel)) ggX3_join_X3_unite
set_option maxRecDepth 20000 in
theorem ggX3_leave_X3_sizeOf : GoodIn wsX3_leave wsX3_sizeOf := goodIn_r _ [6, 1, 7, 8, 9, 5, 10, 11, 12, 13, 14, 15] (by decide +kernel) (by decide +kernel)
set_option maxRecDepth 20000 in
theorem gX3_leave_X3_sizeOf : GoodIn wsX3_leave (wsV RX3 26 RX3 yX3_sizeOf wsX3_sizeOf) := goodIn_app (goodIn_of _ (by decide +kernel)) ggX3_leave_X3_sizeOf
set_option maxRecDepth 20000 in
theorem ggX3_unite_X4_has : GoodIn wsX3_unite wsX4_has := goodIn_r _ [9, 10, 11, 8, 12] (by decide +kernel) (by decide +kernel)
set_option maxRecDepth 20000 in
theorem gX3_unite_X4_has_n36 : GoodIn wsX3_unite (wsX4_has) := ggX3_unite_X4_has
set_option maxRecDepth 20000 in
theorem ggX3_unite_X3_merge : GoodIn wsX3_unite wsX3_merge := goodIn_r _ [17, 2, 18, 19, 20, 21, 16, 22, 1, 23, 24, 25] (by decide +kernel) (by decide +kernel)
set_option maxRecDepth 20000 in
theorem gX3_unite_X3_merge : GoodIn wsX3_unite (wsV RX3 46 RX3 yX3_merge wsX3_merge) := goodIn_app (goodIn_of _ (by decide +kernel)) ggX3_unite_X3_merge
set_option maxRecDepth 20000 in
theorem ggX3_merge_X3_isUsed : GoodIn wsX3_merge wsX3_isUsed := goodIn_r _ [7, 8, 2, 9, 10, 11] (by decide +kernel) (by decide +kernel)
set_option maxRecDepth 20000 in
theorem gX3_merge_X3_isUsed : GoodIn wsX3_merge (wsV RX3 22 RX3 yX3_isUsed wsX3_isUsed) := goodIn_app (goodIn_of _ (by decide +kernel)) ggX3_merge_X3_isUsed
set_option maxRecDepth 20000 in
theorem ggX4_init_X1_init : GoodIn wsX4_init wsX1_init := goodIn_r _ [19, 20, 2, 3, 21, 22, 23, 24, 25, 42, 43, 44, 45] (by decide +kernel) (by decide +kernel)
set_option maxRecDepth 20000 in
theorem gX4_init_X1_init_n9 : GoodIn wsX4_init (wsX1_init) := ggX4_init_X1_init
set_option maxRecDepth 20000 in
theorem ggX4_init_X2_init : GoodIn wsX4_init wsX2_init := goodIn_r _ [27, 28, 2, 3, 21, 29, 30, 31, 32, 33, 34, 51, 52, 53, 54, 55, 56] (by decide +kernel) (by decide +kernel)
set_option maxRecDepth 20000 in
theorem gX4_init_X2_init_n18 : GoodIn wsX4_init (wsX2_init) := ggX4_init_X2_init
set_option maxRecDepth 20000 in
theorem ggX4_init_X3_init : GoodIn wsX4_init wsX3_init := goodIn_r _ [37, 38, 2, 3, 21, 39, 40, 41, 57, 58, 59] (by decide +kernel) (by decide +kernel)
set_option maxRecDepth 20000 in
theorem gX4_init_X3_init : GoodIn wsX4_init (wsX3_init) := ggX4_init_X3_init
set_option maxRecDepth 20000 in
theorem ggX4_need_X4_checkNode : GoodIn wsX4_need wsX4_checkNode := goodIn_ca (goodIn_r _ [7, 8, 9] (by decide +kernel) (by decide +kernel)) (goodIn_sub (fun _ h => List.mem_cons_of_mem _ (List.mem_append_right _ h)) (by decide +kernel))
set_option maxRecDepth 20000 in
theorem gX4_need_X4_checkNode : GoodIn wsX4_need (va_wsS RX4 37 yX4_checkNode wsX4_checkNode) := goodIn_app (goodIn_of _ (by decide +kernel)) ggX4_need_X4_checkNode
set_option maxRecDepth 20000 in
theorem ggX4_need_X1_below : GoodIn wsX4_need wsX1_below := goodIn_r _ [14, 15, 44, 45, 46, 47] (by decide +kernel) (by decide +kernel)
set_option maxRecDepth 20000 in
theorem gX4_need_X1_below : GoodIn wsX4_need (wsV RX4 41 RX1 yX1_below wsX1_below) := goodIn_app (goodIn_of _ (by decide +kernel)) ggX4_need_X1_below
set_option maxRecDepth 20000 in
theorem ggX4_need_X4_has : GoodIn wsX4_need wsX4_has := goodIn_r _ [18, 19, 20, 6, 21] (by decide +kernel) (by decide +kernel)
set_option maxRecDepth 20000 in
theorem gX4_need_X4_has : GoodIn wsX4_need (va_wsS RX4 45 yX4_has wsX4_has) := goodIn_app (goodIn_of _ (by decide +kernel)) ggX4_need_X4_has
set_option maxRecDepth 20000 in
theorem ggX4_need_X1_link : GoodIn wsX4_need wsX1_link := goodIn_r _ [25, 26, 27, 17, 6, 18, 19, 20, 21, 28, 29, 30, 13, 31, 15, 32, 33, 34, 35, 36, 37, 38, 44, 45, 46, 47] (by decide +kernel) (by decide +kernel)
set_option maxRecDepth 20000 in
theorem gX4_need_X1_link : GoodIn wsX4_need (wsV RX4 56 RX1 yX1_link wsX1_link) := goodIn_app (goodIn_of _ (by decide +kernel)) ggX4_need_X1_link
set_option maxRecDepth 20000 in
theorem ggX4_release_X4_checkNode : GoodIn wsX4_release wsX4_checkNode := goodIn_ca (goodIn_r _ [5, 6, 7] (by decide +kernel) (by decide +kernel)) (goodIn_sub (fun _ h => List.mem_cons_of_mem _ (List.mem_append_right _ h)) (by decide +kernel))
set_option maxRecDepth 20000 in
theorem gX4_release_X4_checkNode : GoodIn wsX4_release (va_wsS RX4 37 yX4_checkNode wsX4_checkNode) := goodIn_app (goodIn_of _ (by decide +kernel)) ggX4_release_X4_checkNode
set_option maxRecDepth 20000 in
theorem ggX4_release_X1_unlink : GoodIn wsX4_release wsX1_unlink := goodIn_r _ [12, 13, 14, 15, 4, 16, 17, 18, 19, 20, 21, 22, 11, 23, 24, 25, 26, 27, 28, 29, 30, 31, 37, 38, 39, 40] (by decide +kernel) (by decide +kernel)
set_option maxRecDepth 20000 in
theorem gX4_release_X1_unlink : GoodIn wsX4_release (wsV RX4 59 RX1 yX1_unlink wsX1_unlink) := goodIn_app (goodIn_of _ (by decide +kernel)) ggX4_release_X1_unlink
set_option maxRecDepth 20000 in
theorem ggX4_needs_X4_checkNode : GoodIn wsX4_needs wsX4_checkNode := goodIn_ca (goodIn_r _ [5, 6, 7] (by decide +kernel) (by decide +kernel)) (goodIn_sub (fun _ h => List.mem_cons_of_mem _ (List.mem_append_right _ h)) (by decide +kernel))
set_option maxRecDepth 20000 in
theorem gX4_needs_X4_checkNode : GoodIn wsX4_needs (va_wsS RX4 37 yX4_checkNode wsX4_checkNode) := goodIn_app (goodIn_of _ (by decide +kernel)) ggX4_needs_X4_checkNode
set_option maxRecDepth 20000 in
theorem ggX4_needs_X1_needed : GoodIn wsX4_needs wsX1_needed := goodIn_r _ [12, 13, 25, 26, 27, 28] (by decide +kernel) (by decide +kernel)
set_option maxRecDepth 20000 in
theorem gX4_needs_X1_needed : GoodIn wsX4_needs (wsV RX4 62 RX1 yX1_needed wsX1_needed) := goodIn_app (goodIn_of _ (by decide +kernel)) ggX4_needs_X1_needed
set_option maxRecDepth 20000 in
theorem ggX4_needs_X4_has : GoodIn wsX4_needs wsX4_has := goodIn_r _ [16, 17, 18, 4, 19] (by decide +kernel) (by decide +kernel)
set_option maxRecDepth 20000 in
theorem gX4_needs_X4_has : GoodIn wsX4_needs (va_wsS RX4 45 yX4_has wsX4_has) := goodIn_app (goodIn_of _ (by decide +kernel)) ggX4_needs_X4_has
set_option maxRecDepth 20000 in
theorem ggX4_dependsOn_X4_checkNode : GoodIn wsX4_dependsOn wsX4_checkNode := goodIn_ca (goodIn_r _ [5, 6, 7] (by decide +kernel) (by decide +kernel)) (goodIn_sub (fun _ h => List.mem_cons_of_mem _ (List.mem_append_right _ h)) (by decide +kernel))
set_option maxRecDepth 20000 in
theorem gX4_dependsOn_X4_checkNode : GoodIn wsX4_dependsOn (va_wsS RX4 37 yX4_checkNode wsX4_checkNode) := goodIn_app (goodIn_of _ (by decide +kernel)) ggX4_dependsOn_X4_checkNode
set_option maxRecDepth 20000 in
theorem ggX4_dependsOn_X1_below : GoodIn wsX4_dependsOn wsX1_below := goodIn_r _ [12, 13, 25, 26, 27, 28] (by decide +kernel) (by decide +kernel)
set_option maxRecDepth 20000 in
theorem gX4_dependsOn_X1_below : GoodIn wsX4_dependsOn (wsV RX4 41 RX1 yX1_below wsX1_below) := goodIn_app (goodIn_of _ (by decide +kernel)) ggX4_dependsOn_X1_below
set_option maxRecDepth 20000 in
theorem ggX4_dependsOn_X4_has : GoodIn wsX4_dependsOn wsX4_has := goodIn_r _ [16, 17, 18, 4, 19] (by decide +kernel) (by decide +kernel)
set_option maxRecDepth 20000 in
theorem gX4_dependsOn_X4_has : GoodIn wsX4_dependsOn (va_wsS RX4 45 yX4_has wsX4_has) := goodIn_app (goodIn_of _ (by decide +kernel)) ggX4_dependsOn_X4_has
set_option maxRecDepth 20000 in
theorem ggX4_height_X4_checkNode : GoodIn wsX4_height wsX4_checkNode := goodIn_ca (goodIn_r _ [5, 6, 7] (by decide +kernel) (by decide +kernel)) (goodIn_sub (fun _ h => List.mem_cons_of_mem _ (List.mem_append_right _ h)) (by decide +kernel))
set_option maxRecDepth 20000 in
theorem gX4_height_X4_checkNode : GoodIn wsX4_height (va_wsS RX4 37 yX4_checkNode wsX4_checkNode) := goodIn_app (goodIn_of _ (by decide +kernel)) ggX4_height_X4_checkNode
set_option maxRecDepth 20000 in
theorem ggX4_height_X1_longestWayDown : GoodIn wsX4_height wsX1_longestWayDown := goodIn_r _ [12, 13, 14, 4, 15, 16, 17, 11, 18, 19, 20, 21, 27, 28, 29, 30] (by decide +kernel) (by decide +kernel)
set_option maxRecDepth 20000 in
theorem gX4_height_X1_longestWayDown : GoodIn wsX4_height (wsV RX4 65 RX1 yX1_longestWayDown wsX1_longestWayDown) := goodIn_app (goodIn_of _ (by decide +kernel)) ggX4_height_X1_longestWayDown
set_option maxRecDepth 20000 in
theorem ggX4_tick_X4_checkTicks : GoodIn wsX4_tick wsX4_checkTicks := goodIn_ca (goodIn_r _ [5, 6, 7] (by decide +kernel) (by decide +kernel)) (goodIn_sub (fun _ h => List.mem_cons_of_mem _ (List.mem_append_right _ h)) (by decide +kernel))
set_option maxRecDepth 20000 in
theorem gX4_tick_X4_checkTicks : GoodIn wsX4_tick (va_wsS RX4 68 yX4_checkTicks wsX4_checkTicks) := goodIn_app (goodIn_of _ (by decide +kernel)) ggX4_tick_X4_checkTicks
set_option maxRecDepth 20000 in
theorem ggX4_raise_X4_checkNode : GoodIn wsX4_raise wsX4_checkNode := goodIn_ca (goodIn_r _ [9, 10, 11] (by decide +kernel) (by decide +kernel)) (goodIn_sub (fun _ h => List.mem_cons_of_mem _ (List.mem_append_left _ (List.mem_append_right _ h))) (by decide +kernel))
set_option maxRecDepth 20000 in
theorem gX4_raise_X4_checkNode : GoodIn wsX4_raise (va_wsS RX4 37 yX4_checkNode wsX4_checkNode) := goodIn_app (goodIn_of _ (by decide +kernel)) ggX4_raise_X4_checkNode
set_option maxRecDepth 20000 in
theorem ggX4_raise_X4_has : GoodIn wsX4_raise wsX4_has := goodIn_r _ [14, 15, 16, 8, 17] (by decide +kernel) (by decide +kernel)
set_option maxRecDepth 20000 in
theorem gX4_raise_X4_has : GoodIn wsX4_raise (va_wsS RX4 45 yX4_has wsX4_has) := goodIn_app (goodIn_of _ (by decide +kernel)) ggX4_raise_X4_has
set_option maxRecDepth 20000 in
theorem ggX4_raise_X4_checkChange : GoodIn wsX4_raise wsX4_checkChange := goodIn_ca (goodIn_r _ [21, 22, 23, 2, 24, 25, 26, 27, 28, 29, 78, 79, 80, 81, 82, 83, 84, 85, 86, 87, 88] (by decide +kernel) (by decide +kernel)) (goodIn_sub (fun _ h => List.mem_cons_of_mem _ (List.mem_append_right _ h)) (by decide +kernel))
set_option maxRecDepth 20000 in
theorem gX4_raise_X4_checkChange : GoodIn wsX4_raise (wsV RX4 72 RX4 yX4_checkChange wsX4_checkChange) := goodIn_app (goodIn_of _ (by decide +kernel)) ggX4_raise_X4_checkChange
set_option maxRecDepth 20000 in
theorem ggX4_raise_X2_addRaise : GoodIn wsX4_raise wsX2_addRaise := goodIn_r _ [33, 34, 35, 36, 37, 27, 38, 39, 29, 40, 41, 42, 83, 84, 85, 86, 87, 88] (by decide +kernel) (by decide +kernel)
set_option maxRecDepth 20000 in
theorem gX4_raise_X2_addRaise : GoodIn wsX4_raise (wsV RX4 76 RX2 yX2_addRaise wsX2_addRaise) := goodIn_app (goodIn_of _ (by decide +kernel)) ggX4_raise_X2_addRaise
set_option maxRecDepth 20000 in
theorem ggX4_raise_X1_below : GoodIn wsX4_raise wsX1_below := goodIn_r _ [47, 48, 89, 90, 91, 92] (by decide +kernel) (by decide +kernel)
set_option maxRecDepth 20000 in
theorem gX4_raise_X1_below : GoodIn wsX4_raise (wsV RX4 41 RX1 yX1_below wsX1_below) := goodIn_app (goodIn_of _ (by decide +kernel)) ggX4_raise_X1_below
set_option maxRecDepth 20000 in
theorem ggX4_raise_X1_above : GoodIn wsX4_raise wsX1_above := goodIn_r _ [52, 53, 89, 90, 91, 92] (by decide +kernel) (by decide +kernel)
set_option maxRecDepth 20000 in
theorem gX4_raise_X1_above : GoodIn wsX4_raise (wsV RX4 79 RX1 yX1_above wsX1_above) := goodIn_app (goodIn_of _ (by decide +kernel)) ggX4_raise_X1_above
set_option maxRecDepth 20000 in
theorem ggX4_raise_X4_only : GoodIn wsX4_raise wsX4_only := goodIn_r _ [17] (by decide +kernel) (by decide +kernel)
set_option maxRecDepth 20000 in
theorem gX4_raise_X4_only : GoodIn wsX4_raise (va_wsS RX4 82 yX4_only wsX4_only) := goodIn_app (goodIn_of _ (by decide +kernel)) ggX4_raise_X4_only
set_option maxRecDepth 20000 in
theorem ggX4_raise_X3_join : GoodIn wsX4_raise wsX3_join := goodIn_r _ [58, 59, 60, 61, 62, 63, 57, 64, 65, 66, 67, 68, 13, 8, 14, 15, 16, 17, 69, 70, 71, 72, 73, 74, 75, 76, 77, 93, 94, 95] (by decide +kernel) (by decide +kernel)
set_option maxRecDepth 20000 in
theorem gX4_raise_X3_join : GoodIn wsX4_raise (wsV RX4 85 RX3 yX3_join wsX3_join) := goodIn_app (goodIn_of _ (by decide +kernel)) ggX4_raise_X3_join
set_option maxRecDepth 20000 in
theorem ggX4_clear_X4_checkNode : GoodIn wsX4_clear wsX4_checkNode := goodIn_ca (goodIn_r _ [8, 9, 10] (by decide +kernel) (by decide +kernel)) (goodIn_sub (fun _ h => List.mem_cons_of_mem _ (List.mem_append_left _ (List.mem_append_right _ h))) (by decide +kernel))
set_option maxRecDepth 20000 in
theorem gX4_clear_X4_checkNode : GoodIn wsX4_clear (va_wsS RX4 37 yX4_checkNode wsX4_checkNode) := goodIn_app (goodIn_of _ (by decide +kernel)) ggX4_clear_X4_checkNode
set_option maxRecDepth 20000 in
theorem ggX4_clear_X4_has : GoodIn wsX4_clear wsX4_has := goodIn_r _ [13, 14, 15, 7, 16] (by decide +kernel) (by decide +kernel)
set_option maxRecDepth 20000 in
theorem gX4_clear_X4_has : GoodIn wsX4_clear (va_wsS RX4 45 yX4_has wsX4_has) := goodIn_app (goodIn_of _ (by decide +kernel)) ggX4_clear_X4_has
set_option maxRecDepth 20000 in
theorem ggX4_clear_X4_checkChange : GoodIn wsX4_clear wsX4_checkChange := goodIn_ca (goodIn_r _ [20, 21, 22, 2, 23, 24, 25, 26, 27, 28, 58, 59, 60, 61, 62, 63, 64, 65, 66, 67, 68] (by decide +kernel) (by decide +kernel)) (goodIn_sub (fun _ h => List.mem_cons_of_mem _ (List.mem_append_right _ h)) (by decide +kernel))
set_option maxRecDepth 20000 in
theorem gX4_clear_X4_checkChange : GoodIn wsX4_clear (wsV RX4 72 RX4 yX4_checkChange wsX4_checkChange) := goodIn_app (goodIn_of _ (by decide +kernel)) ggX4_clear_X4_checkChange
set_option maxRecDepth 20000 in
theorem ggX4_clear_X2_addClear : GoodIn wsX4_clear wsX2_addClear := goodIn_r _ [32, 33, 34, 35, 36, 26, 37, 38, 28, 39, 40, 41, 63, 64, 65, 66, 67, 68] (by decide +kernel) (by decide +kernel)
