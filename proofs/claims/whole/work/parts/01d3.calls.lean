set_option maxRecDepth 20000 in
theorem ggL_raise_X4_raise : GoodIn wsL_raise wsX4_raise := goodIn_ca (goodIn_ca (goodIn_r _ [7, 8, 9, 10, 11, 12, 13, 14, 6, 15, 16, 17, 18, 19, 20, 21, 22, 23, 24, 25, 26, 27, 28, 29, 30, 31, 32, 33, 34, 35, 36, 37, 38, 39, 40, 41, 42, 43, 44, 45, 46, 47, 48, 49, 50, 51, 52, 53, 54, 55, 56, 57, 58, 59, 60, 61, 62, 63, 64, 65, 66, 67, 68, 69, 70, 71, 72, 73, 74, 75, 76, 77, 78, 79, 80, 81, 82, 83, 84, 85, 86, 87, 88, 89, 90, 91, 92, 93, 94, 95, 96, 97, 98, 99, 100, 101] (by decide +kernel) (by decide +kernel)) (goodIn_sub (fun _ h => List.mem_cons_of_mem _ (List.mem_append_left _ (List.mem_append_right _ h))) (by decide +kernel))) (goodIn_sub (fun _ h => List.mem_cons_of_mem _ (List.mem_append_right _ h)) (by decide +kernel))
set_option maxRecDepth 20000 in
theorem gL_raise_X4_raise : GoodIn wsL_raise (wsV RL 33 RX4 yX4_raise wsX4_raise) := goodIn_app (goodIn_of _ (by decide +kernel)) ggL_raise_X4_raise
set_option maxRecDepth 20000 in
theorem ggL_clear_X4_clear : GoodIn wsL_clear wsX4_clear := goodIn_ca (goodIn_ca (goodIn_r _ [7, 8, 9, 10, 11, 12, 13, 6, 14, 15, 16, 17, 18, 19, 20, 21, 22, 23, 24, 25, 26, 27, 28, 29, 30, 31, 32, 33, 34, 35, 36, 37, 38, 39, 40, 41, 42, 43, 44, 45, 46, 47, 48, 49, 50, 51, 52, 53, 54, 55, 56, 57, 58, 59, 60, 61, 62, 63, 64, 65, 66, 67, 68, 69, 70, 71, 72, 73, 74, 75, 76, 77] (by decide +kernel) (by decide +kernel)) (goodIn_sub (fun _ h => List.mem_cons_of_mem _ (List.mem_append_left _ (List.mem_append_right _ h))) (by decide +kernel))) (goodIn_sub (fun _ h => List.mem_cons_of_mem _ (List.mem_append_right _ h)) (by decide +kernel))
set_option maxRecDepth 20000 in
theorem gL_clear_X4_clear : GoodIn wsL_clear (wsV RL 38 RX4 yX4_clear wsX4_clear) := goodIn_app (goodIn_of _ (by decide +kernel)) ggL_clear_X4_clear
set_option maxRecDepth 20000 in
theorem ggL_state_X4_state : GoodIn wsL_state wsX4_state := goodIn_ca (goodIn_r _ [6, 7, 8, 5, 9, 10, 11, 12, 13, 14, 15, 16, 17, 18, 19, 20, 21, 22, 23, 24, 25, 26, 27, 28, 29, 30, 31, 32, 33, 34, 35, 36, 37, 38, 39, 40, 41, 42, 43, 44, 45, 46, 47, 48, 49, 50, 51, 52, 53, 54, 55] (by decide +kernel) (by decide +kernel)) (goodIn_sub (fun _ h => List.mem_cons_of_mem _ (List.mem_append_right _ h)) (by decide +kernel))
set_option maxRecDepth 20000 in
theorem gL_state_X4_state : GoodIn wsL_state (wsV RL 41 RX4 yX4_state wsX4_state) := goodIn_app (goodIn_of _ (by decide +kernel)) ggL_state_X4_state
set_option maxRecDepth 20000 in
theorem ggL_nodesThatAre_X4_nodesThatAre : GoodIn wsL_nodesThatAre wsX4_nodesThatAre := goodIn_ca (goodIn_r _ [6, 7, 8, 9, 10, 11, 5, 12, 13, 14, 15, 16, 17, 18, 19, 20, 21, 22, 23, 24, 25, 26, 27, 28, 29, 30, 31, 32, 33, 34, 35, 36, 37, 38, 39, 40, 41, 42, 43, 44, 45, 46, 47, 48, 49, 50, 51, 52] (by decide +kernel) (by decide +kernel)) (goodIn_sub (fun _ h => List.mem_cons_of_mem _ (List.mem_append_right _ h)) (by decide +kernel))
set_option maxRecDepth 20000 in
theorem gL_nodesThatAre_X4_nodesThatAre : GoodIn wsL_nodesThatAre (wsV RL 44 RX4 yX4_nodesThatAre wsX4_nodesThatAre) := goodIn_app (goodIn_of _ (by decide +kernel)) ggL_nodesThatAre_X4_nodesThatAre
set_option maxRecDepth 20000 in
theorem ggL_raises_X4_raises : GoodIn wsL_raises wsX4_raises := goodIn_ca (goodIn_ca (goodIn_r _ [7, 8, 9, 10, 11, 6, 12, 13, 14, 15, 16, 17, 18, 19, 20, 21, 22, 23, 24, 25, 26, 27, 28, 29, 30, 31, 32, 33, 34, 35, 36, 37, 38, 39] (by decide +kernel) (by decide +kernel)) (goodIn_sub (fun _ h => List.mem_cons_of_mem _ (List.mem_append_left _ (List.mem_append_right _ h))) (by decide +kernel))) (goodIn_sub (fun _ h => List.mem_cons_of_mem _ (List.mem_append_right _ h)) (by decide +kernel))
set_option maxRecDepth 20000 in
theorem gL_raises_X4_raises : GoodIn wsL_raises (wsV RL 47 RX4 yX4_raises wsX4_raises) := goodIn_app (goodIn_of _ (by decide +kernel)) ggL_raises_X4_raises
set_option maxRecDepth 20000 in
theorem ggL_eventKind_X4_eventKind : GoodIn wsL_eventKind wsX4_eventKind := goodIn_ca (goodIn_r _ [6, 7, 8, 9, 10, 5, 11, 12, 13, 14, 15, 16, 17, 18, 19, 20, 21, 22, 23, 24, 25, 26, 27, 28, 29, 30, 31, 32, 33, 34, 35] (by decide +kernel) (by decide +kernel)) (goodIn_sub (fun _ h => List.mem_cons_of_mem _ (List.mem_append_right _ h)) (by decide +kernel))
set_option maxRecDepth 20000 in
theorem gL_eventKind_X4_eventKind : GoodIn wsL_eventKind (wsV RL 51 RX4 yX4_eventKind wsX4_eventKind) := goodIn_app (goodIn_of _ (by decide +kernel)) ggL_eventKind_X4_eventKind
set_option maxRecDepth 20000 in
theorem ggL_eventNode_X4_eventNode : GoodIn wsL_eventNode wsX4_eventNode := goodIn_ca (goodIn_r _ [6, 7, 8, 9, 10, 5, 11, 12, 13, 14, 15, 16, 17, 18, 19, 20, 21, 22, 23, 24, 25, 26, 27, 28, 29, 30, 31, 32, 33, 34, 35] (by decide +kernel) (by decide +kernel)) (goodIn_sub (fun _ h => List.mem_cons_of_mem _ (List.mem_append_right _ h)) (by decide +kernel))
set_option maxRecDepth 20000 in
theorem gL_eventNode_X4_eventNode : GoodIn wsL_eventNode (wsV RL 54 RX4 yX4_eventNode wsX4_eventNode) := goodIn_app (goodIn_of _ (by decide +kernel)) ggL_eventNode_X4_eventNode
set_option maxRecDepth 20000 in
theorem ggL_eventTime_X4_eventTime : GoodIn wsL_eventTime wsX4_eventTime := goodIn_ca (goodIn_r _ [6, 7, 8, 9, 10, 5, 11, 12, 13, 14, 15, 16, 17, 18, 19, 20, 21, 22, 23, 24, 25, 26, 27, 28, 29, 30, 31, 32, 33, 34, 35] (by decide +kernel) (by decide +kernel)) (goodIn_sub (fun _ h => List.mem_cons_of_mem _ (List.mem_append_right _ h)) (by decide +kernel))
set_option maxRecDepth 20000 in
theorem gL_eventTime_X4_eventTime : GoodIn wsL_eventTime (wsV RL 57 RX4 yX4_eventTime wsX4_eventTime) := goodIn_app (goodIn_of _ (by decide +kernel)) ggL_eventTime_X4_eventTime
set_option maxRecDepth 20000 in
theorem ggL_eventLength_X4_eventLength : GoodIn wsL_eventLength wsX4_eventLength := goodIn_ca (goodIn_r _ [6, 7, 8, 9, 10, 5, 11, 12, 13, 14, 15, 16, 17, 18, 19, 20, 21, 22, 23, 24, 25, 26, 27, 28, 29, 30, 31, 32, 33, 34, 35] (by decide +kernel) (by decide +kernel)) (goodIn_sub (fun _ h => List.mem_cons_of_mem _ (List.mem_append_right _ h)) (by decide +kernel))
set_option maxRecDepth 20000 in
theorem gL_eventLength_X4_eventLength : GoodIn wsL_eventLength (wsV RL 60 RX4 yX4_eventLength wsX4_eventLength) := goodIn_app (goodIn_of _ (by decide +kernel)) ggL_eventLength_X4_eventLength
set_option maxRecDepth 20000 in
theorem ggL_ticketOf_X4_ticketOf : GoodIn wsL_ticketOf wsX4_ticketOf := goodIn_ca (goodIn_r _ [6, 7, 8, 9, 5, 10, 11, 12, 13, 14, 15, 16, 17, 18, 19, 20, 21, 22, 23, 24, 25, 26] (by decide +kernel) (by decide +kernel)) (goodIn_sub (fun _ h => List.mem_cons_of_mem _ (List.mem_append_right _ h)) (by decide +kernel))
set_option maxRecDepth 20000 in
theorem gL_ticketOf_X4_ticketOf : GoodIn wsL_ticketOf (wsV RL 63 RX4 yX4_ticketOf wsX4_ticketOf) := goodIn_app (goodIn_of _ (by decide +kernel)) ggL_ticketOf_X4_ticketOf
set_option maxRecDepth 20000 in
theorem ggL_isPlausible_X4_isPlausible : GoodIn wsL_isPlausible wsX4_isPlausible := goodIn_ca (goodIn_r _ [6, 7, 8, 5, 9, 10, 11, 12, 13, 14, 15, 16, 17, 18, 19, 20, 21, 22, 23, 24, 25, 26, 27, 28, 29, 30, 31, 32, 33, 34, 35, 36, 37, 38, 39, 40, 41, 42, 43, 44, 45, 46, 47, 48, 49, 50, 51, 52, 53, 54, 55, 56, 57, 58, 59, 60] (by decide +kernel) (by decide +kernel)) (goodIn_sub (fun _ h => List.mem_cons_of_mem _ (List.mem_append_right _ h)) (by decide +kernel))
set_option maxRecDepth 20000 in
theorem gL_isPlausible_X4_isPlausible : GoodIn wsL_isPlausible (wsV RL 66 RX4 yX4_isPlausible wsX4_isPlausible) := goodIn_app (goodIn_of _ (by decide +kernel)) ggL_isPlausible_X4_isPlausible
set_option maxRecDepth 20000 in
theorem ggL_cause_X4_cause : GoodIn wsL_cause wsX4_cause := goodIn_ca (goodIn_r _ [6, 7, 8, 9, 5, 10, 11, 12, 13, 14, 15, 16, 17, 18, 19, 20, 21, 22, 23, 24, 25, 26, 27, 28, 29, 30, 31, 32, 33, 34, 35, 36, 37, 38, 39, 40, 41, 42, 43, 44, 45, 46, 47, 48, 49, 50, 51, 52, 53, 54, 55, 56, 57, 58, 59, 60, 61, 62, 63, 64, 65, 66, 67, 68, 69, 70, 71, 72, 73, 74, 75, 76, 77, 78, 79, 80, 81, 82, 83, 84, 85, 86, 87] (by decide +kernel) (by decide +kernel)) (goodIn_sub (fun _ h => List.mem_cons_of_mem _ (List.mem_append_right _ h)) (by decide +kernel))
set_option maxRecDepth 20000 in
theorem gL_cause_X4_cause : GoodIn wsL_cause (wsV RL 70 RX4 yX4_cause wsX4_cause) := goodIn_app (goodIn_of _ (by decide +kernel)) ggL_cause_X4_cause
set_option maxRecDepth 20000 in
theorem ggL_causeByTrying_X4_causeByTrying : GoodIn wsL_causeByTrying wsX4_causeByTrying := goodIn_ca (goodIn_r _ [6, 7, 8, 9, 5, 10, 11, 12, 13, 14, 15, 16, 17, 18, 19, 20, 21, 22, 23, 24, 25, 26, 27, 28, 29, 30, 31, 32, 33, 34, 35, 36, 37, 38, 39, 40, 41, 42, 43, 44, 45, 46, 47, 48, 49, 50, 51, 52, 53, 54, 55, 56, 57, 58, 59, 60, 61, 62, 63, 64, 65, 66, 67, 68, 69, 70, 71, 72, 73, 74, 75, 76, 77, 78, 79, 80, 81, 82, 83] (by decide +kernel) (by decide +kernel)) (goodIn_sub (fun _ h => List.mem_cons_of_mem _ (List.mem_append_right _ h)) (by decide +kernel))
set_option maxRecDepth 20000 in
theorem gL_causeByTrying_X4_causeByTrying : GoodIn wsL_causeByTrying (wsV RL 73 RX4 yX4_causeByTrying wsX4_causeByTrying) := goodIn_app (goodIn_of _ (by decide +kernel)) ggL_causeByTrying_X4_causeByTrying
set_option maxRecDepth 20000 in
theorem ggL_greedyCause_X4_greedyCause : GoodIn wsL_greedyCause wsX4_greedyCause := goodIn_ca (goodIn_r _ [6, 7, 8, 9, 10, 11, 5, 12, 13, 14, 15, 16, 17, 18, 19, 20, 21, 22, 23, 24, 25, 26, 27, 28, 29, 30, 31, 32, 33, 34, 35, 36, 37, 38, 39, 40, 41, 42, 43, 44, 45, 46, 47, 48, 49, 50, 51, 52, 53, 54, 55, 56, 57, 58, 59, 60, 61, 62, 63, 64, 65, 66, 67, 68, 69, 70, 71, 72] (by decide +kernel) (by decide +kernel)) (goodIn_sub (fun _ h => List.mem_cons_of_mem _ (List.mem_append_right _ h)) (by decide +kernel))
set_option maxRecDepth 20000 in
theorem gL_greedyCause_X4_greedyCause : GoodIn wsL_greedyCause (wsV RL 76 RX4 yX4_greedyCause wsX4_greedyCause) := goodIn_app (goodIn_of _ (by decide +kernel)) ggL_greedyCause_X4_greedyCause
set_option maxRecDepth 20000 in
theorem ggL_causeOf_X4_causeOf : GoodIn wsL_causeOf wsX4_causeOf := goodIn_ca (goodIn_r _ [6, 7, 8, 9, 10, 5, 11, 12, 13, 14, 15, 16, 17, 18, 19, 20, 21, 22, 23, 24, 25, 26, 27, 28, 29, 30, 31, 32, 33, 34, 35, 36, 37, 38, 39, 40, 41, 42, 43, 44, 45, 46, 47, 48, 49, 50, 51, 52, 53, 54, 55, 56, 57, 58, 59, 60, 61, 62, 63, 64, 65, 66, 67, 68, 69, 70, 71, 72, 73, 74, 75, 76, 77, 78, 79, 80, 81, 82, 83, 84, 85, 86, 87, 88] (by decide +kernel) (by decide +kernel)) (goodIn_sub (fun _ h => List.mem_cons_of_mem _ (List.mem_append_right _ h)) (by decide +kernel))
set_option maxRecDepth 20000 in
theorem gL_causeOf_X4_causeOf : GoodIn wsL_causeOf (wsV RL 79 RX4 yX4_causeOf wsX4_causeOf) := goodIn_app (goodIn_of _ (by decide +kernel)) ggL_causeOf_X4_causeOf
set_option maxRecDepth 20000 in
theorem ggL_law_X4_init : GoodIn wsL_law wsX4_init := goodIn_r _ [9, 10, 11, 12, 13, 14, 15, 16, 17, 18, 19, 20, 21, 22, 23, 24, 25, 26, 27, 28, 29, 30, 31, 32, 33, 34, 35, 36, 37, 38, 39, 40, 41, 42, 43, 44, 45, 46, 47, 48, 49, 50, 693, 694, 695, 696, 672, 673, 674, 675, 676, 697, 698, 699, 700, 701, 702, 703, 704, 705] (by decide +kernel) (by decide +kernel)
set_option maxRecDepth 20000 in
theorem gL_law_X4_init : GoodIn wsL_law (wsX4_init) := ggL_law_X4_init
set_option maxRecDepth 20000 in
theorem ggL_law_X5_init : GoodIn wsL_law wsX5_init := goodIn_r _ [53, 54, 11, 12, 30, 55, 56, 57, 58, 59, 60, 61, 62, 63, 64, 65, 677, 678, 679, 680, 681, 682, 683, 684, 685, 686, 687, 688, 689, 690, 691, 692] (by decide +kernel) (by decide +kernel)
set_option maxRecDepth 20000 in
theorem gL_law_X5_init : GoodIn wsL_law (wsX5_init) := ggL_law_X5_init
set_option maxRecDepth 20000 in
theorem ggL_law_L_need : GoodIn wsL_law wsL_need := goodIn_ca (goodIn_ca (goodIn_r _ [69, 70, 71, 72, 73, 74, 2, 75, 76, 77, 16, 78, 79, 80, 81, 82, 83, 84, 85, 15, 86, 33, 87, 88, 89, 90, 91, 92, 93, 94, 95, 96, 31, 32, 97, 98, 99, 100, 34, 101, 102, 103, 104, 105, 106, 672, 673, 674, 675, 676, 693, 694, 695, 696] (by decide +kernel) (by decide +kernel)) (goodIn_sub (fun _ h => List.mem_append_left _ (List.mem_append_left _ (List.mem_append_right _ h))) (by decide +kernel))) (goodIn_sub (fun _ h => List.mem_append_left _ (List.mem_append_right _ h)) (by decide +kernel))
set_option maxRecDepth 20000 in
theorem gL_law_L_need : GoodIn wsL_law (va_wsS RL 86 yL_need wsL_need) := goodIn_app (goodIn_of _ (by decide +kernel)) ggL_law_L_need
set_option maxRecDepth 20000 in
theorem ggL_law_X5_need : GoodIn wsL_law wsX5_need := goodIn_r _ [110, 56, 55, 111, 112, 5, 113, 114, 115, 116, 117, 118, 119, 120, 121, 122, 123, 124, 125, 677, 678, 679, 680, 681, 682, 683, 684, 685, 686, 687, 688, 689, 690, 691, 692] (by decide +kernel) (by decide +kernel)
set_option maxRecDepth 20000 in
theorem gL_law_X5_need : GoodIn wsL_law (wsV RL 91 RX5 yX5_need wsX5_need) := goodIn_app (goodIn_of _ (by decide +kernel)) ggL_law_X5_need
set_option maxRecDepth 20000 in
theorem ggL_law_X5_thrown : GoodIn wsL_law wsX5_thrown := goodIn_r _ [129, 121, 677, 678, 679, 680, 681, 682, 683, 684, 685, 686, 687, 688, 689, 690, 691, 692] (by decide +kernel) (by decide +kernel)
set_option maxRecDepth 20000 in
theorem gL_law_X5_thrown : GoodIn wsL_law (wsV RL 92 RX5 yX5_thrown wsX5_thrown) := goodIn_app (goodIn_of _ (by decide +kernel)) ggL_law_X5_thrown
set_option maxRecDepth 20000 in
theorem ggL_law_L_release : GoodIn wsL_law wsL_release := goodIn_ca (goodIn_r _ [132, 70, 133, 134, 135, 2, 136, 16, 78, 79, 80, 81, 82, 137, 138, 139, 15, 140, 31, 32, 88, 89, 90, 91, 92, 97, 98, 99, 100, 33, 34, 101, 102, 103, 104, 105, 106, 672, 673, 674, 675, 676, 693, 694, 695, 696] (by decide +kernel) (by decide +kernel)) (goodIn_sub (fun _ h => List.mem_append_left _ (List.mem_append_right _ h)) (by decide +kernel))
set_option maxRecDepth 20000 in
theorem gL_law_L_release : GoodIn wsL_law (va_wsS RL 96 yL_release wsL_release) := goodIn_app (goodIn_of _ (by decide +kernel)) ggL_law_L_release
set_option maxRecDepth 20000 in
theorem ggL_law_X5_release : GoodIn wsL_law wsX5_release := goodIn_r _ [144, 55, 111, 112, 5, 113, 117, 118, 119, 120, 121, 114, 115, 116, 122, 123, 124, 125, 56, 677, 678, 679, 680, 681, 682, 683, 684, 685, 686, 687, 688, 689, 690, 691, 692] (by decide +kernel) (by decide +kernel)
set_option maxRecDepth 20000 in
theorem gL_law_X5_release : GoodIn wsL_law (wsV RL 98 RX5 yX5_release wsX5_release) := goodIn_app (goodIn_of _ (by decide +kernel)) ggL_law_X5_release
set_option maxRecDepth 20000 in
theorem ggL_law_L_needs : GoodIn wsL_law wsL_needs := goodIn_ca (goodIn_r _ [147, 70, 148, 149, 150, 2, 151, 16, 78, 79, 80, 81, 82, 152, 153, 154, 15, 155, 31, 87, 88, 89, 90, 91, 92, 672, 673, 674, 675, 676, 693, 694, 695, 696] (by decide +kernel) (by decide +kernel)) (goodIn_sub (fun _ h => List.mem_append_left _ (List.mem_append_right _ h)) (by decide +kernel))
set_option maxRecDepth 20000 in
theorem gL_law_L_needs : GoodIn wsL_law (va_wsS RL 99 yL_needs wsL_needs) := goodIn_app (goodIn_of _ (by decide +kernel)) ggL_law_L_needs
set_option maxRecDepth 20000 in
theorem ggL_law_X5_needs : GoodIn wsL_law wsX5_needs := goodIn_r _ [159, 55, 111, 112, 5, 113, 117, 118, 119, 120, 121, 114, 115, 116, 677, 678, 679, 680, 681, 682, 683, 684, 685, 686, 687, 688, 689, 690, 691, 692] (by decide +kernel) (by decide +kernel)
set_option maxRecDepth 20000 in
theorem gL_law_X5_needs : GoodIn wsL_law (wsV RL 101 RX5 yX5_needs wsX5_needs) := goodIn_app (goodIn_of _ (by decide +kernel)) ggL_law_X5_needs
set_option maxRecDepth 20000 in
theorem ggL_law_L_dependsOn : GoodIn wsL_law wsL_dependsOn := goodIn_ca (goodIn_r _ [162, 70, 163, 164, 165, 2, 166, 16, 78, 79, 80, 81, 82, 83, 84, 85, 15, 86, 33, 87, 88, 89, 90, 91, 92, 672, 673, 674, 675, 676, 693, 694, 695, 696] (by decide +kernel) (by decide +kernel)) (goodIn_sub (fun _ h => List.mem_append_left _ (List.mem_append_right _ h)) (by decide +kernel))
set_option maxRecDepth 20000 in
theorem gL_law_L_dependsOn : GoodIn wsL_law (va_wsS RL 102 yL_dependsOn wsL_dependsOn) := goodIn_app (goodIn_of _ (by decide +kernel)) ggL_law_L_dependsOn
set_option maxRecDepth 20000 in
theorem ggL_law_X5_dependsOn : GoodIn wsL_law wsX5_dependsOn := goodIn_r _ [170, 56, 111, 112, 5, 113, 117, 118, 119, 120, 121, 114, 115, 116, 677, 678, 679, 680, 681, 682, 683, 684, 685, 686, 687, 688, 689, 690, 691, 692] (by decide +kernel) (by decide +kernel)
set_option maxRecDepth 20000 in
theorem gL_law_X5_dependsOn : GoodIn wsL_law (wsV RL 104 RX5 yX5_dependsOn wsX5_dependsOn) := goodIn_app (goodIn_of _ (by decide +kernel)) ggL_law_X5_dependsOn
set_option maxRecDepth 20000 in
theorem ggL_law_L_height : GoodIn wsL_law wsL_height := goodIn_ca (goodIn_r _ [173, 70, 174, 175, 176, 2, 177, 16, 78, 79, 80, 81, 82, 178, 179, 180, 15, 181, 31, 91, 92, 104, 105, 106, 88, 89, 90, 672, 673, 674, 675, 676, 693, 694, 695, 696] (by decide +kernel) (by decide +kernel)) (goodIn_sub (fun _ h => List.mem_append_left _ (List.mem_append_right _ h)) (by decide +kernel))
set_option maxRecDepth 20000 in
theorem gL_law_L_height : GoodIn wsL_law (va_wsS RL 105 yL_height wsL_height) := goodIn_app (goodIn_of _ (by decide +kernel)) ggL_law_L_height
set_option maxRecDepth 20000 in
theorem ggL_law_X5_height : GoodIn wsL_law wsX5_height := goodIn_r _ [185, 55, 111, 112, 5, 113, 117, 118, 119, 120, 121, 114, 115, 116, 677, 678, 679, 680, 681, 682, 683, 684, 685, 686, 687, 688, 689, 690, 691, 692] (by decide +kernel) (by decide +kernel)
set_option maxRecDepth 20000 in
theorem gL_law_X5_height : GoodIn wsL_law (wsV RL 108 RX5 yX5_height wsX5_height) := goodIn_app (goodIn_of _ (by decide +kernel)) ggL_law_X5_height
set_option maxRecDepth 20000 in
theorem ggL_law_L_tick : GoodIn wsL_law wsL_tick := goodIn_ca (goodIn_r _ [188, 71, 189, 190, 191, 2, 192, 26, 193, 194, 195, 76, 77, 672, 673, 674, 675, 676] (by decide +kernel) (by decide +kernel)) (goodIn_sub (fun _ h => List.mem_append_left _ (List.mem_append_left _ (List.mem_append_right _ h))) (by decide +kernel))
set_option maxRecDepth 20000 in
theorem gL_law_L_tick : GoodIn wsL_law (va_wsS RL 109 yL_tick wsL_tick) := goodIn_app (goodIn_of _ (by decide +kernel)) ggL_law_L_tick
set_option maxRecDepth 20000 in
theorem ggL_law_X5_tick : GoodIn wsL_law wsX5_tick := goodIn_r _ [199, 200, 117, 118, 119, 5, 120, 121, 677, 678, 679, 680, 681, 682, 683, 684, 685, 686, 687, 688, 689, 690, 691, 692] (by decide +kernel) (by decide +kernel)
set_option maxRecDepth 20000 in
theorem gL_law_X5_tick : GoodIn wsL_law (wsV RL 111 RX5 yX5_tick wsX5_tick) := goodIn_app (goodIn_of _ (by decide +kernel)) ggL_law_X5_tick
set_option maxRecDepth 20000 in
theorem ggL_law_X4_now : GoodIn wsL_law wsX4_now := goodIn_r _ [204, 26, 672, 673, 674, 675, 676] (by decide +kernel) (by decide +kernel)
set_option maxRecDepth 20000 in
theorem gL_law_X4_now : GoodIn wsL_law (wsV RL 112 RX4 yX4_now wsX4_now) := goodIn_app (goodIn_of _ (by decide +kernel)) ggL_law_X4_now
set_option maxRecDepth 20000 in
theorem ggL_law_X5_now : GoodIn wsL_law wsX5_now := goodIn_r _ [208, 121, 200, 677, 678, 679, 680, 681, 682, 683, 684, 685, 686, 687, 688, 689, 690, 691, 692] (by decide +kernel) (by decide +kernel)
set_option maxRecDepth 20000 in
theorem gL_law_X5_now : GoodIn wsL_law (wsV RL 115 RX5 yX5_now wsX5_now) := goodIn_app (goodIn_of _ (by decide +kernel)) ggL_law_X5_now
set_option maxRecDepth 20000 in
theorem ggL_law_L_raise : GoodIn wsL_law wsL_raise := goodIn_ca (goodIn_ca (goodIn_r _ [211, 70, 212, 213, 214, 215, 2, 216, 25, 20, 26, 16, 24, 78, 79, 80, 81, 82, 87, 88, 89, 90, 91, 92, 217, 218, 219, 220, 221, 222, 223, 224, 225, 19, 226, 43, 227, 228, 229, 230, 42, 231, 232, 233, 234, 38, 39, 40, 41, 83, 84, 85, 15, 86, 33, 235, 236, 237, 238, 34, 239, 240, 241, 23, 242, 50, 48, 243, 244, 245, 246, 247, 248, 249, 250, 251, 252, 253, 254, 49, 255, 256, 257, 258, 672, 673, 674, 675, 676, 697, 698, 699, 700, 701, 702, 693, 694, 695, 696, 703, 704, 705] (by decide +kernel) (by decide +kernel)) (goodIn_sub (fun _ h => List.mem_append_left _ (List.mem_append_right _ h)) (by decide +kernel))) (goodIn_sub (fun _ h => List.mem_append_right _ h) (by decide +kernel))
set_option maxRecDepth 20000 in
theorem gL_law_L_raise : GoodIn wsL_law (va_wsS RL 116 yL_raise wsL_raise) := goodIn_app (goodIn_of _ (by decide +kernel)) ggL_law_L_raise
set_option maxRecDepth 20000 in
theorem ggL_law_X5_raise : GoodIn wsL_law wsX5_raise := goodIn_r _ [262, 263, 264, 58, 265, 60, 59, 61, 57, 200, 111, 112, 5, 113, 114, 115, 116, 117, 118, 119, 120, 121, 266, 267, 268, 269, 56, 270, 271, 272, 273, 62, 63, 64, 65, 677, 678, 679, 680, 681, 682, 683, 684, 685, 686, 687, 688, 689, 690, 691, 692] (by decide +kernel) (by decide +kernel)
set_option maxRecDepth 20000 in
theorem gL_law_X5_raise : GoodIn wsL_law (wsV RL 118 RX5 yX5_raise wsX5_raise) := goodIn_app (goodIn_of _ (by decide +kernel)) ggL_law_X5_raise
set_option maxRecDepth 20000 in
theorem ggL_law_L_clear : GoodIn wsL_law wsL_clear := goodIn_ca (goodIn_ca (goodIn_r _ [276, 70, 212, 277, 278, 279, 2, 280, 25, 20, 26, 24, 78, 79, 80, 81, 82, 87, 88, 89, 90, 91, 92, 217, 218, 219, 220, 221, 222, 223, 224, 225, 19, 226, 43, 281, 282, 283, 284, 42, 231, 232, 233, 234, 38, 39, 40, 41, 285, 286, 287, 23, 288, 48, 289, 290, 291, 292, 255, 256, 257, 258, 50, 49, 672, 673, 674, 675, 676, 697, 698, 699, 700, 701, 702, 703, 704, 705] (by decide +kernel) (by decide +kernel)) (goodIn_sub (fun _ h => List.mem_append_left _ (List.mem_append_right _ h)) (by decide +kernel))) (goodIn_sub (fun _ h => List.mem_append_right _ h) (by decide +kernel))
set_option maxRecDepth 20000 in
theorem gL_law_L_clear : GoodIn wsL_law (va_wsS RL 119 yL_clear wsL_clear) := goodIn_app (goodIn_of _ (by decide +kernel)) ggL_law_L_clear
set_option maxRecDepth 20000 in
theorem ggL_law_X5_clear : GoodIn wsL_law wsX5_clear := goodIn_r _ [296, 263, 264, 58, 59, 60, 200, 57, 111, 112, 5, 113, 114, 115, 116, 117, 118, 119, 120, 121, 270, 271, 272, 273, 62, 63, 64, 65, 297, 298, 299, 677, 678, 679, 680, 681, 682, 683, 684, 685, 686, 687, 688, 689, 690, 691, 692] (by decide +kernel) (by decide +kernel)
set_option maxRecDepth 20000 in
theorem gL_law_X5_clear : GoodIn wsL_law (wsV RL 121 RX5 yX5_clear wsX5_clear) := goodIn_app (goodIn_of _ (by decide +kernel)) ggL_law_X5_clear
set_option maxRecDepth 20000 in
theorem ggL_law_L_state : GoodIn wsL_law wsL_state := goodIn_ca (goodIn_r _ [302, 70, 303, 304, 305, 2, 306, 78, 79, 80, 81, 82, 307, 308, 309, 310, 25, 20, 26, 16, 87, 88, 89, 90, 91, 92, 311, 312, 313, 19, 314, 43, 38, 39, 40, 83, 84, 85, 15, 86, 33, 672, 673, 674, 675, 676, 697, 698, 699, 700, 701, 702, 693, 694, 695, 696] (by decide +kernel) (by decide +kernel)) (goodIn_sub (fun _ h => List.mem_append_left _ (List.mem_append_right _ h)) (by decide +kernel))
set_option maxRecDepth 20000 in
theorem gL_law_L_state : GoodIn wsL_law (va_wsS RL 122 yL_state wsL_state) := goodIn_app (goodIn_of _ (by decide +kernel)) ggL_law_L_state
set_option maxRecDepth 20000 in
theorem ggL_law_X5_state : GoodIn wsL_law wsX5_state := goodIn_r _ [318, 111, 112, 5, 113, 117, 118, 119, 120, 121, 319, 320, 321, 322, 263, 56, 114, 115, 116, 323, 324, 325, 326, 264, 62, 63, 64, 200, 677, 678, 679, 680, 681, 682, 683, 684, 685, 686, 687, 688, 689, 690, 691, 692] (by decide +kernel) (by decide +kernel)
set_option maxRecDepth 20000 in
theorem gL_law_X5_state : GoodIn wsL_law (wsV RL 124 RX5 yX5_state wsX5_state) := goodIn_app (goodIn_of _ (by decide +kernel)) ggL_law_X5_state
set_option maxRecDepth 20000 in
theorem ggL_law_L_nodesThatAre : GoodIn wsL_law wsL_nodesThatAre := goodIn_ca (goodIn_r _ [329, 71, 330, 331, 332, 2, 333, 76, 77, 307, 308, 309, 310, 25, 20, 26, 16, 87, 88, 89, 90, 91, 92, 311, 312, 313, 19, 314, 43, 38, 39, 40, 83, 84, 85, 15, 86, 33, 672, 673, 674, 675, 676, 697, 698, 699, 700, 701, 702, 693, 694, 695, 696] (by decide +kernel) (by decide +kernel)) (goodIn_sub (fun _ h => List.mem_append_left _ (List.mem_append_left _ (List.mem_append_right _ h))) (by decide +kernel))
set_option maxRecDepth 20000 in
theorem gL_law_L_nodesThatAre : GoodIn wsL_law (va_wsS RL 125 yL_nodesThatAre wsL_nodesThatAre) := goodIn_app (goodIn_of _ (by decide +kernel)) ggL_law_L_nodesThatAre
set_option maxRecDepth 20000 in
theorem ggL_law_X5_nodesThatAre : GoodIn wsL_law wsX5_nodesThatAre := goodIn_r _ [337, 117, 118, 119, 5, 120, 121, 319, 320, 321, 322, 263, 56, 114, 115, 116, 323, 324, 325, 326, 264, 62, 63, 64, 200, 677, 678, 679, 680, 681, 682, 683, 684, 685, 686, 687, 688, 689, 690, 691, 692] (by decide +kernel) (by decide +kernel)
set_option maxRecDepth 20000 in
theorem gL_law_X5_nodesThatAre : GoodIn wsL_law (wsV RL 127 RX5 yX5_nodesThatAre wsX5_nodesThatAre) := goodIn_app (goodIn_of _ (by decide +kernel)) ggL_law_X5_nodesThatAre
set_option maxRecDepth 20000 in
theorem ggL_law_L_raises : GoodIn wsL_law wsL_raises := goodIn_ca (goodIn_ca (goodIn_r _ [340, 70, 71, 341, 342, 343, 2, 344, 20, 26, 78, 79, 80, 81, 82, 193, 194, 195, 76, 77, 311, 312, 313, 19, 314, 43, 38, 39, 40, 672, 673, 674, 675, 676, 697, 698, 699, 700, 701, 702] (by decide +kernel) (by decide +kernel)) (goodIn_sub (fun _ h => List.mem_append_left _ (List.mem_append_right _ h)) (by decide +kernel))) (goodIn_sub (fun _ h => List.mem_append_left _ (List.mem_append_left _ (List.mem_append_right _ h))) (by decide +kernel))
set_option maxRecDepth 20000 in
theorem gL_law_L_raises : GoodIn wsL_law (va_wsS RL 128 yL_raises wsL_raises) := goodIn_app (goodIn_of _ (by decide +kernel)) ggL_law_L_raises
set_option maxRecDepth 20000 in
theorem ggL_law_X5_raises : GoodIn wsL_law wsX5_raises := goodIn_r _ [348, 111, 112, 5, 113, 117, 118, 119, 120, 121, 323, 324, 325, 326, 264, 62, 63, 64, 200, 677, 678, 679, 680, 681, 682, 683, 684, 685, 686, 687, 688, 689, 690, 691, 692] (by decide +kernel) (by decide +kernel)
set_option maxRecDepth 20000 in
theorem gL_law_X5_raises : GoodIn wsL_law (wsV RL 130 RX5 yX5_raises wsX5_raises) := goodIn_app (goodIn_of _ (by decide +kernel)) ggL_law_X5_raises
set_option maxRecDepth 20000 in
theorem ggL_law_X4_events : GoodIn wsL_law wsX4_events := goodIn_r _ [352, 20, 353, 354, 355, 19, 356, 43, 672, 673, 674, 675, 676, 697, 698, 699, 700, 701, 702] (by decide +kernel) (by decide +kernel)
set_option maxRecDepth 20000 in
theorem gL_law_X4_events : GoodIn wsL_law (wsV RL 131 RX4 yX4_events wsX4_events) := goodIn_app (goodIn_of _ (by decide +kernel)) ggL_law_X4_events
set_option maxRecDepth 20000 in
theorem ggL_law_X5_events : GoodIn wsL_law wsX5_events := goodIn_r _ [360, 121, 264, 677, 678, 679, 680, 681, 682, 683, 684, 685, 686, 687, 688, 689, 690, 691, 692] (by decide +kernel) (by decide +kernel)
set_option maxRecDepth 20000 in
theorem gL_law_X5_events : GoodIn wsL_law (wsV RL 134 RX5 yX5_events wsX5_events) := goodIn_app (goodIn_of _ (by decide +kernel)) ggL_law_X5_events
set_option maxRecDepth 20000 in
theorem ggL_law_L_eventKind : GoodIn wsL_law wsL_eventKind := goodIn_ca (goodIn_r _ [363, 70, 364, 365, 366, 2, 367, 20, 368, 369, 370, 371, 81, 82, 353, 354, 355, 19, 356, 43, 372, 373, 374, 375, 38, 672, 673, 674, 675, 676, 697, 698, 699, 700, 701, 702] (by decide +kernel) (by decide +kernel)) (goodIn_sub (fun _ h => List.mem_append_left _ (List.mem_append_right _ h)) (by decide +kernel))
set_option maxRecDepth 20000 in
theorem gL_law_L_eventKind : GoodIn wsL_law (va_wsS RL 135 yL_eventKind wsL_eventKind) := goodIn_app (goodIn_of _ (by decide +kernel)) ggL_law_L_eventKind
set_option maxRecDepth 20000 in
theorem ggL_law_X5_eventKind : GoodIn wsL_law wsX5_eventKind := goodIn_r _ [379, 62, 380, 381, 382, 5, 383, 264, 117, 118, 119, 120, 121, 677, 678, 679, 680, 681, 682, 683, 684, 685, 686, 687, 688, 689, 690, 691, 692] (by decide +kernel) (by decide +kernel)
set_option maxRecDepth 20000 in
theorem gL_law_X5_eventKind : GoodIn wsL_law (wsV RL 137 RX5 yX5_eventKind wsX5_eventKind) := goodIn_app (goodIn_of _ (by decide +kernel)) ggL_law_X5_eventKind
set_option maxRecDepth 20000 in
theorem ggL_law_L_eventNode : GoodIn wsL_law wsL_eventNode := goodIn_ca (goodIn_r _ [386, 70, 387, 388, 389, 2, 390, 20, 368, 369, 370, 371, 81, 82, 353, 354, 355, 19, 356, 43, 391, 392, 393, 394, 39, 672, 673, 674, 675, 676, 697, 698, 699, 700, 701, 702] (by decide +kernel) (by decide +kernel)) (goodIn_sub (fun _ h => List.mem_append_left _ (List.mem_append_right _ h)) (by decide +kernel))
set_option maxRecDepth 20000 in
theorem gL_law_L_eventNode : GoodIn wsL_law (va_wsS RL 138 yL_eventNode wsL_eventNode) := goodIn_app (goodIn_of _ (by decide +kernel)) ggL_law_L_eventNode
set_option maxRecDepth 20000 in
theorem ggL_law_X5_eventNode : GoodIn wsL_law wsX5_eventNode := goodIn_r _ [398, 63, 380, 381, 382, 5, 383, 264, 117, 118, 119, 120, 121, 677, 678, 679, 680, 681, 682, 683, 684, 685, 686, 687, 688, 689, 690, 691, 692] (by decide +kernel) (by decide +kernel)
set_option maxRecDepth 20000 in
theorem gL_law_X5_eventNode : GoodIn wsL_law (wsV RL 140 RX5 yX5_eventNode wsX5_eventNode) := goodIn_app (goodIn_of _ (by decide +kernel)) ggL_law_X5_eventNode
set_option maxRecDepth 20000 in
theorem ggL_law_L_eventTime : GoodIn wsL_law wsL_eventTime := goodIn_ca (goodIn_r _ [401, 70, 402, 403, 404, 2, 405, 20, 368, 369, 370, 371, 81, 82, 353, 354, 355, 19, 356, 43, 406, 407, 408, 409, 40, 672, 673, 674, 675, 676, 697, 698, 699, 700, 701, 702] (by decide +kernel) (by decide +kernel)) (goodIn_sub (fun _ h => List.mem_append_left _ (List.mem_append_right _ h)) (by decide +kernel))
set_option maxRecDepth 20000 in
theorem gL_law_L_eventTime : GoodIn wsL_law (va_wsS RL 141 yL_eventTime wsL_eventTime) := goodIn_app (goodIn_of _ (by decide +kernel)) ggL_law_L_eventTime
set_option maxRecDepth 20000 in
theorem ggL_law_X5_eventTime : GoodIn wsL_law wsX5_eventTime := goodIn_r _ [413, 64, 380, 381, 382, 5, 383, 264, 117, 118, 119, 120, 121, 677, 678, 679, 680, 681, 682, 683, 684, 685, 686, 687, 688, 689, 690, 691, 692] (by decide +kernel) (by decide +kernel)
set_option maxRecDepth 20000 in
theorem gL_law_X5_eventTime : GoodIn wsL_law (wsV RL 143 RX5 yX5_eventTime wsX5_eventTime) := goodIn_app (goodIn_of _ (by decide +kernel)) ggL_law_X5_eventTime
set_option maxRecDepth 20000 in
theorem ggL_law_L_eventLength : GoodIn wsL_law wsL_eventLength := goodIn_ca (goodIn_r _ [416, 70, 417, 418, 419, 2, 420, 20, 368, 369, 370, 371, 81, 82, 353, 354, 355, 19, 356, 43, 421, 422, 423, 424, 41, 672, 673, 674, 675, 676, 697, 698, 699, 700, 701, 702] (by decide +kernel) (by decide +kernel)) (goodIn_sub (fun _ h => List.mem_append_left _ (List.mem_append_right _ h)) (by decide +kernel))
set_option maxRecDepth 20000 in
theorem gL_law_L_eventLength : GoodIn wsL_law (va_wsS RL 144 yL_eventLength wsL_eventLength) := goodIn_app (goodIn_of _ (by decide +kernel)) ggL_law_L_eventLength
set_option maxRecDepth 20000 in
theorem ggL_law_X5_eventLength : GoodIn wsL_law wsX5_eventLength := goodIn_r _ [428, 65, 380, 381, 382, 5, 383, 264, 117, 118, 119, 120, 121, 677, 678, 679, 680, 681, 682, 683, 684, 685, 686, 687, 688, 689, 690, 691, 692] (by decide +kernel) (by decide +kernel)
set_option maxRecDepth 20000 in
theorem gL_law_X5_eventLength : GoodIn wsL_law (wsV RL 146 RX5 yX5_eventLength wsX5_eventLength) := goodIn_app (goodIn_of _ (by decide +kernel)) ggL_law_X5_eventLength
set_option maxRecDepth 20000 in
theorem ggL_law_X4_openTickets : GoodIn wsL_law wsX4_openTickets := goodIn_r _ [432, 24, 433, 434, 435, 23, 436, 50, 437, 438, 439, 440, 49, 255, 256, 257, 258, 289, 290, 291, 292, 48, 672, 673, 674, 675, 676, 703, 704, 705] (by decide +kernel) (by decide +kernel)
set_option maxRecDepth 20000 in
theorem gL_law_X4_openTickets : GoodIn wsL_law (wsV RL 147 RX4 yX4_openTickets wsX4_openTickets) := goodIn_app (goodIn_of _ (by decide +kernel)) ggL_law_X4_openTickets
set_option maxRecDepth 20000 in
theorem ggL_law_X5_openTickets : GoodIn wsL_law wsX5_openTickets := goodIn_r _ [444, 121, 265, 60, 677, 678, 679, 680, 681, 682, 683, 684, 685, 686, 687, 688, 689, 690, 691, 692] (by decide +kernel) (by decide +kernel)
set_option maxRecDepth 20000 in
theorem gL_law_X5_openTickets : GoodIn wsL_law (wsV RL 150 RX5 yX5_openTickets wsX5_openTickets) := goodIn_app (goodIn_of _ (by decide +kernel)) ggL_law_X5_openTickets
set_option maxRecDepth 20000 in
theorem ggL_law_L_ticketOf : GoodIn wsL_law wsL_ticketOf := goodIn_ca (goodIn_r _ [447, 70, 448, 449, 450, 2, 451, 24, 78, 79, 80, 81, 82, 452, 453, 454, 23, 455, 48, 672, 673, 674, 675, 676, 703, 704, 705] (by decide +kernel) (by decide +kernel)) (goodIn_sub (fun _ h => List.mem_append_left _ (List.mem_append_right _ h)) (by decide +kernel))
set_option maxRecDepth 20000 in
theorem gL_law_L_ticketOf : GoodIn wsL_law (va_wsS RL 151 yL_ticketOf wsL_ticketOf) := goodIn_app (goodIn_of _ (by decide +kernel)) ggL_law_L_ticketOf
set_option maxRecDepth 20000 in
theorem ggL_law_X5_ticketOf : GoodIn wsL_law wsX5_ticketOf := goodIn_r _ [459, 263, 58, 111, 112, 5, 113, 117, 118, 119, 120, 121, 114, 115, 116, 677, 678, 679, 680, 681, 682, 683, 684, 685, 686, 687, 688, 689, 690, 691, 692] (by decide +kernel) (by decide +kernel)
set_option maxRecDepth 20000 in
theorem gL_law_X5_ticketOf : GoodIn wsL_law (wsV RL 153 RX5 yX5_ticketOf wsX5_ticketOf) := goodIn_app (goodIn_of _ (by decide +kernel)) ggL_law_X5_ticketOf
set_option maxRecDepth 20000 in
theorem ggL_law_X4_ticketState : GoodIn wsL_law wsX4_ticketState := goodIn_r _ [463, 24, 464, 438, 439, 23, 440, 49, 255, 256, 257, 258, 50, 289, 290, 291, 292, 48, 672, 673, 674, 675, 676, 703, 704, 705] (by decide +kernel) (by decide +kernel)
set_option maxRecDepth 20000 in
theorem gL_law_X4_ticketState : GoodIn wsL_law (wsV RL 154 RX4 yX4_ticketState wsX4_ticketState) := goodIn_app (goodIn_of _ (by decide +kernel)) ggL_law_X4_ticketState
set_option maxRecDepth 20000 in
theorem ggL_law_X5_ticketState : GoodIn wsL_law wsX5_ticketState := goodIn_r _ [468, 121, 60, 469, 470, 471, 5, 472, 265, 677, 678, 679, 680, 681, 682, 683, 684, 685, 686, 687, 688, 689, 690, 691, 692] (by decide +kernel) (by decide +kernel)
set_option maxRecDepth 20000 in
theorem gL_law_X5_ticketState : GoodIn wsL_law (wsV RL 157 RX5 yX5_ticketState wsX5_ticketState) := goodIn_app (goodIn_of _ (by decide +kernel)) ggL_law_X5_ticketState
set_option maxRecDepth 20000 in
theorem ggL_law_X4_ticketSize : GoodIn wsL_law wsX4_ticketSize := goodIn_r _ [476, 24, 477, 290, 291, 23, 292, 48, 255, 256, 257, 258, 50, 49, 672, 673, 674, 675, 676, 703, 704, 705] (by decide +kernel) (by decide +kernel)
set_option maxRecDepth 20000 in
theorem gL_law_X4_ticketSize : GoodIn wsL_law (wsV RL 158 RX4 yX4_ticketSize wsX4_ticketSize) := goodIn_app (goodIn_of _ (by decide +kernel)) ggL_law_X4_ticketSize
set_option maxRecDepth 20000 in
theorem ggL_law_X5_ticketSize : GoodIn wsL_law wsX5_ticketSize := goodIn_r _ [481, 121, 59, 469, 470, 471, 5, 472, 265, 297, 298, 299, 677, 678, 679, 680, 681, 682, 683, 684, 685, 686, 687, 688, 689, 690, 691, 692] (by decide +kernel) (by decide +kernel)
set_option maxRecDepth 20000 in
theorem gL_law_X5_ticketSize : GoodIn wsL_law (wsV RL 161 RX5 yX5_ticketSize wsX5_ticketSize) := goodIn_app (goodIn_of _ (by decide +kernel)) ggL_law_X5_ticketSize
set_option maxRecDepth 20000 in
theorem ggL_law_X4_mergedInto : GoodIn wsL_law wsX4_mergedInto := goodIn_r _ [485, 24, 486, 487, 488, 23, 489, 49, 255, 256, 257, 258, 50, 672, 673, 674, 675, 676, 703, 704, 705] (by decide +kernel) (by decide +kernel)
set_option maxRecDepth 20000 in
theorem gL_law_X4_mergedInto : GoodIn wsL_law (wsV RL 162 RX4 yX4_mergedInto wsX4_mergedInto) := goodIn_app (goodIn_of _ (by decide +kernel)) ggL_law_X4_mergedInto
set_option maxRecDepth 20000 in
theorem ggL_law_X5_mergedInto : GoodIn wsL_law wsX5_mergedInto := goodIn_r _ [493, 121, 60, 61, 469, 470, 471, 5, 472, 265, 677, 678, 679, 680, 681, 682, 683, 684, 685, 686, 687, 688, 689, 690, 691, 692] (by decide +kernel) (by decide +kernel)
set_option maxRecDepth 20000 in
theorem gL_law_X5_mergedInto : GoodIn wsL_law (wsV RL 165 RX5 yX5_mergedInto wsX5_mergedInto) := goodIn_app (goodIn_of _ (by decide +kernel)) ggL_law_X5_mergedInto
set_option maxRecDepth 20000 in
theorem ggL_law_L_isPlausible : GoodIn wsL_law wsL_isPlausible := goodIn_ca (goodIn_r _ [496, 70, 497, 498, 499, 2, 500, 78, 79, 80, 81, 82, 501, 502, 503, 504, 505, 506, 507, 16, 25, 508, 509, 510, 511, 11, 12, 512, 513, 514, 515, 516, 517, 518, 519, 520, 15, 521, 32, 91, 92, 522, 523, 524, 525, 87, 88, 89, 90, 706, 707, 708, 672, 673, 674, 675, 676, 693, 694, 695, 696] (by decide +kernel) (by decide +kernel)) (goodIn_sub (fun _ h => List.mem_append_left _ (List.mem_append_right _ h)) (by decide +kernel))
set_option maxRecDepth 20000 in
theorem gL_law_L_isPlausible : GoodIn wsL_law (va_wsS RL 166 yL_isPlausible wsL_isPlausible) := goodIn_app (goodIn_of _ (by decide +kernel)) ggL_law_L_isPlausible
set_option maxRecDepth 20000 in
theorem ggL_law_X5_isPlausible : GoodIn wsL_law wsX5_isPlausible := goodIn_r _ [529, 111, 112, 5, 113, 117, 118, 119, 120, 121, 530, 531, 532, 533, 55, 263, 114, 115, 116, 677, 678, 679, 680, 681, 682, 683, 684, 685, 686, 687, 688, 689, 690, 691, 692] (by decide +kernel) (by decide +kernel)
set_option maxRecDepth 20000 in
theorem gL_law_X5_isPlausible : GoodIn wsL_law (wsV RL 168 RX5 yX5_isPlausible wsX5_isPlausible) := goodIn_app (goodIn_of _ (by decide +kernel)) ggL_law_X5_isPlausible
set_option maxRecDepth 20000 in
theorem ggL_law_X4_causes : GoodIn wsL_law wsX4_causes := goodIn_r _ [537, 501, 502, 503, 2, 504, 505, 506, 507, 16, 25, 508, 509, 510, 511, 11, 12, 512, 513, 514, 515, 516, 517, 518, 519, 520, 15, 521, 32, 91, 92, 538, 539, 540, 541, 542, 543, 544, 545, 546, 87, 88, 89, 90, 547, 548, 549, 550, 551, 552, 553, 554, 555, 556, 557, 558, 559, 560, 561, 33, 562, 563, 564, 565, 34, 566, 706, 707, 708, 672, 673, 674, 675, 676, 693, 694, 695, 696] (by decide +kernel) (by decide +kernel)
set_option maxRecDepth 20000 in
theorem gL_law_X4_causes : GoodIn wsL_law (wsV RL 169 RX4 yX4_causes wsX4_causes) := goodIn_app (goodIn_of _ (by decide +kernel)) ggL_law_X4_causes
set_option maxRecDepth 20000 in
theorem ggL_law_X5_causes : GoodIn wsL_law wsX5_causes := goodIn_r _ [570, 121, 571, 572, 573, 5, 574, 263, 530, 531, 532, 533, 55, 114, 115, 116, 575, 576, 577, 578, 297, 298, 299, 579, 580, 581, 582, 56, 677, 678, 679, 680, 681, 682, 683, 684, 685, 686, 687, 688, 689, 690, 691, 692] (by decide +kernel) (by decide +kernel)
set_option maxRecDepth 20000 in
theorem gL_law_X5_causes : GoodIn wsL_law (wsV RL 172 RX5 yX5_causes wsX5_causes) := goodIn_app (goodIn_of _ (by decide +kernel)) ggL_law_X5_causes
set_option maxRecDepth 20000 in
theorem ggL_law_L_cause : GoodIn wsL_law wsL_cause := goodIn_ca (goodIn_r _ [585, 70, 586, 587, 588, 2, 589, 501, 502, 503, 504, 505, 506, 507, 16, 25, 508, 509, 510, 511, 11, 12, 512, 513, 514, 515, 516, 517, 518, 519, 520, 15, 521, 32, 91, 92, 538, 539, 540, 541, 542, 543, 544, 545, 546, 87, 88, 89, 90, 547, 548, 549, 550, 551, 552, 553, 554, 555, 556, 557, 558, 559, 560, 561, 33, 562, 563, 564, 565, 34, 590, 591, 592, 81, 82, 593, 706, 707, 708, 672, 673, 674, 675, 676, 693, 694, 695, 696] (by decide +kernel) (by decide +kernel)) (goodIn_sub (fun _ h => List.mem_append_left _ (List.mem_append_right _ h)) (by decide +kernel))
set_option maxRecDepth 20000 in
theorem gL_law_L_cause : GoodIn wsL_law (va_wsS RL 173 yL_cause wsL_cause) := goodIn_app (goodIn_of _ (by decide +kernel)) ggL_law_L_cause
set_option maxRecDepth 20000 in
theorem ggL_law_X5_cause : GoodIn wsL_law wsX5_cause := goodIn_r _ [597, 571, 572, 573, 5, 574, 263, 530, 531, 532, 533, 55, 114, 115, 116, 575, 576, 577, 578, 297, 298, 299, 579, 580, 581, 582, 56, 117, 118, 119, 120, 121, 598, 599, 600, 677, 678, 679, 680, 681, 682, 683, 684, 685, 686, 687, 688, 689, 690, 691, 692] (by decide +kernel) (by decide +kernel)
set_option maxRecDepth 20000 in
theorem gL_law_X5_cause : GoodIn wsL_law (wsV RL 175 RX5 yX5_cause wsX5_cause) := goodIn_app (goodIn_of _ (by decide +kernel)) ggL_law_X5_cause
set_option maxRecDepth 20000 in
theorem ggL_law_L_causeByTrying : GoodIn wsL_law wsL_causeByTrying := goodIn_ca (goodIn_r _ [603, 70, 604, 605, 606, 2, 607, 501, 502, 503, 504, 505, 506, 507, 16, 25, 508, 509, 510, 511, 11, 12, 512, 513, 514, 515, 516, 517, 518, 519, 520, 15, 521, 32, 91, 92, 608, 609, 610, 611, 551, 552, 553, 554, 555, 556, 557, 547, 548, 549, 550, 545, 546, 87, 88, 89, 90, 612, 613, 614, 615, 558, 559, 560, 561, 33, 590, 591, 592, 81, 82, 593, 706, 707, 708, 672, 673, 674, 675, 676, 693, 694, 695, 696] (by decide +kernel) (by decide +kernel)) (goodIn_sub (fun _ h => List.mem_append_left _ (List.mem_append_right _ h)) (by decide +kernel))
set_option maxRecDepth 20000 in
theorem gL_law_L_causeByTrying : GoodIn wsL_law (va_wsS RL 176 yL_causeByTrying wsL_causeByTrying) := goodIn_app (goodIn_of _ (by decide +kernel)) ggL_law_L_causeByTrying
set_option maxRecDepth 20000 in
theorem ggL_law_X5_causeByTrying : GoodIn wsL_law wsX5_causeByTrying := goodIn_r _ [619, 620, 595, 596, 5, 597, 571, 572, 573, 574, 263, 530, 531, 532, 533, 55, 114, 115, 116, 575, 576, 577, 578, 297, 298, 299, 579, 580, 581, 582, 56, 117, 118, 119, 120, 121, 598, 599, 600, 677, 678, 679, 680, 681, 682, 683, 684, 685, 686, 687, 688, 689, 690, 691, 692] (by decide +kernel) (by decide +kernel)
set_option maxRecDepth 20000 in
theorem gL_law_X5_causeByTrying : GoodIn wsL_law (wsV RL 178 RX5 yX5_causeByTrying wsX5_causeByTrying) := goodIn_app (goodIn_of _ (by decide +kernel)) ggL_law_X5_causeByTrying
set_option maxRecDepth 20000 in
theorem ggL_law_X4_greedyCauses : GoodIn wsL_law wsX4_greedyCauses := goodIn_r _ [624, 501, 502, 503, 2, 504, 505, 506, 507, 16, 25, 508, 509, 510, 511, 11, 12, 512, 513, 514, 515, 516, 517, 518, 519, 520, 15, 521, 32, 91, 92, 625, 626, 627, 628, 629, 630, 631, 632, 88, 89, 90, 562, 563, 564, 565, 34, 551, 552, 553, 554, 555, 556, 557, 706, 707, 708, 672, 673, 674, 675, 676, 693, 694, 695, 696] (by decide +kernel) (by decide +kernel)
set_option maxRecDepth 20000 in
theorem gL_law_X4_greedyCauses : GoodIn wsL_law (wsV RL 179 RX4 yX4_greedyCauses wsX4_greedyCauses) := goodIn_app (goodIn_of _ (by decide +kernel)) ggL_law_X4_greedyCauses
set_option maxRecDepth 20000 in
theorem ggL_law_X5_greedyCauses : GoodIn wsL_law wsX5_greedyCauses := goodIn_r _ [636, 121, 263, 637, 638, 639, 5, 640, 530, 531, 532, 533, 55, 114, 115, 116, 641, 642, 643, 644, 56, 297, 298, 299, 677, 678, 679, 680, 681, 682, 683, 684, 685, 686, 687, 688, 689, 690, 691, 692] (by decide +kernel) (by decide +kernel)
set_option maxRecDepth 20000 in
theorem gL_law_X5_greedyCauses : GoodIn wsL_law (wsV RL 182 RX5 yX5_greedyCauses wsX5_greedyCauses) := goodIn_app (goodIn_of _ (by decide +kernel)) ggL_law_X5_greedyCauses
set_option maxRecDepth 20000 in
theorem ggL_law_L_greedyCause : GoodIn wsL_law wsL_greedyCause := goodIn_ca (goodIn_r _ [647, 70, 648, 649, 650, 2, 651, 81, 82, 501, 502, 503, 504, 505, 506, 507, 16, 25, 508, 509, 510, 511, 11, 12, 512, 513, 514, 515, 516, 517, 518, 519, 520, 15, 521, 32, 91, 92, 652, 653, 654, 655, 629, 630, 631, 632, 88, 89, 90, 562, 563, 564, 565, 34, 551, 552, 553, 554, 555, 556, 557, 706, 707, 708, 672, 673, 674, 675, 676, 693, 694, 695, 696] (by decide +kernel) (by decide +kernel)) (goodIn_sub (fun _ h => List.mem_append_left _ (List.mem_append_right _ h)) (by decide +kernel))
set_option maxRecDepth 20000 in
theorem gL_law_L_greedyCause : GoodIn wsL_law (va_wsS RL 183 yL_greedyCause wsL_greedyCause) := goodIn_app (goodIn_of _ (by decide +kernel)) ggL_law_L_greedyCause
set_option maxRecDepth 20000 in
theorem ggL_law_X5_greedyCause : GoodIn wsL_law wsX5_greedyCause := goodIn_r _ [659, 263, 637, 638, 639, 5, 640, 530, 531, 532, 533, 55, 114, 115, 116, 641, 642, 643, 644, 56, 297, 298, 299, 117, 118, 119, 120, 121, 677, 678, 679, 680, 681, 682, 683, 684, 685, 686, 687, 688, 689, 690, 691, 692] (by decide +kernel) (by decide +kernel)
set_option maxRecDepth 20000 in
theorem gL_law_X5_greedyCause : GoodIn wsL_law (wsV RL 185 RX5 yX5_greedyCause wsX5_greedyCause) := goodIn_app (goodIn_of _ (by decide +kernel)) ggL_law_X5_greedyCause
set_option maxRecDepth 20000 in
theorem ggL_law_L_causeOf : GoodIn wsL_law wsL_causeOf := goodIn_ca (goodIn_r _ [662, 70, 663, 664, 665, 2, 666, 25, 16, 78, 79, 80, 81, 82, 87, 88, 89, 90, 91, 92, 501, 502, 503, 504, 505, 506, 507, 508, 509, 510, 511, 11, 12, 512, 513, 514, 515, 516, 517, 518, 519, 520, 15, 521, 32, 538, 539, 540, 541, 542, 543, 544, 545, 546, 547, 548, 549, 550, 551, 552, 553, 554, 555, 556, 557, 558, 559, 560, 561, 33, 562, 563, 564, 565, 34, 667, 593, 672, 673, 674, 675, 676, 706, 707, 708, 693, 694, 695, 696] (by decide +kernel) (by decide +kernel)) (goodIn_sub (fun _ h => List.mem_append_left _ (List.mem_append_right _ h)) (by decide +kernel))
set_option maxRecDepth 20000 in
theorem gL_law_L_causeOf : GoodIn wsL_law (va_wsS RL 186 yL_causeOf wsL_causeOf) := goodIn_app (goodIn_of _ (by decide +kernel)) ggL_law_L_causeOf
set_option maxRecDepth 20000 in
theorem ggL_law_X5_causeOf : GoodIn wsL_law wsX5_causeOf := goodIn_r _ [671, 263, 111, 112, 5, 113, 117, 118, 119, 120, 121, 571, 572, 573, 574, 530, 531, 532, 533, 55, 114, 115, 116, 575, 576, 577, 578, 297, 298, 299, 579, 580, 581, 582, 56, 641, 642, 643, 644, 677, 678, 679, 680, 681, 682, 683, 684, 685, 686, 687, 688, 689, 690, 691, 692] (by decide +kernel) (by decide +kernel)
set_option maxRecDepth 20000 in
theorem gL_law_X5_causeOf : GoodIn wsL_law (wsV RL 188 RX5 yX5_causeOf wsX5_causeOf) := goodIn_app (goodIn_of _ (by decide +kernel)) ggL_law_X5_causeOf
