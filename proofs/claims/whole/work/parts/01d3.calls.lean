set_option maxRecDepth 20000 in
theorem gL_raise_X4_raise : GoodIn wsL_raise (wsV RL 33 RX4 yX4_raise wsX4_raise) := goodIn_app (goodIn_of _ (by decide +kernel)) ggL_raise_X4_raise
set_option maxRecDepth 20000 in
theorem ggL_clear_X4_clear : GoodIn wsL_clear wsX4_clear := goodIn_ca (goodIn_ca (goodIn_r _ [7, 8, 9, 10, 11, 12, 13, 6, 14, 15, 16, 17, 18, 19, 20, 21, 22, 23, 24, 25, 26, 27, 28, 29, 30, 31, 32, 33, 34, 35, 36, 37, 38, 39, 40, 41, 42, 43, 44, 45, 46, 47, 48, 49, 50, 51, 52, 53, 54, 55, 56, 57, 58, 59, 60, 61, 62, 63, 64, 65, 66, 67, 68, 69] (by decide +kernel) (by decide +kernel)) (goodIn_sub (fun _ h => List.mem_cons_of_mem _ (List.mem_append_left _ (List.mem_append_right _ h))) (by decide +kernel))) (goodIn_sub (fun _ h => List.mem_cons_of_mem _ (List.mem_append_right _ h)) (by decide +kernel))
set_option maxRecDepth 20000 in
theorem gL_clear_X4_clear : GoodIn wsL_clear (wsV RL 38 RX4 yX4_clear wsX4_clear) := goodIn_app (goodIn_of _ (by decide +kernel)) ggL_clear_X4_clear
set_option maxRecDepth 20000 in
theorem ggL_state_X4_state : GoodIn wsL_state wsX4_state := goodIn_ca (goodIn_r _ [6, 7, 8, 5, 9, 10, 11, 12, 13, 14, 15, 16, 17, 18, 19, 20, 21, 22, 23, 24, 25, 26, 27, 28, 29, 30, 31, 32, 33, 34, 35, 36, 37, 38, 39, 40, 41, 42, 43, 44, 45, 46, 47, 48, 49, 50, 51, 52, 53, 54, 55] (by decide +kernel) (by decide +kernel)) (goodIn_sub (fun _ h => List.mem_cons_of_mem _ (List.mem_append_right _ h)) (by decide +kernel))
set_option maxRecDepth 20000 in
theorem gL_state_X4_state : GoodIn wsL_state (wsV RL 41 RX4 yX4_state wsX4_state) := goodIn_app (goodIn_of _ (by decide +kernel)) ggL_state_X4_state
set_option maxRecDepth 20000 in
theorem ggL_nodesThatAre_X4_nodesThatAre : GoodIn wsL_nodesThatAre wsX4_nodesThatAre := goodIn_ca (goodIn_r _ [6, 7, 8, 9, 10, 11, 5, 12, 13, 14, 15, 16, 17, 18, 19, 20, 21, 22, 23, 24, 25, 26, 27, 28, 29, 30, 31, 32, 33, 34, 35, 36, 37, 38, 39, 40, 41, 42, 43, 44, 45, 46, 47, 48, 49, 50, 51, 52] (by decide +kernel) (by decide +kernel)) (goodIn_sub (fun _ h => List.mem_cons_of_mem _ (List.mem_append_right _ h)) (by decide +kernel))
set_option maxRecDepth 20000 in
theorem gL_nodesThatAre_X4_nodesThatAre : GoodIn wsL_nodesThatAre (wsV RL 44 RX4 yX4_nodesThatAre wsX4_nodesThatAre) := goodIn_app (goodIn_of _ (by decide +kernel)) ggL_nodesThatAre_X4_nodesThatAre
set_option maxRecDepth 20000 in
theorem ggL_raises_X4_raises : GoodIn wsL_raises wsX4_raises := goodIn_ca (goodIn_ca (goodIn_r _ [7, 8, 9, 10, 11, 6, 12, 13, 14, 15, 16, 17, 18, 19, 20, 21, 22, 23, 24, 25, 26, 27, 28, 29, 30, 31, 32, 33, 34, 35, 36, 37, 38, 39] (by decide +kernel) (by decide +kernel)) (goodIn_sub (fun _ h => List.mem_cons_of_mem _ (List.mem_append_left _ (List.mem_append_right _ h))) (by decide +kernel))) (goodIn_sub (fun _ h => List.mem_cons_of_mem _ (List.mem_append_right _ h)) (by decide +kernel))
set_option maxRecDepth 20000 in
theorem gL_raises_X4_raises : GoodIn wsL_raises (wsV RL 47 RX4 yX4_raises wsX4_raises) := goodIn_app (goodIn_of _ (by decide +kernel)) ggL_raises_X4_raises
set_option maxRecDepth 20000 in
theorem ggL_eventKind_X4_eventKind : GoodIn wsL_eventKind wsX4_eventKind := goodIn_ca (goodIn_r _ [6, 7, 8, 9, 10, 5, 11, 12, 13, 14, 15, 16, 17, 18, 19, 20, 21, 22, 23, 24, 25, 26, 27, 28, 29, 30, 31, 32, 33, 34, 35] (by decide +kernel) (by decide +kernel)) (goodIn_sub (fun _ h => List.mem_cons_of_mem _ (List.mem_append_right _ h)) (by decide +kernel))
set_option maxRecDepth 20000 in
theorem gL_eventKind_X4_eventKind : GoodIn wsL_eventKind (wsV RL 51 RX4 yX4_eventKind wsX4_eventKind) := goodIn_app (goodIn_of _ (by decide +kernel)) ggL_eventKind_X4_eventKind
set_option maxRecDepth 20000 in
theorem ggL_eventNode_X4_eventNode : GoodIn wsL_eventNode wsX4_eventNode := goodIn_ca (goodIn_r _ [6, 7, 8, 9, 10, 5, 11, 12, 13, 14, 15, 16, 17, 18, 19, 20, 21, 22, 23, 24, 25, 26, 27, 28, 29, 30, 31, 32, 33, 34, 35] (by decide +kernel) (by decide +kernel)) (goodIn_sub (fun _ h => List.mem_cons_of_mem _ (List.mem_append_right _ h)) (by decide +kernel))
set_option maxRecDepth 20000 in
theorem gL_eventNode_X4_eventNode : GoodIn wsL_eventNode (wsV RL 54 RX4 yX4_eventNode wsX4_eventNode) := goodIn_app (goodIn_of _ (by decide +kernel)) ggL_eventNode_X4_eventNode
set_option maxRecDepth 20000 in
theorem ggL_eventTime_X4_eventTime : GoodIn wsL_eventTime wsX4_eventTime := goodIn_ca (goodIn_r _ [6, 7, 8, 9, 10, 5, 11, 12, 13, 14, 15, 16, 17, 18, 19, 20, 21, 22, 23, 24, 25, 26, 27, 28, 29, 30, 31, 32, 33, 34, 35] (by decide +kernel) (by decide +kernel)) (goodIn_sub (fun _ h => List.mem_cons_of_mem _ (List.mem_append_right _ h)) (by decide +kernel))
set_option maxRecDepth 20000 in
theorem gL_eventTime_X4_eventTime : GoodIn wsL_eventTime (wsV RL 57 RX4 yX4_eventTime wsX4_eventTime) := goodIn_app (goodIn_of _ (by decide +kernel)) ggL_eventTime_X4_eventTime
set_option maxRecDepth 20000 in
theorem ggL_eventLength_X4_eventLength : GoodIn wsL_eventLength wsX4_eventLength := goodIn_ca (goodIn_r _ [6, 7, 8, 9, 10, 5, 11, 12, 13, 14, 15, 16, 17, 18, 19, 20, 21, 22, 23, 24, 25, 26, 27, 28, 29, 30, 31, 32, 33, 34, 35] (by decide +kernel) (by decide +kernel)) (goodIn_sub (fun _ h => List.mem_cons_of_mem _ (List.mem_append_right _ h)) (by decide +kernel))
set_option maxRecDepth 20000 in
theorem gL_eventLength_X4_eventLength : GoodIn wsL_eventLength (wsV RL 60 RX4 yX4_eventLength wsX4_eventLength) := goodIn_app (goodIn_of _ (by decide +kernel)) ggL_eventLength_X4_eventLength
set_option maxRecDepth 20000 in
theorem ggL_ticketOf_X4_ticketOf : GoodIn wsL_ticketOf wsX4_ticketOf := goodIn_ca (goodIn_r _ [6, 7, 8, 9, 5, 10, 11, 12, 13, 14, 15, 16, 17, 18, 19, 20, 21, 22, 23, 24, 25, 26, 27] (by decide +kernel) (by decide +kernel)) (goodIn_sub (fun _ h => List.mem_cons_of_mem _ (List.mem_append_right _ h)) (by decide +kernel))
set_option maxRecDepth 20000 in
theorem gL_ticketOf_X4_ticketOf : GoodIn wsL_ticketOf (wsV RL 63 RX4 yX4_ticketOf wsX4_ticketOf) := goodIn_app (goodIn_of _ (by decide +kernel)) ggL_ticketOf_X4_ticketOf
set_option maxRecDepth 20000 in
theorem ggL_isPlausible_X4_isPlausible : GoodIn wsL_isPlausible wsX4_isPlausible := goodIn_ca (goodIn_r _ [6, 7, 8, 5, 9, 10, 11, 12, 13, 14, 15, 16, 17, 18, 19, 20, 21, 22, 23, 24, 25, 26, 27, 28, 29, 30, 31, 32, 33, 34, 35, 36, 37, 38, 39, 40, 41, 42, 43, 44, 45, 46, 47, 48, 49, 50, 51, 52, 53, 54, 55, 56, 57, 58, 59, 60] (by decide +kernel) (by decide +kernel)) (goodIn_sub (fun _ h => List.mem_cons_of_mem _ (List.mem_append_right _ h)) (by decide +kernel))
set_option maxRecDepth 20000 in
theorem gL_isPlausible_X4_isPlausible : GoodIn wsL_isPlausible (wsV RL 66 RX4 yX4_isPlausible wsX4_isPlausible) := goodIn_app (goodIn_of _ (by decide +kernel)) ggL_isPlausible_X4_isPlausible
set_option maxRecDepth 20000 in
theorem ggL_cause_X4_cause : GoodIn wsL_cause wsX4_cause := goodIn_ca (goodIn_r _ [6, 7, 8, 9, 5, 10, 11, 12, 13, 14, 15, 16, 17, 18, 19, 20, 21, 22, 23, 24, 25, 26, 27, 28, 29, 30, 31, 32, 33, 34, 35, 36, 37, 38, 39, 40, 41, 42, 43, 44, 45, 46, 47, 48, 49, 50, 51, 52, 53, 54, 55, 56, 57, 58, 59, 60, 61, 62, 63, 64, 65, 66, 67, 68, 69, 70, 71, 72, 73, 74, 75, 76, 77, 78, 79, 80, 81, 82, 83, 84, 85, 86, 87] (by decide +kernel) (by decide +kernel)) (goodIn_sub (fun _ h => List.mem_cons_of_mem _ (List.mem_append_right _ h)) (by decide +kernel))
set_option maxRecDepth 20000 in
theorem gL_cause_X4_cause : GoodIn wsL_cause (wsV RL 70 RX4 yX4_cause wsX4_cause) := goodIn_app (goodIn_of _ (by decide +kernel)) ggL_cause_X4_cause
set_option maxRecDepth 20000 in
theorem ggL_causeByTrying_X4_causeByTrying : GoodIn wsL_causeByTrying wsX4_causeByTrying := goodIn_ca (goodIn_r _ [6, 7, 8, 9, 5, 10, 11, 12, 13, 14, 15, 16, 17, 18, 19, 20, 21, 22, 23, 24, 25, 26, 27, 28, 29, 30, 31, 32, 33, 34, 35, 36, 37, 38, 39, 40, 41, 42, 43, 44, 45, 46, 47, 48, 49, 50, 51, 52, 53, 54, 55, 56, 57, 58, 59, 60, 61, 62, 63, 64, 65, 66, 67, 68, 69, 70, 71, 72, 73, 74, 75, 76, 77, 78, 79, 80, 81, 82, 83] (by decide +kernel) (by decide +kernel)) (goodIn_sub (fun _ h => List.mem_cons_of_mem _ (List.mem_append_right _ h)) (by decide +kernel))
set_option maxRecDepth 20000 in
theorem gL_causeByTrying_X4_causeByTrying : GoodIn wsL_causeByTrying (wsV RL 73 RX4 yX4_causeByTrying wsX4_causeByTrying) := goodIn_app (goodIn_of _ (by decide +kernel)) ggL_causeByTrying_X4_causeByTrying
set_option maxRecDepth 20000 in
theorem ggL_greedyCause_X4_greedyCause : GoodIn wsL_greedyCause wsX4_greedyCause := goodIn_ca (goodIn_r _ [6, 7, 8, 9, 10, 11, 5, 12, 13, 14, 15, 16, 17, 18, 19, 20, 21, 22, 23, 24, 25, 26, 27, 28, 29, 30, 31, 32, 33, 34, 35, 36, 37, 38, 39, 40, 41, 42, 43, 44, 45, 46, 47, 48, 49, 50, 51, 52, 53, 54, 55, 56, 57, 58, 59, 60, 61, 62, 63, 64, 65, 66, 67, 68, 69, 70, 71, 72] (by decide +kernel) (by decide +kernel)) (goodIn_sub (fun _ h => List.mem_cons_of_mem _ (List.mem_append_right _ h)) (by decide +kernel))
set_option maxRecDepth 20000 in
theorem gL_greedyCause_X4_greedyCause : GoodIn wsL_greedyCause (wsV RL 76 RX4 yX4_greedyCause wsX4_greedyCause) := goodIn_app (goodIn_of _ (by decide +kernel)) ggL_greedyCause_X4_greedyCause
set_option maxRecDepth 20000 in
theorem ggL_causeOf_X4_causeOf : GoodIn wsL_causeOf wsX4_causeOf := goodIn_ca (goodIn_r _ [6, 7, 8, 9, 10, 5, 11, 12, 13, 14, 15, 16, 17, 18, 19, 20, 21, 22, 23, 24, 25, 26, 27, 28, 29, 30, 31, 32, 33, 34, 35, 36, 37, 38, 39, 40, 41, 42, 43, 44, 45, 46, 47, 48, 49, 50, 51, 52, 53, 54, 55, 56, 57, 58, 59, 60, 61, 62, 63, 64, 65, 66, 67, 68, 69, 70, 71, 72, 73, 74, 75, 76, 77, 78, 79, 80, 81, 82, 83, 84, 85, 86, 87, 88] (by decide +kernel) (by decide +kernel)) (goodIn_sub (fun _ h => List.mem_cons_of_mem _ (List.mem_append_right _ h)) (by decide +kernel))
set_option maxRecDepth 20000 in
theorem gL_causeOf_X4_causeOf : GoodIn wsL_causeOf (wsV RL 79 RX4 yX4_causeOf wsX4_causeOf) := goodIn_app (goodIn_of _ (by decide +kernel)) ggL_causeOf_X4_causeOf
set_option maxRecDepth 20000 in
theorem ggL_law_X4_init : GoodIn wsL_law wsX4_init := goodIn_r _ [9, 10, 11, 12, 13, 14, 15, 16, 17, 18, 19, 20, 21, 22, 23, 24, 25, 26, 27, 28, 29, 30, 31, 32, 33, 34, 35, 36, 37, 38, 39, 40, 41, 42, 43, 44, 45, 46, 47, 48, 49, 50, 51, 697, 698, 699, 700, 676, 677, 678, 679, 680, 701, 702, 703, 704, 705, 706, 707, 708, 709, 710] (by decide +kernel) (by decide +kernel)
set_option maxRecDepth 20000 in
theorem gL_law_X4_init : GoodIn wsL_law (wsX4_init) := ggL_law_X4_init
set_option maxRecDepth 20000 in
theorem ggL_law_X5_init : GoodIn wsL_law wsX5_init := goodIn_r _ [54, 55, 11, 12, 30, 56, 57, 58, 59, 60, 61, 62, 63, 64, 65, 66, 681, 682, 683, 684, 685, 686, 687, 688, 689, 690, 691, 692, 693, 694, 695, 696] (by decide +kernel) (by decide +kernel)
set_option maxRecDepth 20000 in
theorem gL_law_X5_init : GoodIn wsL_law (wsX5_init) := ggL_law_X5_init
set_option maxRecDepth 20000 in
theorem ggL_law_L_need : GoodIn wsL_law wsL_need := goodIn_ca (goodIn_ca (goodIn_r _ [70, 71, 72, 73, 74, 75, 2, 76, 77, 78, 16, 79, 80, 81, 82, 83, 84, 85, 86, 15, 87, 33, 88, 89, 90, 91, 92, 93, 94, 95, 96, 97, 31, 32, 98, 99, 100, 101, 34, 102, 103, 104, 105, 106, 107, 676, 677, 678, 679, 680, 697, 698, 699, 700] (by decide +kernel) (by decide +kernel)) (goodIn_sub (fun _ h => List.mem_append_left _ (List.mem_append_left _ (List.mem_append_right _ h))) (by decide +kernel))) (goodIn_sub (fun _ h => List.mem_append_left _ (List.mem_append_right _ h)) (by decide +kernel))
set_option maxRecDepth 20000 in
theorem gL_law_L_need : GoodIn wsL_law (va_wsS RL 86 yL_need wsL_need) := goodIn_app (goodIn_of _ (by decide +kernel)) ggL_law_L_need
set_option maxRecDepth 20000 in
theorem ggL_law_X5_need : GoodIn wsL_law wsX5_need := goodIn_r _ [111, 57, 56, 112, 113, 5, 114, 115, 116, 117, 118, 119, 120, 121, 122, 123, 124, 125, 126, 681, 682, 683, 684, 685, 686, 687, 688, 689, 690, 691, 692, 693, 694, 695, 696] (by decide +kernel) (by decide +kernel)
set_option maxRecDepth 20000 in
theorem gL_law_X5_need : GoodIn wsL_law (wsV RL 91 RX5 yX5_need wsX5_need) := goodIn_app (goodIn_of _ (by decide +kernel)) ggL_law_X5_need
set_option maxRecDepth 20000 in
theorem ggL_law_X5_thrown : GoodIn wsL_law wsX5_thrown := goodIn_r _ [130, 122, 681, 682, 683, 684, 685, 686, 687, 688, 689, 690, 691, 692, 693, 694, 695, 696] (by decide +kernel) (by decide +kernel)
set_option maxRecDepth 20000 in
theorem gL_law_X5_thrown : GoodIn wsL_law (wsV RL 92 RX5 yX5_thrown wsX5_thrown) := goodIn_app (goodIn_of _ (by decide +kernel)) ggL_law_X5_thrown
set_option maxRecDepth 20000 in
theorem ggL_law_L_release : GoodIn wsL_law wsL_release := goodIn_ca (goodIn_r _ [133, 71, 134, 135, 136, 2, 137, 16, 79, 80, 81, 82, 83, 138, 139, 140, 15, 141, 31, 32, 89, 90, 91, 92, 93, 98, 99, 100, 101, 33, 34, 102, 103, 104, 105, 106, 107, 676, 677, 678, 679, 680, 697, 698, 699, 700] (by decide +kernel) (by decide +kernel)) (goodIn_sub (fun _ h => List.mem_append_left _ (List.mem_append_right _ h)) (by decide +kernel))
set_option maxRecDepth 20000 in
theorem gL_law_L_release : GoodIn wsL_law (va_wsS RL 96 yL_release wsL_release) := goodIn_app (goodIn_of _ (by decide +kernel)) ggL_law_L_release
set_option maxRecDepth 20000 in
theorem ggL_law_X5_release : GoodIn wsL_law wsX5_release := goodIn_r _ [145, 56, 112, 113, 5, 114, 118, 119, 120, 121, 122, 115, 116, 117, 123, 124, 125, 126, 57, 681, 682, 683, 684, 685, 686, 687, 688, 689, 690, 691, 692, 693, 694, 695, 696] (by decide +kernel) (by decide +kernel)
set_option maxRecDepth 20000 in
theorem gL_law_X5_release : GoodIn wsL_law (wsV RL 98 RX5 yX5_release wsX5_release) := goodIn_app (goodIn_of _ (by decide +kernel)) ggL_law_X5_release
set_option maxRecDepth 20000 in
theorem ggL_law_L_needs : GoodIn wsL_law wsL_needs := goodIn_ca (goodIn_r _ [148, 71, 149, 150, 151, 2, 152, 16, 79, 80, 81, 82, 83, 153, 154, 155, 15, 156, 31, 88, 89, 90, 91, 92, 93, 676, 677, 678, 679, 680, 697, 698, 699, 700] (by decide +kernel) (by decide +kernel)) (goodIn_sub (fun _ h => List.mem_append_left _ (List.mem_append_right _ h)) (by decide +kernel))
set_option maxRecDepth 20000 in
theorem gL_law_L_needs : GoodIn wsL_law (va_wsS RL 99 yL_needs wsL_needs) := goodIn_app (goodIn_of _ (by decide +kernel)) ggL_law_L_needs
set_option maxRecDepth 20000 in
theorem ggL_law_X5_needs : GoodIn wsL_law wsX5_needs := goodIn_r _ [160, 56, 112, 113, 5, 114, 118, 119, 120, 121, 122, 115, 116, 117, 681, 682, 683, 684, 685, 686, 687, 688, 689, 690, 691, 692, 693, 694, 695, 696] (by decide +kernel) (by decide +kernel)
set_option maxRecDepth 20000 in
theorem gL_law_X5_needs : GoodIn wsL_law (wsV RL 101 RX5 yX5_needs wsX5_needs) := goodIn_app (goodIn_of _ (by decide +kernel)) ggL_law_X5_needs
set_option maxRecDepth 20000 in
theorem ggL_law_L_dependsOn : GoodIn wsL_law wsL_dependsOn := goodIn_ca (goodIn_r _ [163, 71, 164, 165, 166, 2, 167, 16, 79, 80, 81, 82, 83, 84, 85, 86, 15, 87, 33, 88, 89, 90, 91, 92, 93, 676, 677, 678, 679, 680, 697, 698, 699, 700] (by decide +kernel) (by decide +kernel)) (goodIn_sub (fun _ h => List.mem_append_left _ (List.mem_append_right _ h)) (by decide +kernel))
set_option maxRecDepth 20000 in
theorem gL_law_L_dependsOn : GoodIn wsL_law (va_wsS RL 102 yL_dependsOn wsL_dependsOn) := goodIn_app (goodIn_of _ (by decide +kernel)) ggL_law_L_dependsOn
set_option maxRecDepth 20000 in
theorem ggL_law_X5_dependsOn : GoodIn wsL_law wsX5_dependsOn := goodIn_r _ [171, 57, 112, 113, 5, 114, 118, 119, 120, 121, 122, 115, 116, 117, 681, 682, 683, 684, 685, 686, 687, 688, 689, 690, 691, 692, 693, 694, 695, 696] (by decide +kernel) (by decide +kernel)
set_option maxRecDepth 20000 in
theorem gL_law_X5_dependsOn : GoodIn wsL_law (wsV RL 104 RX5 yX5_dependsOn wsX5_dependsOn) := goodIn_app (goodIn_of _ (by decide +kernel)) ggL_law_X5_dependsOn
set_option maxRecDepth 20000 in
theorem ggL_law_L_height : GoodIn wsL_law wsL_height := goodIn_ca (goodIn_r _ [174, 71, 175, 176, 177, 2, 178, 16, 79, 80, 81, 82, 83, 179, 180, 181, 15, 182, 31, 92, 93, 105, 106, 107, 89, 90, 91, 676, 677, 678, 679, 680, 697, 698, 699, 700] (by decide +kernel) (by decide +kernel)) (goodIn_sub (fun _ h => List.mem_append_left _ (List.mem_append_right _ h)) (by decide +kernel))
set_option maxRecDepth 20000 in
theorem gL_law_L_height : GoodIn wsL_law (va_wsS RL 105 yL_height wsL_height) := goodIn_app (goodIn_of _ (by decide +kernel)) ggL_law_L_height
set_option maxRecDepth 20000 in
theorem ggL_law_X5_height : GoodIn wsL_law wsX5_height := goodIn_r _ [186, 56, 112, 113, 5, 114, 118, 119, 120, 121, 122, 115, 116, 117, 681, 682, 683, 684, 685, 686, 687, 688, 689, 690, 691, 692, 693, 694, 695, 696] (by decide +kernel) (by decide +kernel)
set_option maxRecDepth 20000 in
theorem gL_law_X5_height : GoodIn wsL_law (wsV RL 108 RX5 yX5_height wsX5_height) := goodIn_app (goodIn_of _ (by decide +kernel)) ggL_law_X5_height
set_option maxRecDepth 20000 in
theorem ggL_law_L_tick : GoodIn wsL_law wsL_tick := goodIn_ca (goodIn_r _ [189, 72, 190, 191, 192, 2, 193, 26, 194, 195, 196, 77, 78, 676, 677, 678, 679, 680] (by decide +kernel) (by decide +kernel)) (goodIn_sub (fun _ h => List.mem_append_left _ (List.mem_append_left _ (List.mem_append_right _ h))) (by decide +kernel))
set_option maxRecDepth 20000 in
theorem gL_law_L_tick : GoodIn wsL_law (va_wsS RL 109 yL_tick wsL_tick) := goodIn_app (goodIn_of _ (by decide +kernel)) ggL_law_L_tick
set_option maxRecDepth 20000 in
theorem ggL_law_X5_tick : GoodIn wsL_law wsX5_tick := goodIn_r _ [200, 201, 118, 119, 120, 5, 121, 122, 681, 682, 683, 684, 685, 686, 687, 688, 689, 690, 691, 692, 693, 694, 695, 696] (by decide +kernel) (by decide +kernel)
set_option maxRecDepth 20000 in
theorem gL_law_X5_tick : GoodIn wsL_law (wsV RL 111 RX5 yX5_tick wsX5_tick) := goodIn_app (goodIn_of _ (by decide +kernel)) ggL_law_X5_tick
set_option maxRecDepth 20000 in
theorem ggL_law_X4_now : GoodIn wsL_law wsX4_now := goodIn_r _ [205, 26, 676, 677, 678, 679, 680] (by decide +kernel) (by decide +kernel)
set_option maxRecDepth 20000 in
theorem gL_law_X4_now : GoodIn wsL_law (wsV RL 112 RX4 yX4_now wsX4_now) := goodIn_app (goodIn_of _ (by decide +kernel)) ggL_law_X4_now
set_option maxRecDepth 20000 in
theorem ggL_law_X5_now : GoodIn wsL_law wsX5_now := goodIn_r _ [209, 122, 201, 681, 682, 683, 684, 685, 686, 687, 688, 689, 690, 691, 692, 693, 694, 695, 696] (by decide +kernel) (by decide +kernel)
set_option maxRecDepth 20000 in
theorem gL_law_X5_now : GoodIn wsL_law (wsV RL 115 RX5 yX5_now wsX5_now) := goodIn_app (goodIn_of _ (by decide +kernel)) ggL_law_X5_now
set_option maxRecDepth 20000 in
theorem ggL_law_L_raise : GoodIn wsL_law wsL_raise := goodIn_ca (goodIn_ca (goodIn_r _ [212, 71, 213, 214, 215, 216, 2, 217, 25, 20, 26, 16, 24, 79, 80, 81, 82, 83, 88, 89, 90, 91, 92, 93, 218, 219, 220, 221, 222, 223, 224, 225, 226, 19, 227, 43, 228, 229, 230, 231, 42, 232, 233, 234, 235, 38, 39, 40, 41, 84, 85, 86, 15, 87, 33, 236, 237, 238, 239, 34, 240, 241, 242, 23, 243, 48, 49, 244, 245, 246, 247, 51, 50, 248, 249, 250, 251, 252, 253, 254, 255, 256, 257, 258, 259, 676, 677, 678, 679, 680, 701, 702, 703, 704, 705, 706, 697, 698, 699, 700, 707, 708, 709, 710] (by decide +kernel) (by decide +kernel)) (goodIn_sub (fun _ h => List.mem_append_left _ (List.mem_append_right _ h)) (by decide +kernel))) (goodIn_sub (fun _ h => List.mem_append_right _ h) (by decide +kernel))
set_option maxRecDepth 20000 in
theorem gL_law_L_raise : GoodIn wsL_law (va_wsS RL 116 yL_raise wsL_raise) := goodIn_app (goodIn_of _ (by decide +kernel)) ggL_law_L_raise
set_option maxRecDepth 20000 in
theorem ggL_law_X5_raise : GoodIn wsL_law wsX5_raise := goodIn_r _ [263, 264, 265, 59, 266, 61, 60, 62, 58, 201, 112, 113, 5, 114, 115, 116, 117, 118, 119, 120, 121, 122, 267, 268, 269, 270, 57, 271, 272, 273, 274, 63, 64, 65, 66, 681, 682, 683, 684, 685, 686, 687, 688, 689, 690, 691, 692, 693, 694, 695, 696] (by decide +kernel) (by decide +kernel)
set_option maxRecDepth 20000 in
theorem gL_law_X5_raise : GoodIn wsL_law (wsV RL 118 RX5 yX5_raise wsX5_raise) := goodIn_app (goodIn_of _ (by decide +kernel)) ggL_law_X5_raise
set_option maxRecDepth 20000 in
theorem ggL_law_L_clear : GoodIn wsL_law wsL_clear := goodIn_ca (goodIn_ca (goodIn_r _ [277, 71, 213, 278, 279, 280, 2, 281, 25, 20, 26, 24, 79, 80, 81, 82, 83, 88, 89, 90, 91, 92, 93, 218, 219, 220, 221, 222, 223, 224, 225, 226, 19, 227, 43, 282, 283, 284, 285, 42, 232, 233, 234, 235, 38, 39, 40, 41, 286, 287, 288, 23, 289, 48, 49, 676, 677, 678, 679, 680, 701, 702, 703, 704, 705, 706, 707, 708, 709, 710] (by decide +kernel) (by decide +kernel)) (goodIn_sub (fun _ h => List.mem_append_left _ (List.mem_append_right _ h)) (by decide +kernel))) (goodIn_sub (fun _ h => List.mem_append_right _ h) (by decide +kernel))
set_option maxRecDepth 20000 in
theorem gL_law_L_clear : GoodIn wsL_law (va_wsS RL 119 yL_clear wsL_clear) := goodIn_app (goodIn_of _ (by decide +kernel)) ggL_law_L_clear
set_option maxRecDepth 20000 in
theorem ggL_law_X5_clear : GoodIn wsL_law wsX5_clear := goodIn_r _ [293, 264, 265, 59, 60, 61, 201, 58, 112, 113, 5, 114, 115, 116, 117, 118, 119, 120, 121, 122, 271, 272, 273, 274, 63, 64, 65, 66, 294, 295, 296, 681, 682, 683, 684, 685, 686, 687, 688, 689, 690, 691, 692, 693, 694, 695, 696] (by decide +kernel) (by decide +kernel)
set_option maxRecDepth 20000 in
theorem gL_law_X5_clear : GoodIn wsL_law (wsV RL 121 RX5 yX5_clear wsX5_clear) := goodIn_app (goodIn_of _ (by decide +kernel)) ggL_law_X5_clear
set_option maxRecDepth 20000 in
theorem ggL_law_L_state : GoodIn wsL_law wsL_state := goodIn_ca (goodIn_r _ [299, 71, 300, 301, 302, 2, 303, 79, 80, 81, 82, 83, 304, 305, 306, 307, 25, 20, 26, 16, 88, 89, 90, 91, 92, 93, 308, 309, 310, 19, 311, 43, 38, 39, 40, 84, 85, 86, 15, 87, 33, 676, 677, 678, 679, 680, 701, 702, 703, 704, 705, 706, 697, 698, 699, 700] (by decide +kernel) (by decide +kernel)) (goodIn_sub (fun _ h => List.mem_append_left _ (List.mem_append_right _ h)) (by decide +kernel))
set_option maxRecDepth 20000 in
theorem gL_law_L_state : GoodIn wsL_law (va_wsS RL 122 yL_state wsL_state) := goodIn_app (goodIn_of _ (by decide +kernel)) ggL_law_L_state
set_option maxRecDepth 20000 in
theorem ggL_law_X5_state : GoodIn wsL_law wsX5_state := goodIn_r _ [315, 112, 113, 5, 114, 118, 119, 120, 121, 122, 316, 317, 318, 319, 264, 57, 115, 116, 117, 320, 321, 322, 323, 265, 63, 64, 65, 201, 681, 682, 683, 684, 685, 686, 687, 688, 689, 690, 691, 692, 693, 694, 695, 696] (by decide +kernel) (by decide +kernel)
set_option maxRecDepth 20000 in
theorem gL_law_X5_state : GoodIn wsL_law (wsV RL 124 RX5 yX5_state wsX5_state) := goodIn_app (goodIn_of _ (by decide +kernel)) ggL_law_X5_state
set_option maxRecDepth 20000 in
theorem ggL_law_L_nodesThatAre : GoodIn wsL_law wsL_nodesThatAre := goodIn_ca (goodIn_r _ [326, 72, 327, 328, 329, 2, 330, 77, 78, 304, 305, 306, 307, 25, 20, 26, 16, 88, 89, 90, 91, 92, 93, 308, 309, 310, 19, 311, 43, 38, 39, 40, 84, 85, 86, 15, 87, 33, 676, 677, 678, 679, 680, 701, 702, 703, 704, 705, 706, 697, 698, 699, 700] (by decide +kernel) (by decide +kernel)) (goodIn_sub (fun _ h => List.mem_append_left _ (List.mem_append_left _ (List.mem_append_right _ h))) (by decide +kernel))
set_option maxRecDepth 20000 in
theorem gL_law_L_nodesThatAre : GoodIn wsL_law (va_wsS RL 125 yL_nodesThatAre wsL_nodesThatAre) := goodIn_app (goodIn_of _ (by decide +kernel)) ggL_law_L_nodesThatAre
set_option maxRecDepth 20000 in
theorem ggL_law_X5_nodesThatAre : GoodIn wsL_law wsX5_nodesThatAre := goodIn_r _ [334, 118, 119, 120, 5, 121, 122, 316, 317, 318, 319, 264, 57, 115, 116, 117, 320, 321, 322, 323, 265, 63, 64, 65, 201, 681, 682, 683, 684, 685, 686, 687, 688, 689, 690, 691, 692, 693, 694, 695, 696] (by decide +kernel) (by decide +kernel)
set_option maxRecDepth 20000 in
theorem gL_law_X5_nodesThatAre : GoodIn wsL_law (wsV RL 127 RX5 yX5_nodesThatAre wsX5_nodesThatAre) := goodIn_app (goodIn_of _ (by decide +kernel)) ggL_law_X5_nodesThatAre
set_option maxRecDepth 20000 in
theorem ggL_law_L_raises : GoodIn wsL_law wsL_raises := goodIn_ca (goodIn_ca (goodIn_r _ [337, 71, 72, 338, 339, 340, 2, 341, 20, 26, 79, 80, 81, 82, 83, 194, 195, 196, 77, 78, 308, 309, 310, 19, 311, 43, 38, 39, 40, 676, 677, 678, 679, 680, 701, 702, 703, 704, 705, 706] (by decide +kernel) (by decide +kernel)) (goodIn_sub (fun _ h => List.mem_append_left _ (List.mem_append_right _ h)) (by decide +kernel))) (goodIn_sub (fun _ h => List.mem_append_left _ (List.mem_append_left _ (List.mem_append_right _ h))) (by decide +kernel))
set_option maxRecDepth 20000 in
theorem gL_law_L_raises : GoodIn wsL_law (va_wsS RL 128 yL_raises wsL_raises) := goodIn_app (goodIn_of _ (by decide +kernel)) ggL_law_L_raises
set_option maxRecDepth 20000 in
theorem ggL_law_X5_raises : GoodIn wsL_law wsX5_raises := goodIn_r _ [345, 112, 113, 5, 114, 118, 119, 120, 121, 122, 320, 321, 322, 323, 265, 63, 64, 65, 201, 681, 682, 683, 684, 685, 686, 687, 688, 689, 690, 691, 692, 693, 694, 695, 696] (by decide +kernel) (by decide +kernel)
set_option maxRecDepth 20000 in
theorem gL_law_X5_raises : GoodIn wsL_law (wsV RL 130 RX5 yX5_raises wsX5_raises) := goodIn_app (goodIn_of _ (by decide +kernel)) ggL_law_X5_raises
set_option maxRecDepth 20000 in
theorem ggL_law_X4_events : GoodIn wsL_law wsX4_events := goodIn_r _ [349, 20, 350, 351, 352, 19, 353, 43, 676, 677, 678, 679, 680, 701, 702, 703, 704, 705, 706] (by decide +kernel) (by decide +kernel)
set_option maxRecDepth 20000 in
theorem gL_law_X4_events : GoodIn wsL_law (wsV RL 131 RX4 yX4_events wsX4_events) := goodIn_app (goodIn_of _ (by decide +kernel)) ggL_law_X4_events
set_option maxRecDepth 20000 in
theorem ggL_law_X5_events : GoodIn wsL_law wsX5_events := goodIn_r _ [357, 122, 265, 681, 682, 683, 684, 685, 686, 687, 688, 689, 690, 691, 692, 693, 694, 695, 696] (by decide +kernel) (by decide +kernel)
set_option maxRecDepth 20000 in
theorem gL_law_X5_events : GoodIn wsL_law (wsV RL 134 RX5 yX5_events wsX5_events) := goodIn_app (goodIn_of _ (by decide +kernel)) ggL_law_X5_events
set_option maxRecDepth 20000 in
theorem ggL_law_L_eventKind : GoodIn wsL_law wsL_eventKind := goodIn_ca (goodIn_r _ [360, 71, 361, 362, 363, 2, 364, 20, 365, 366, 367, 368, 82, 83, 350, 351, 352, 19, 353, 43, 369, 370, 371, 372, 38, 676, 677, 678, 679, 680, 701, 702, 703, 704, 705, 706] (by decide +kernel) (by decide +kernel)) (goodIn_sub (fun _ h => List.mem_append_left _ (List.mem_append_right _ h)) (by decide +kernel))
set_option maxRecDepth 20000 in
theorem gL_law_L_eventKind : GoodIn wsL_law (va_wsS RL 135 yL_eventKind wsL_eventKind) := goodIn_app (goodIn_of _ (by decide +kernel)) ggL_law_L_eventKind
set_option maxRecDepth 20000 in
theorem ggL_law_X5_eventKind : GoodIn wsL_law wsX5_eventKind := goodIn_r _ [376, 63, 377, 378, 379, 5, 380, 265, 118, 119, 120, 121, 122, 681, 682, 683, 684, 685, 686, 687, 688, 689, 690, 691, 692, 693, 694, 695, 696] (by decide +kernel) (by decide +kernel)
set_option maxRecDepth 20000 in
theorem gL_law_X5_eventKind : GoodIn wsL_law (wsV RL 137 RX5 yX5_eventKind wsX5_eventKind) := goodIn_app (goodIn_of _ (by decide +kernel)) ggL_law_X5_eventKind
set_option maxRecDepth 20000 in
theorem ggL_law_L_eventNode : GoodIn wsL_law wsL_eventNode := goodIn_ca (goodIn_r _ [383, 71, 384, 385, 386, 2, 387, 20, 365, 366, 367, 368, 82, 83, 350, 351, 352, 19, 353, 43, 388, 389, 390, 391, 39, 676, 677, 678, 679, 680, 701, 702, 703, 704, 705, 706] (by decide +kernel) (by decide +kernel)) (goodIn_sub (fun _ h => List.mem_append_left _ (List.mem_append_right _ h)) (by decide +kernel))
set_option maxRecDepth 20000 in
theorem gL_law_L_eventNode : GoodIn wsL_law (va_wsS RL 138 yL_eventNode wsL_eventNode) := goodIn_app (goodIn_of _ (by decide +kernel)) ggL_law_L_eventNode
set_option maxRecDepth 20000 in
theorem ggL_law_X5_eventNode : GoodIn wsL_law wsX5_eventNode := goodIn_r _ [395, 64, 377, 378, 379, 5, 380, 265, 118, 119, 120, 121, 122, 681, 682, 683, 684, 685, 686, 687, 688, 689, 690, 691, 692, 693, 694, 695, 696] (by decide +kernel) (by decide +kernel)
set_option maxRecDepth 20000 in
theorem gL_law_X5_eventNode : GoodIn wsL_law (wsV RL 140 RX5 yX5_eventNode wsX5_eventNode) := goodIn_app (goodIn_of _ (by decide +kernel)) ggL_law_X5_eventNode
set_option maxRecDepth 20000 in
theorem ggL_law_L_eventTime : GoodIn wsL_law wsL_eventTime := goodIn_ca (goodIn_r _ [398, 71, 399, 400, 401, 2, 402, 20, 365, 366, 367, 368, 82, 83, 350, 351, 352, 19, 353, 43, 403, 404, 405, 406, 40, 676, 677, 678, 679, 680, 701, 702, 703, 704, 705, 706] (by decide +kernel) (by decide +kernel)) (goodIn_sub (fun _ h => List.mem_append_left _ (List.mem_append_right _ h)) (by decide +kernel))
set_option maxRecDepth 20000 in
theorem gL_law_L_eventTime : GoodIn wsL_law (va_wsS RL 141 yL_eventTime wsL_eventTime) := goodIn_app (goodIn_of _ (by decide +kernel)) ggL_law_L_eventTime
set_option maxRecDepth 20000 in
theorem ggL_law_X5_eventTime : GoodIn wsL_law wsX5_eventTime := goodIn_r _ [410, 65, 377, 378, 379, 5, 380, 265, 118, 119, 120, 121, 122, 681, 682, 683, 684, 685, 686, 687, 688, 689, 690, 691, 692, 693, 694, 695, 696] (by decide +kernel) (by decide +kernel)
set_option maxRecDepth 20000 in
theorem gL_law_X5_eventTime : GoodIn wsL_law (wsV RL 143 RX5 yX5_eventTime wsX5_eventTime) := goodIn_app (goodIn_of _ (by decide +kernel)) ggL_law_X5_eventTime
set_option maxRecDepth 20000 in
theorem ggL_law_L_eventLength : GoodIn wsL_law wsL_eventLength := goodIn_ca (goodIn_r _ [413, 71, 414, 415, 416, 2, 417, 20, 365, 366, 367, 368, 82, 83, 350, 351, 352, 19, 353, 43, 418, 419, 420, 421, 41, 676, 677, 678, 679, 680, 701, 702, 703, 704, 705, 706] (by decide +kernel) (by decide +kernel)) (goodIn_sub (fun _ h => List.mem_append_left _ (List.mem_append_right _ h)) (by decide +kernel))
set_option maxRecDepth 20000 in
theorem gL_law_L_eventLength : GoodIn wsL_law (va_wsS RL 144 yL_eventLength wsL_eventLength) := goodIn_app (goodIn_of _ (by decide +kernel)) ggL_law_L_eventLength
set_option maxRecDepth 20000 in
theorem ggL_law_X5_eventLength : GoodIn wsL_law wsX5_eventLength := goodIn_r _ [425, 66, 377, 378, 379, 5, 380, 265, 118, 119, 120, 121, 122, 681, 682, 683, 684, 685, 686, 687, 688, 689, 690, 691, 692, 693, 694, 695, 696] (by decide +kernel) (by decide +kernel)
set_option maxRecDepth 20000 in
theorem gL_law_X5_eventLength : GoodIn wsL_law (wsV RL 146 RX5 yX5_eventLength wsX5_eventLength) := goodIn_app (goodIn_of _ (by decide +kernel)) ggL_law_X5_eventLength
set_option maxRecDepth 20000 in
theorem ggL_law_X4_openTickets : GoodIn wsL_law wsX4_openTickets := goodIn_r _ [429, 24, 430, 431, 432, 23, 433, 51, 434, 435, 436, 437, 50, 49, 438, 439, 440, 441, 676, 677, 678, 679, 680, 707, 708, 709, 710] (by decide +kernel) (by decide +kernel)
set_option maxRecDepth 20000 in
theorem gL_law_X4_openTickets : GoodIn wsL_law (wsV RL 147 RX4 yX4_openTickets wsX4_openTickets) := goodIn_app (goodIn_of _ (by decide +kernel)) ggL_law_X4_openTickets
set_option maxRecDepth 20000 in
theorem ggL_law_X5_openTickets : GoodIn wsL_law wsX5_openTickets := goodIn_r _ [445, 122, 266, 61, 681, 682, 683, 684, 685, 686, 687, 688, 689, 690, 691, 692, 693, 694, 695, 696] (by decide +kernel) (by decide +kernel)
set_option maxRecDepth 20000 in
theorem gL_law_X5_openTickets : GoodIn wsL_law (wsV RL 150 RX5 yX5_openTickets wsX5_openTickets) := goodIn_app (goodIn_of _ (by decide +kernel)) ggL_law_X5_openTickets
set_option maxRecDepth 20000 in
theorem ggL_law_L_ticketOf : GoodIn wsL_law wsL_ticketOf := goodIn_ca (goodIn_r _ [448, 71, 449, 450, 451, 2, 452, 24, 79, 80, 81, 82, 83, 453, 454, 455, 23, 456, 48, 676, 677, 678, 679, 680, 707, 708, 709, 710] (by decide +kernel) (by decide +kernel)) (goodIn_sub (fun _ h => List.mem_append_left _ (List.mem_append_right _ h)) (by decide +kernel))
set_option maxRecDepth 20000 in
theorem gL_law_L_ticketOf : GoodIn wsL_law (va_wsS RL 151 yL_ticketOf wsL_ticketOf) := goodIn_app (goodIn_of _ (by decide +kernel)) ggL_law_L_ticketOf
set_option maxRecDepth 20000 in
theorem ggL_law_X5_ticketOf : GoodIn wsL_law wsX5_ticketOf := goodIn_r _ [460, 264, 59, 112, 113, 5, 114, 118, 119, 120, 121, 122, 115, 116, 117, 681, 682, 683, 684, 685, 686, 687, 688, 689, 690, 691, 692, 693, 694, 695, 696] (by decide +kernel) (by decide +kernel)
set_option maxRecDepth 20000 in
theorem gL_law_X5_ticketOf : GoodIn wsL_law (wsV RL 153 RX5 yX5_ticketOf wsX5_ticketOf) := goodIn_app (goodIn_of _ (by decide +kernel)) ggL_law_X5_ticketOf
set_option maxRecDepth 20000 in
theorem ggL_law_X4_ticketState : GoodIn wsL_law wsX4_ticketState := goodIn_r _ [464, 24, 465, 435, 436, 23, 437, 50, 49, 438, 439, 440, 441, 51, 676, 677, 678, 679, 680, 707, 708, 709, 710] (by decide +kernel) (by decide +kernel)
set_option maxRecDepth 20000 in
theorem gL_law_X4_ticketState : GoodIn wsL_law (wsV RL 154 RX4 yX4_ticketState wsX4_ticketState) := goodIn_app (goodIn_of _ (by decide +kernel)) ggL_law_X4_ticketState
set_option maxRecDepth 20000 in
theorem ggL_law_X5_ticketState : GoodIn wsL_law wsX5_ticketState := goodIn_r _ [469, 122, 61, 470, 471, 472, 5, 473, 266, 681, 682, 683, 684, 685, 686, 687, 688, 689, 690, 691, 692, 693, 694, 695, 696] (by decide +kernel) (by decide +kernel)
set_option maxRecDepth 20000 in
theorem gL_law_X5_ticketState : GoodIn wsL_law (wsV RL 157 RX5 yX5_ticketState wsX5_ticketState) := goodIn_app (goodIn_of _ (by decide +kernel)) ggL_law_X5_ticketState
set_option maxRecDepth 20000 in
theorem ggL_law_X4_ticketSize : GoodIn wsL_law wsX4_ticketSize := goodIn_r _ [477, 24, 478, 479, 480, 23, 481, 49, 438, 439, 440, 441, 51, 676, 677, 678, 679, 680, 707, 708, 709, 710] (by decide +kernel) (by decide +kernel)
set_option maxRecDepth 20000 in
theorem gL_law_X4_ticketSize : GoodIn wsL_law (wsV RL 158 RX4 yX4_ticketSize wsX4_ticketSize) := goodIn_app (goodIn_of _ (by decide +kernel)) ggL_law_X4_ticketSize
set_option maxRecDepth 20000 in
theorem ggL_law_X5_ticketSize : GoodIn wsL_law wsX5_ticketSize := goodIn_r _ [485, 122, 60, 470, 471, 472, 5, 473, 266, 294, 295, 296, 681, 682, 683, 684, 685, 686, 687, 688, 689, 690, 691, 692, 693, 694, 695, 696] (by decide +kernel) (by decide +kernel)
set_option maxRecDepth 20000 in
theorem gL_law_X5_ticketSize : GoodIn wsL_law (wsV RL 161 RX5 yX5_ticketSize wsX5_ticketSize) := goodIn_app (goodIn_of _ (by decide +kernel)) ggL_law_X5_ticketSize
set_option maxRecDepth 20000 in
theorem ggL_law_X4_mergedInto : GoodIn wsL_law wsX4_mergedInto := goodIn_r _ [489, 24, 490, 491, 492, 23, 493, 50, 438, 439, 440, 441, 51, 676, 677, 678, 679, 680, 707, 708, 709, 710] (by decide +kernel) (by decide +kernel)
set_option maxRecDepth 20000 in
theorem gL_law_X4_mergedInto : GoodIn wsL_law (wsV RL 162 RX4 yX4_mergedInto wsX4_mergedInto) := goodIn_app (goodIn_of _ (by decide +kernel)) ggL_law_X4_mergedInto
set_option maxRecDepth 20000 in
theorem ggL_law_X5_mergedInto : GoodIn wsL_law wsX5_mergedInto := goodIn_r _ [497, 122, 61, 62, 470, 471, 472, 5, 473, 266, 681, 682, 683, 684, 685, 686, 687, 688, 689, 690, 691, 692, 693, 694, 695, 696] (by decide +kernel) (by decide +kernel)
set_option maxRecDepth 20000 in
theorem gL_law_X5_mergedInto : GoodIn wsL_law (wsV RL 165 RX5 yX5_mergedInto wsX5_mergedInto) := goodIn_app (goodIn_of _ (by decide +kernel)) ggL_law_X5_mergedInto
set_option maxRecDepth 20000 in
theorem ggL_law_L_isPlausible : GoodIn wsL_law wsL_isPlausible := goodIn_ca (goodIn_r _ [500, 71, 501, 502, 503, 2, 504, 79, 80, 81, 82, 83, 505, 506, 507, 508, 509, 510, 511, 16, 25, 512, 513, 514, 515, 11, 12, 516, 517, 518, 519, 520, 521, 522, 523, 524, 15, 525, 32, 92, 93, 526, 527, 528, 529, 88, 89, 90, 91, 711, 712, 713, 676, 677, 678, 679, 680, 697, 698, 699, 700] (by decide +kernel) (by decide +kernel)) (goodIn_sub (fun _ h => List.mem_append_left _ (List.mem_append_right _ h)) (by decide +kernel))
set_option maxRecDepth 20000 in
theorem gL_law_L_isPlausible : GoodIn wsL_law (va_wsS RL 166 yL_isPlausible wsL_isPlausible) := goodIn_app (goodIn_of _ (by decide +kernel)) ggL_law_L_isPlausible
set_option maxRecDepth 20000 in
theorem ggL_law_X5_isPlausible : GoodIn wsL_law wsX5_isPlausible := goodIn_r _ [533, 112, 113, 5, 114, 118, 119, 120, 121, 122, 534, 535, 536, 537, 56, 264, 115, 116, 117, 681, 682, 683, 684, 685, 686, 687, 688, 689, 690, 691, 692, 693, 694, 695, 696] (by decide +kernel) (by decide +kernel)
set_option maxRecDepth 20000 in
theorem gL_law_X5_isPlausible : GoodIn wsL_law (wsV RL 168 RX5 yX5_isPlausible wsX5_isPlausible) := goodIn_app (goodIn_of _ (by decide +kernel)) ggL_law_X5_isPlausible
set_option maxRecDepth 20000 in
theorem ggL_law_X4_causes : GoodIn wsL_law wsX4_causes := goodIn_r _ [541, 505, 506, 507, 2, 508, 509, 510, 511, 16, 25, 512, 513, 514, 515, 11, 12, 516, 517, 518, 519, 520, 521, 522, 523, 524, 15, 525, 32, 92, 93, 542, 543, 544, 545, 546, 547, 548, 549, 550, 88, 89, 90, 91, 551, 552, 553, 554, 555, 556, 557, 558, 559, 560, 561, 562, 563, 564, 565, 33, 566, 567, 568, 569, 34, 570, 711, 712, 713, 676, 677, 678, 679, 680, 697, 698, 699, 700] (by decide +kernel) (by decide +kernel)
set_option maxRecDepth 20000 in
theorem gL_law_X4_causes : GoodIn wsL_law (wsV RL 169 RX4 yX4_causes wsX4_causes) := goodIn_app (goodIn_of _ (by decide +kernel)) ggL_law_X4_causes
set_option maxRecDepth 20000 in
theorem ggL_law_X5_causes : GoodIn wsL_law wsX5_causes := goodIn_r _ [574, 122, 575, 576, 577, 5, 578, 264, 534, 535, 536, 537, 56, 115, 116, 117, 579, 580, 581, 582, 294, 295, 296, 583, 584, 585, 586, 57, 681, 682, 683, 684, 685, 686, 687, 688, 689, 690, 691, 692, 693, 694, 695, 696] (by decide +kernel) (by decide +kernel)
set_option maxRecDepth 20000 in
theorem gL_law_X5_causes : GoodIn wsL_law (wsV RL 172 RX5 yX5_causes wsX5_causes) := goodIn_app (goodIn_of _ (by decide +kernel)) ggL_law_X5_causes
set_option maxRecDepth 20000 in
theorem ggL_law_L_cause : GoodIn wsL_law wsL_cause := goodIn_ca (goodIn_r _ [589, 71, 590, 591, 592, 2, 593, 505, 506, 507, 508, 509, 510, 511, 16, 25, 512, 513, 514, 515, 11, 12, 516, 517, 518, 519, 520, 521, 522, 523, 524, 15, 525, 32, 92, 93, 542, 543, 544, 545, 546, 547, 548, 549, 550, 88, 89, 90, 91, 551, 552, 553, 554, 555, 556, 557, 558, 559, 560, 561, 562, 563, 564, 565, 33, 566, 567, 568, 569, 34, 594, 595, 596, 82, 83, 597, 711, 712, 713, 676, 677, 678, 679, 680, 697, 698, 699, 700] (by decide +kernel) (by decide +kernel)) (goodIn_sub (fun _ h => List.mem_append_left _ (List.mem_append_right _ h)) (by decide +kernel))
set_option maxRecDepth 20000 in
theorem gL_law_L_cause : GoodIn wsL_law (va_wsS RL 173 yL_cause wsL_cause) := goodIn_app (goodIn_of _ (by decide +kernel)) ggL_law_L_cause
set_option maxRecDepth 20000 in
theorem ggL_law_X5_cause : GoodIn wsL_law wsX5_cause := goodIn_r _ [601, 575, 576, 577, 5, 578, 264, 534, 535, 536, 537, 56, 115, 116, 117, 579, 580, 581, 582, 294, 295, 296, 583, 584, 585, 586, 57, 118, 119, 120, 121, 122, 602, 603, 604, 681, 682, 683, 684, 685, 686, 687, 688, 689, 690, 691, 692, 693, 694, 695, 696] (by decide +kernel) (by decide +kernel)
set_option maxRecDepth 20000 in
theorem gL_law_X5_cause : GoodIn wsL_law (wsV RL 175 RX5 yX5_cause wsX5_cause) := goodIn_app (goodIn_of _ (by decide +kernel)) ggL_law_X5_cause
set_option maxRecDepth 20000 in
theorem ggL_law_L_causeByTrying : GoodIn wsL_law wsL_causeByTrying := goodIn_ca (goodIn_r _ [607, 71, 608, 609, 610, 2, 611, 505, 506, 507, 508, 509, 510, 511, 16, 25, 512, 513, 514, 515, 11, 12, 516, 517, 518, 519, 520, 521, 522, 523, 524, 15, 525, 32, 92, 93, 612, 613, 614, 615, 555, 556, 557, 558, 559, 560, 561, 551, 552, 553, 554, 549, 550, 88, 89, 90, 91, 616, 617, 618, 619, 562, 563, 564, 565, 33, 594, 595, 596, 82, 83, 597, 711, 712, 713, 676, 677, 678, 679, 680, 697, 698, 699, 700] (by decide +kernel) (by decide +kernel)) (goodIn_sub (fun _ h => List.mem_append_left _ (List.mem_append_right _ h)) (by decide +kernel))
set_option maxRecDepth 20000 in
theorem gL_law_L_causeByTrying : GoodIn wsL_law (va_wsS RL 176 yL_causeByTrying wsL_causeByTrying) := goodIn_app (goodIn_of _ (by decide +kernel)) ggL_law_L_causeByTrying
set_option maxRecDepth 20000 in
theorem ggL_law_X5_causeByTrying : GoodIn wsL_law wsX5_causeByTrying := goodIn_r _ [623, 624, 599, 600, 5, 601, 575, 576, 577, 578, 264, 534, 535, 536, 537, 56, 115, 116, 117, 579, 580, 581, 582, 294, 295, 296, 583, 584, 585, 586, 57, 118, 119, 120, 121, 122, 602, 603, 604, 681, 682, 683, 684, 685, 686, 687, 688, 689, 690, 691, 692, 693, 694, 695, 696] (by decide +kernel) (by decide +kernel)
set_option maxRecDepth 20000 in
theorem gL_law_X5_causeByTrying : GoodIn wsL_law (wsV RL 178 RX5 yX5_causeByTrying wsX5_causeByTrying) := goodIn_app (goodIn_of _ (by decide +kernel)) ggL_law_X5_causeByTrying
set_option maxRecDepth 20000 in
theorem ggL_law_X4_greedyCauses : GoodIn wsL_law wsX4_greedyCauses := goodIn_r _ [628, 505, 506, 507, 2, 508, 509, 510, 511, 16, 25, 512, 513, 514, 515, 11, 12, 516, 517, 518, 519, 520, 521, 522, 523, 524, 15, 525, 32, 92, 93, 629, 630, 631, 632, 633, 634, 635, 636, 89, 90, 91, 566, 567, 568, 569, 34, 555, 556, 557, 558, 559, 560, 561, 711, 712, 713, 676, 677, 678, 679, 680, 697, 698, 699, 700] (by decide +kernel) (by decide +kernel)
set_option maxRecDepth 20000 in
theorem gL_law_X4_greedyCauses : GoodIn wsL_law (wsV RL 179 RX4 yX4_greedyCauses wsX4_greedyCauses) := goodIn_app (goodIn_of _ (by decide +kernel)) ggL_law_X4_greedyCauses
set_option maxRecDepth 20000 in
theorem ggL_law_X5_greedyCauses : GoodIn wsL_law wsX5_greedyCauses := goodIn_r _ [640, 122, 264, 641, 642, 643, 5, 644, 534, 535, 536, 537, 56, 115, 116, 117, 645, 646, 647, 648, 57, 294, 295, 296, 681, 682, 683, 684, 685, 686, 687, 688, 689, 690, 691, 692, 693, 694, 695, 696] (by decide +kernel) (by decide +kernel)
set_option maxRecDepth 20000 in
theorem gL_law_X5_greedyCauses : GoodIn wsL_law (wsV RL 182 RX5 yX5_greedyCauses wsX5_greedyCauses) := goodIn_app (goodIn_of _ (by decide +kernel)) ggL_law_X5_greedyCauses
set_option maxRecDepth 20000 in
theorem ggL_law_L_greedyCause : GoodIn wsL_law wsL_greedyCause := goodIn_ca (goodIn_r _ [651, 71, 652, 653, 654, 2, 655, 82, 83, 505, 506, 507, 508, 509, 510, 511, 16, 25, 512, 513, 514, 515, 11, 12, 516, 517, 518, 519, 520, 521, 522, 523, 524, 15, 525, 32, 92, 93, 656, 657, 658, 659, 633, 634, 635, 636, 89, 90, 91, 566, 567, 568, 569, 34, 555, 556, 557, 558, 559, 560, 561, 711, 712, 713, 676, 677, 678, 679, 680, 697, 698, 699, 700] (by decide +kernel) (by decide +kernel)) (goodIn_sub (fun _ h => List.mem_append_left _ (List.mem_append_right _ h)) (by decide +kernel))
set_option maxRecDepth 20000 in
theorem gL_law_L_greedyCause : GoodIn wsL_law (va_wsS RL 183 yL_greedyCause wsL_greedyCause) := goodIn_app (goodIn_of _ (by decide +kernel)) ggL_law_L_greedyCause
set_option maxRecDepth 20000 in
theorem ggL_law_X5_greedyCause : GoodIn wsL_law wsX5_greedyCause := goodIn_r _ [663, 264, 641, 642, 643, 5, 644, 534, 535, 536, 537, 56, 115, 116, 117, 645, 646, 647, 648, 57, 294, 295, 296, 118, 119, 120, 121, 122, 681, 682, 683, 684, 685, 686, 687, 688, 689, 690, 691, 692, 693, 694, 695, 696] (by decide +kernel) (by decide +kernel)
set_option maxRecDepth 20000 in
theorem gL_law_X5_greedyCause : GoodIn wsL_law (wsV RL 185 RX5 yX5_greedyCause wsX5_greedyCause) := goodIn_app (goodIn_of _ (by decide +kernel)) ggL_law_X5_greedyCause
set_option maxRecDepth 20000 in
theorem ggL_law_L_causeOf : GoodIn wsL_law wsL_causeOf := goodIn_ca (goodIn_r _ [666, 71, 667, 668, 669, 2, 670, 25, 16, 79, 80, 81, 82, 83, 88, 89, 90, 91, 92, 93, 505, 506, 507, 508, 509, 510, 511, 512, 513, 514, 515, 11, 12, 516, 517, 518, 519, 520, 521, 522, 523, 524, 15, 525, 32, 542, 543, 544, 545, 546, 547, 548, 549, 550, 551, 552, 553, 554, 555, 556, 557, 558, 559, 560, 561, 562, 563, 564, 565, 33, 566, 567, 568, 569, 34, 671, 597, 676, 677, 678, 679, 680, 711, 712, 713, 697, 698, 699, 700] (by decide +kernel) (by decide +kernel)) (goodIn_sub (fun _ h => List.mem_append_left _ (List.mem_append_right _ h)) (by decide +kernel))
set_option maxRecDepth 20000 in
theorem gL_law_L_causeOf : GoodIn wsL_law (va_wsS RL 186 yL_causeOf wsL_causeOf) := goodIn_app (goodIn_of _ (by decide +kernel)) ggL_law_L_causeOf
set_option maxRecDepth 20000 in
theorem ggL_law_X5_causeOf : GoodIn wsL_law wsX5_causeOf := goodIn_r _ [675, 264, 112, 113, 5, 114, 118, 119, 120, 121, 122, 575, 576, 577, 578, 534, 535, 536, 537, 56, 115, 116, 117, 579, 580, 581, 582, 294, 295, 296, 583, 584, 585, 586, 57, 645, 646, 647, 648, 681, 682, 683, 684, 685, 686, 687, 688, 689, 690, 691, 692, 693, 694, 695, 696] (by decide +kernel) (by decide +kernel)
set_option maxRecDepth 20000 in
theorem gL_law_X5_causeOf : GoodIn wsL_law (wsV RL 188 RX5 yX5_causeOf wsX5_causeOf) := goodIn_app (goodIn_of _ (by decide +kernel)) ggL_law_X5_causeOf
