set_option maxRecDepth 20000 in
theorem gL_tick_X4_tick : GoodIn wsL_tick (wsV RL 32 RX4 yX4_tick wsX4_tick) := goodIn_app (goodIn_of _ (by decide +kernel)) ggL_tick_X4_tick
set_option maxRecDepth 20000 in
theorem ggL_raise_X4_raise : GoodIn wsL_raise wsX4_raise := goodIn_ca (goodIn_ca (goodIn_r _ [7, 8, 9, 10, 11, 12, 13, 14, 6, 15, 16, 17, 18, 19, 20, 21, 22, 23, 24, 25, 26, 27, 28, 29, 30, 31, 32, 33, 34, 35, 36, 37, 38, 39, 40, 41, 42, 43, 44, 45, 46, 47, 48, 49, 50, 51, 52, 53, 54, 55, 56, 57, 58, 59, 60, 61, 62, 63, 64, 65, 66, 67, 68, 69, 70, 71, 72, 73, 74, 75, 76, 77, 78, 79, 80, 81, 82, 83, 84, 85, 86, 87, 88, 89, 90, 91, 92, 93, 94, 95, 96, 97, 98, 99, 100, 101] (by decide +kernel) (by decide +kernel)) (goodIn_sub (fun _ h => List.mem_cons_of_mem _ (List.mem_append_left _ (List.mem_append_right _ h))) (by decide +kernel))) (goodIn_sub (fun _ h => List.mem_cons_of_mem _ (List.mem_append_right _ h)) (by decide +kernel))
set_option maxRecDepth 20000 in
theorem gL_raise_X4_raise : GoodIn wsL_raise (wsV RL 35 RX4 yX4_raise wsX4_raise) := goodIn_app (goodIn_of _ (by decide +kernel)) ggL_raise_X4_raise
set_option maxRecDepth 20000 in
theorem ggL_clear_X4_clear : GoodIn wsL_clear wsX4_clear := goodIn_ca (goodIn_ca (goodIn_r _ [7, 8, 9, 10, 11, 12, 13, 6, 14, 15, 16, 17, 18, 19, 20, 21, 22, 23, 24, 25, 26, 27, 28, 29, 30, 31, 32, 33, 34, 35, 36, 37, 38, 39, 40, 41, 42, 43, 44, 45, 46, 47, 48, 49, 50, 51, 52, 53, 54, 55, 56, 57, 58, 59, 60, 61, 62, 63, 64, 65, 66, 67, 68, 69, 70, 71, 72, 73, 74, 75, 76, 77] (by decide +kernel) (by decide +kernel)) (goodIn_sub (fun _ h => List.mem_cons_of_mem _ (List.mem_append_left _ (List.mem_append_right _ h))) (by decide +kernel))) (goodIn_sub (fun _ h => List.mem_cons_of_mem _ (List.mem_append_right _ h)) (by decide +kernel))
set_option maxRecDepth 20000 in
theorem gL_clear_X4_clear : GoodIn wsL_clear (wsV RL 40 RX4 yX4_clear wsX4_clear) := goodIn_app (goodIn_of _ (by decide +kernel)) ggL_clear_X4_clear
set_option maxRecDepth 20000 in
theorem ggL_ticket_X4_ticketOf : GoodIn wsL_ticket wsX4_ticketOf := goodIn_ca (goodIn_r _ [6, 7, 8, 9, 5, 10, 11, 12, 13, 14, 15, 16, 17, 18, 19, 20, 21, 22, 23, 24, 25, 26] (by decide +kernel) (by decide +kernel)) (goodIn_sub (fun _ h => List.mem_cons_of_mem _ (List.mem_append_right _ h)) (by decide +kernel))
set_option maxRecDepth 20000 in
theorem gL_ticket_X4_ticketOf : GoodIn wsL_ticket (wsV RL 43 RX4 yX4_ticketOf wsX4_ticketOf) := goodIn_app (goodIn_of _ (by decide +kernel)) ggL_ticket_X4_ticketOf
set_option maxRecDepth 20000 in
theorem ggL_plausible_X4_isPlausible : GoodIn wsL_plausible wsX4_isPlausible := goodIn_ca (goodIn_r _ [6, 7, 8, 5, 9, 10, 11, 12, 13, 14, 15, 16, 17, 18, 19, 20, 21, 22, 23, 24, 25, 26, 27, 28, 29, 30, 31, 32, 33, 34, 35, 36, 37, 38, 39, 40, 41, 42, 43, 44, 45, 46, 47, 48, 49, 50, 51, 52, 53, 54, 55, 56, 57, 58, 59, 60] (by decide +kernel) (by decide +kernel)) (goodIn_sub (fun _ h => List.mem_cons_of_mem _ (List.mem_append_right _ h)) (by decide +kernel))
set_option maxRecDepth 20000 in
theorem gL_plausible_X4_isPlausible : GoodIn wsL_plausible (wsV RL 46 RX4 yX4_isPlausible wsX4_isPlausible) := goodIn_app (goodIn_of _ (by decide +kernel)) ggL_plausible_X4_isPlausible
set_option maxRecDepth 20000 in
theorem ggL_cause_X4_cause : GoodIn wsL_cause wsX4_cause := goodIn_ca (goodIn_r _ [6, 7, 8, 9, 5, 10, 11, 12, 13, 14, 15, 16, 17, 18, 19, 20, 21, 22, 23, 24, 25, 26, 27, 28, 29, 30, 31, 32, 33, 34, 35, 36, 37, 38, 39, 40, 41, 42, 43, 44, 45, 46, 47, 48, 49, 50, 51, 52, 53, 54, 55, 56, 57, 58, 59, 60, 61, 62, 63, 64, 65, 66, 67, 68, 69, 70, 71, 72, 73, 74, 75, 76, 77, 78, 79, 80, 81, 82, 83, 84, 85, 86, 87] (by decide +kernel) (by decide +kernel)) (goodIn_sub (fun _ h => List.mem_cons_of_mem _ (List.mem_append_right _ h)) (by decide +kernel))
set_option maxRecDepth 20000 in
theorem gL_cause_X4_cause : GoodIn wsL_cause (wsV RL 50 RX4 yX4_cause wsX4_cause) := goodIn_app (goodIn_of _ (by decide +kernel)) ggL_cause_X4_cause
set_option maxRecDepth 20000 in
theorem ggL_tried_X4_causeByTrying : GoodIn wsL_tried wsX4_causeByTrying := goodIn_ca (goodIn_r _ [6, 7, 8, 9, 5, 10, 11, 12, 13, 14, 15, 16, 17, 18, 19, 20, 21, 22, 23, 24, 25, 26, 27, 28, 29, 30, 31, 32, 33, 34, 35, 36, 37, 38, 39, 40, 41, 42, 43, 44, 45, 46, 47, 48, 49, 50, 51, 52, 53, 54, 55, 56, 57, 58, 59, 60, 61, 62, 63, 64, 65, 66, 67, 68, 69, 70, 71, 72, 73, 74, 75, 76, 77, 78, 79, 80, 81, 82, 83] (by decide +kernel) (by decide +kernel)) (goodIn_sub (fun _ h => List.mem_cons_of_mem _ (List.mem_append_right _ h)) (by decide +kernel))
set_option maxRecDepth 20000 in
theorem gL_tried_X4_causeByTrying : GoodIn wsL_tried (wsV RL 53 RX4 yX4_causeByTrying wsX4_causeByTrying) := goodIn_app (goodIn_of _ (by decide +kernel)) ggL_tried_X4_causeByTrying
set_option maxRecDepth 20000 in
theorem ggL_greedy_X4_greedyCause : GoodIn wsL_greedy wsX4_greedyCause := goodIn_ca (goodIn_r _ [6, 7, 8, 9, 10, 11, 5, 12, 13, 14, 15, 16, 17, 18, 19, 20, 21, 22, 23, 24, 25, 26, 27, 28, 29, 30, 31, 32, 33, 34, 35, 36, 37, 38, 39, 40, 41, 42, 43, 44, 45, 46, 47, 48, 49, 50, 51, 52, 53, 54, 55, 56, 57, 58, 59, 60, 61, 62, 63, 64, 65, 66, 67, 68, 69, 70, 71, 72] (by decide +kernel) (by decide +kernel)) (goodIn_sub (fun _ h => List.mem_cons_of_mem _ (List.mem_append_right _ h)) (by decide +kernel))
set_option maxRecDepth 20000 in
theorem gL_greedy_X4_greedyCause : GoodIn wsL_greedy (wsV RL 56 RX4 yX4_greedyCause wsX4_greedyCause) := goodIn_app (goodIn_of _ (by decide +kernel)) ggL_greedy_X4_greedyCause
set_option maxRecDepth 20000 in
theorem ggL_causeOf_X4_causeOf : GoodIn wsL_causeOf wsX4_causeOf := goodIn_ca (goodIn_r _ [6, 7, 8, 9, 10, 5, 11, 12, 13, 14, 15, 16, 17, 18, 19, 20, 21, 22, 23, 24, 25, 26, 27, 28, 29, 30, 31, 32, 33, 34, 35, 36, 37, 38, 39, 40, 41, 42, 43, 44, 45, 46, 47, 48, 49, 50, 51, 52, 53, 54, 55, 56, 57, 58, 59, 60, 61, 62, 63, 64, 65, 66, 67, 68, 69, 70, 71, 72, 73, 74, 75, 76, 77, 78, 79, 80, 81, 82, 83, 84, 85, 86, 87, 88] (by decide +kernel) (by decide +kernel)) (goodIn_sub (fun _ h => List.mem_cons_of_mem _ (List.mem_append_right _ h)) (by decide +kernel))
set_option maxRecDepth 20000 in
theorem gL_causeOf_X4_causeOf : GoodIn wsL_causeOf (wsV RL 59 RX4 yX4_causeOf wsX4_causeOf) := goodIn_app (goodIn_of _ (by decide +kernel)) ggL_causeOf_X4_causeOf
set_option maxRecDepth 20000 in
theorem ggL_hangs_L_needs : GoodIn wsL_hangs wsL_needs := goodIn_ca (goodIn_r _ [4, 5, 6, 7, 8, 9, 10, 11, 12, 13, 14, 15, 16, 17, 18, 19, 20, 21, 22, 23, 24, 25, 26, 27, 28, 55, 56, 57, 58, 59, 60, 61, 62, 63] (by decide +kernel) (by decide +kernel)) (goodIn_sub (fun _ h => List.mem_cons_of_mem _ (List.mem_append_right _ h)) (by decide +kernel))
set_option maxRecDepth 20000 in
theorem gL_hangs_L_needs : GoodIn wsL_hangs (va_wsS RL 62 yL_needs wsL_needs) := goodIn_app (goodIn_of _ (by decide +kernel)) ggL_hangs_L_needs
set_option maxRecDepth 20000 in
theorem ggL_hangs_L_height : GoodIn wsL_hangs wsL_height := goodIn_ca (goodIn_r _ [31, 5, 32, 33, 34, 9, 35, 11, 12, 13, 14, 15, 16, 36, 37, 38, 20, 39, 22, 27, 28, 40, 41, 42, 24, 25, 26, 55, 56, 57, 58, 59, 60, 61, 62, 63] (by decide +kernel) (by decide +kernel)) (goodIn_sub (fun _ h => List.mem_cons_of_mem _ (List.mem_append_right _ h)) (by decide +kernel))
set_option maxRecDepth 20000 in
theorem gL_hangs_L_height : GoodIn wsL_hangs (va_wsS RL 67 yL_height wsL_height) := goodIn_app (goodIn_of _ (by decide +kernel)) ggL_hangs_L_height
set_option maxRecDepth 20000 in
theorem ggL_hangs_L_depends : GoodIn wsL_hangs wsL_depends := goodIn_ca (goodIn_r _ [45, 5, 46, 47, 48, 9, 49, 11, 12, 13, 14, 15, 16, 50, 51, 52, 20, 53, 54, 23, 24, 25, 26, 27, 28, 55, 56, 57, 58, 59, 60, 61, 62, 63] (by decide +kernel) (by decide +kernel)) (goodIn_sub (fun _ h => List.mem_cons_of_mem _ (List.mem_append_right _ h)) (by decide +kernel))
set_option maxRecDepth 20000 in
theorem gL_hangs_L_depends : GoodIn wsL_hangs (va_wsS RL 70 yL_depends wsL_depends) := goodIn_app (goodIn_of _ (by decide +kernel)) ggL_hangs_L_depends
set_option maxRecDepth 20000 in
theorem ggL_isBest_L_all : GoodIn wsL_isBest wsL_all := goodIn_r _ [4] (by decide +kernel) (by decide +kernel)
set_option maxRecDepth 20000 in
theorem gL_isBest_L_all : GoodIn wsL_isBest (va_wsS RL 73 yL_all wsL_all) := goodIn_app (goodIn_of _ (by decide +kernel)) ggL_isBest_L_all
set_option maxRecDepth 20000 in
theorem ggL_isBest_L_size : GoodIn wsL_isBest wsL_size := goodIn_r _ [7] (by decide +kernel) (by decide +kernel)
set_option maxRecDepth 20000 in
theorem gL_isBest_L_size : GoodIn wsL_isBest (va_wsS RL 77 yL_size wsL_size) := goodIn_app (goodIn_of _ (by decide +kernel)) ggL_isBest_L_size
set_option maxRecDepth 20000 in
theorem ggL_causes_L_ticket : GoodIn wsL_causes wsL_ticket := goodIn_ca (goodIn_r _ [5, 6, 7, 8, 9, 10, 11, 12, 13, 14, 15, 16, 17, 18, 19, 20, 21, 22, 23, 192, 193, 194, 195, 196, 197, 198, 199] (by decide +kernel) (by decide +kernel)) (goodIn_sub (fun _ h => List.mem_cons_of_mem _ (List.mem_append_right _ h)) (by decide +kernel))
set_option maxRecDepth 20000 in
theorem gL_causes_L_ticket : GoodIn wsL_causes (va_wsS RL 80 yL_ticket wsL_ticket) := goodIn_app (goodIn_of _ (by decide +kernel)) ggL_causes_L_ticket
set_option maxRecDepth 20000 in
theorem ggL_causes_L_depends : GoodIn wsL_causes wsL_depends := goodIn_ca (goodIn_r _ [26, 6, 27, 28, 29, 10, 30, 31, 13, 14, 15, 16, 17, 32, 33, 34, 35, 36, 37, 38, 39, 40, 41, 42, 43, 192, 193, 194, 195, 196, 200, 201, 202, 203] (by decide +kernel) (by decide +kernel)) (goodIn_sub (fun _ h => List.mem_cons_of_mem _ (List.mem_append_right _ h)) (by decide +kernel))
set_option maxRecDepth 20000 in
theorem gL_causes_L_depends : GoodIn wsL_causes (va_wsS RL 70 yL_depends wsL_depends) := goodIn_app (goodIn_of _ (by decide +kernel)) ggL_causes_L_depends
set_option maxRecDepth 20000 in
theorem ggL_causes_L_needs : GoodIn wsL_causes wsL_needs := goodIn_ca (goodIn_r _ [46, 6, 47, 48, 49, 10, 50, 31, 13, 14, 15, 16, 17, 51, 52, 53, 35, 54, 55, 38, 39, 40, 41, 42, 43, 192, 193, 194, 195, 196, 200, 201, 202, 203] (by decide +kernel) (by decide +kernel)) (goodIn_sub (fun _ h => List.mem_cons_of_mem _ (List.mem_append_right _ h)) (by decide +kernel))
set_option maxRecDepth 20000 in
theorem gL_causes_L_needs : GoodIn wsL_causes (va_wsS RL 62 yL_needs wsL_needs) := goodIn_app (goodIn_of _ (by decide +kernel)) ggL_causes_L_needs
set_option maxRecDepth 20000 in
theorem ggL_causes_L_plausible : GoodIn wsL_causes wsL_plausible := goodIn_ca (goodIn_r _ [58, 6, 59, 60, 61, 10, 62, 13, 14, 15, 16, 17, 63, 64, 65, 66, 67, 68, 69, 31, 70, 71, 72, 73, 74, 75, 76, 77, 78, 79, 80, 81, 82, 83, 84, 85, 35, 86, 87, 42, 43, 88, 89, 90, 91, 38, 39, 40, 41, 204, 205, 206, 192, 193, 194, 195, 196, 200, 201, 202, 203] (by decide +kernel) (by decide +kernel)) (goodIn_sub (fun _ h => List.mem_cons_of_mem _ (List.mem_append_right _ h)) (by decide +kernel))
set_option maxRecDepth 20000 in
theorem gL_causes_L_plausible : GoodIn wsL_causes (va_wsS RL 83 yL_plausible wsL_plausible) := goodIn_app (goodIn_of _ (by decide +kernel)) ggL_causes_L_plausible
set_option maxRecDepth 20000 in
theorem ggL_causes_X4_causes : GoodIn wsL_causes wsX4_causes := goodIn_r _ [95, 63, 64, 65, 10, 66, 67, 68, 69, 31, 70, 71, 72, 73, 74, 75, 76, 77, 78, 79, 80, 81, 82, 83, 84, 85, 35, 86, 87, 42, 43, 96, 97, 98, 99, 100, 101, 102, 103, 104, 38, 39, 40, 41, 105, 106, 107, 108, 109, 110, 111, 112, 113, 114, 115, 116, 117, 118, 119, 37, 120, 121, 122, 123, 124, 125, 204, 205, 206, 192, 193, 194, 195, 196, 200, 201, 202, 203] (by decide +kernel) (by decide +kernel)
set_option maxRecDepth 20000 in
theorem gL_causes_X4_causes : GoodIn wsL_causes (wsV RL 86 RX4 yX4_causes wsX4_causes) := goodIn_app (goodIn_of _ (by decide +kernel)) ggL_causes_X4_causes
set_option maxRecDepth 20000 in
theorem ggL_causes_L_cause : GoodIn wsL_causes wsL_cause := goodIn_ca (goodIn_r _ [128, 6, 129, 130, 131, 10, 132, 63, 64, 65, 66, 67, 68, 69, 31, 70, 71, 72, 73, 74, 75, 76, 77, 78, 79, 80, 81, 82, 83, 84, 85, 35, 86, 87, 42, 43, 96, 97, 98, 99, 100, 101, 102, 103, 104, 38, 39, 40, 41, 105, 106, 107, 108, 109, 110, 111, 112, 113, 114, 115, 116, 117, 118, 119, 37, 120, 121, 122, 123, 124, 133, 134, 135, 16, 17, 136, 204, 205, 206, 192, 193, 194, 195, 196, 200, 201, 202, 203] (by decide +kernel) (by decide +kernel)) (goodIn_sub (fun _ h => List.mem_cons_of_mem _ (List.mem_append_right _ h)) (by decide +kernel))
set_option maxRecDepth 20000 in
theorem gL_causes_L_cause : GoodIn wsL_causes (va_wsS RL 90 yL_cause wsL_cause) := goodIn_app (goodIn_of _ (by decide +kernel)) ggL_causes_L_cause
set_option maxRecDepth 20000 in
theorem ggL_causes_L_tried : GoodIn wsL_causes wsL_tried := goodIn_ca (goodIn_r _ [139, 6, 140, 141, 142, 10, 143, 63, 64, 65, 66, 67, 68, 69, 31, 70, 71, 72, 73, 74, 75, 76, 77, 78, 79, 80, 81, 82, 83, 84, 85, 35, 86, 87, 42, 43, 144, 145, 146, 147, 109, 110, 111, 112, 113, 114, 115, 105, 106, 107, 108, 103, 104, 38, 39, 40, 41, 148, 149, 150, 151, 116, 117, 118, 119, 37, 133, 134, 135, 16, 17, 136, 204, 205, 206, 192, 193, 194, 195, 196, 200, 201, 202, 203] (by decide +kernel) (by decide +kernel)) (goodIn_sub (fun _ h => List.mem_cons_of_mem _ (List.mem_append_right _ h)) (by decide +kernel))
set_option maxRecDepth 20000 in
theorem gL_causes_L_tried : GoodIn wsL_causes (va_wsS RL 92 yL_tried wsL_tried) := goodIn_app (goodIn_of _ (by decide +kernel)) ggL_causes_L_tried
set_option maxRecDepth 20000 in
theorem ggL_causes_L_isBest : GoodIn wsL_causes wsL_isBest := goodIn_r _ [154, 155, 156, 4, 157, 158, 159, 160] (by decide +kernel) (by decide +kernel)
set_option maxRecDepth 20000 in
theorem gL_causes_L_isBest : GoodIn wsL_causes (va_wsS RL 95 yL_isBest wsL_isBest) := goodIn_app (goodIn_of _ (by decide +kernel)) ggL_causes_L_isBest
set_option maxRecDepth 20000 in
theorem ggL_causes_X4_greedyCauses : GoodIn wsL_causes wsX4_greedyCauses := goodIn_r _ [164, 63, 64, 65, 10, 66, 67, 68, 69, 31, 70, 71, 72, 73, 74, 75, 76, 77, 78, 79, 80, 81, 82, 83, 84, 85, 35, 86, 87, 42, 43, 165, 166, 167, 168, 169, 170, 171, 172, 39, 40, 41, 120, 121, 122, 123, 124, 109, 110, 111, 112, 113, 114, 115, 204, 205, 206, 192, 193, 194, 195, 196, 200, 201, 202, 203] (by decide +kernel) (by decide +kernel)
set_option maxRecDepth 20000 in
theorem gL_causes_X4_greedyCauses : GoodIn wsL_causes (wsV RL 99 RX4 yX4_greedyCauses wsX4_greedyCauses) := goodIn_app (goodIn_of _ (by decide +kernel)) ggL_causes_X4_greedyCauses
set_option maxRecDepth 20000 in
theorem ggL_causes_L_greedy : GoodIn wsL_causes wsL_greedy := goodIn_ca (goodIn_r _ [175, 6, 176, 177, 178, 10, 179, 16, 17, 63, 64, 65, 66, 67, 68, 69, 31, 70, 71, 72, 73, 74, 75, 76, 77, 78, 79, 80, 81, 82, 83, 84, 85, 35, 86, 87, 42, 43, 180, 181, 182, 183, 169, 170, 171, 172, 39, 40, 41, 120, 121, 122, 123, 124, 109, 110, 111, 112, 113, 114, 115, 204, 205, 206, 192, 193, 194, 195, 196, 200, 201, 202, 203] (by decide +kernel) (by decide +kernel)) (goodIn_sub (fun _ h => List.mem_cons_of_mem _ (List.mem_append_right _ h)) (by decide +kernel))
set_option maxRecDepth 20000 in
theorem gL_causes_L_greedy : GoodIn wsL_causes (va_wsS RL 102 yL_greedy wsL_greedy) := goodIn_app (goodIn_of _ (by decide +kernel)) ggL_causes_L_greedy
set_option maxRecDepth 20000 in
theorem ggL_causes_L_size : GoodIn wsL_causes wsL_size := goodIn_r _ [160] (by decide +kernel) (by decide +kernel)
set_option maxRecDepth 20000 in
theorem gL_causes_L_size : GoodIn wsL_causes (va_wsS RL 77 yL_size wsL_size) := goodIn_app (goodIn_of _ (by decide +kernel)) ggL_causes_L_size
set_option maxRecDepth 20000 in
theorem ggL_causes_L_causeOf : GoodIn wsL_causes wsL_causeOf := goodIn_ca (goodIn_r _ [186, 6, 187, 188, 189, 10, 190, 70, 31, 13, 14, 15, 16, 17, 38, 39, 40, 41, 42, 43, 63, 64, 65, 66, 67, 68, 69, 71, 72, 73, 74, 75, 76, 77, 78, 79, 80, 81, 82, 83, 84, 85, 35, 86, 87, 96, 97, 98, 99, 100, 101, 102, 103, 104, 105, 106, 107, 108, 109, 110, 111, 112, 113, 114, 115, 116, 117, 118, 119, 37, 120, 121, 122, 123, 124, 191, 136, 192, 193, 194, 195, 196, 204, 205, 206, 200, 201, 202, 203] (by decide +kernel) (by decide +kernel)) (goodIn_sub (fun _ h => List.mem_cons_of_mem _ (List.mem_append_right _ h)) (by decide +kernel))
set_option maxRecDepth 20000 in
theorem gL_causes_L_causeOf : GoodIn wsL_causes (va_wsS RL 105 yL_causeOf wsL_causeOf) := goodIn_app (goodIn_of _ (by decide +kernel)) ggL_causes_L_causeOf
set_option maxRecDepth 20000 in
theorem ggL_law_X4_init : GoodIn wsL_law wsX4_init := goodIn_r _ [5, 6, 7, 8, 9, 10, 11, 12, 13, 14, 15, 16, 17, 18, 19, 20, 21, 22, 23, 24, 25, 26, 27, 28, 29, 30, 31, 32, 33, 34, 35, 36, 37, 38, 39, 40, 41, 42, 43, 44, 45, 46, 377, 378, 379, 380, 372, 373, 374, 375, 376, 381, 382, 383, 384, 385, 386, 387, 388, 389] (by decide +kernel) (by decide +kernel)
set_option maxRecDepth 20000 in
theorem gL_law_X4_init : GoodIn wsL_law (wsX4_init) := ggL_law_X4_init
set_option maxRecDepth 20000 in
theorem ggL_law_L_hangs : GoodIn wsL_law wsL_hangs := goodIn_ca (goodIn_r _ [50, 51, 52, 49, 53, 54, 55, 56, 57, 2, 58, 12, 59, 60, 61, 62, 63, 64, 65, 66, 11, 67, 27, 68, 69, 70, 71, 72, 73, 74, 75, 76, 77, 78, 79, 80, 81, 82, 83, 84, 85, 86, 87, 88, 89, 90, 91, 92, 93, 94, 95, 96, 97, 98, 29, 372, 373, 374, 375, 376, 377, 378, 379, 380] (by decide +kernel) (by decide +kernel)) (goodIn_sub (fun _ h => List.mem_append_left _ (List.mem_append_left _ (List.mem_append_right _ h))) (by decide +kernel))
set_option maxRecDepth 20000 in
theorem gL_law_L_hangs : GoodIn wsL_law (va_wsS RL 108 yL_hangs wsL_hangs) := goodIn_app (goodIn_of _ (by decide +kernel)) ggL_law_L_hangs
set_option maxRecDepth 20000 in
theorem ggL_law_L_causes : GoodIn wsL_law wsL_causes := goodIn_ca (goodIn_r _ [101, 26, 102, 103, 49, 104, 54, 105, 106, 107, 2, 108, 20, 59, 60, 61, 62, 63, 109, 110, 111, 19, 112, 44, 88, 89, 90, 91, 92, 93, 94, 12, 95, 96, 97, 11, 98, 29, 68, 69, 70, 71, 72, 73, 51, 52, 53, 55, 56, 57, 58, 64, 65, 66, 67, 27, 113, 114, 115, 116, 117, 118, 119, 120, 121, 122, 123, 124, 125, 126, 21, 127, 128, 129, 130, 7, 8, 131, 132, 133, 134, 135, 136, 137, 138, 139, 140, 28, 141, 142, 143, 144, 145, 146, 147, 148, 149, 150, 151, 152, 153, 154, 155, 156, 157, 158, 159, 160, 161, 162, 163, 164, 165, 166, 167, 168, 169, 170, 171, 172, 173, 174, 175, 176, 30, 177, 178, 179, 180, 181, 182, 183, 184, 185, 186, 187, 188, 189, 190, 191, 192, 193, 194, 195, 196, 197, 198, 199, 200, 201, 202, 203, 204, 205, 206, 207, 208, 209, 210, 211, 212, 213, 214, 215, 216, 217, 218, 219, 220, 221, 222, 223, 224, 225, 226, 227, 228, 229, 230, 231, 232, 233, 234, 235, 236, 237, 238, 239, 240, 241, 242, 243, 372, 373, 374, 375, 376, 387, 388, 389, 377, 378, 379, 380, 390, 391, 392] rfl (by decide +kernel)) (goodIn_sub (fun _ h => List.mem_append_left _ (List.mem_append_left _ (List.mem_append_right _ h))) (by decide +kernel))
set_option maxRecDepth 20000 in
theorem gL_law_L_causes : GoodIn wsL_law (va_wsS RL 112 yL_causes wsL_causes) := goodIn_app (goodIn_of _ (by decide +kernel)) ggL_law_L_causes
set_option maxRecDepth 20000 in
theorem ggL_law_L_cell : GoodIn wsL_law wsL_cell := goodIn_r _ [246, 247, 248] (by decide +kernel) (by decide +kernel)
set_option maxRecDepth 20000 in
theorem gL_law_L_cell : GoodIn wsL_law (va_wsS RL 114 yL_cell wsL_cell) := goodIn_app (goodIn_of _ (by decide +kernel)) ggL_law_L_cell
set_option maxRecDepth 20000 in
theorem ggL_law_L_depends : GoodIn wsL_law wsL_depends := goodIn_ca (goodIn_r _ [90, 54, 91, 92, 93, 2, 94, 12, 59, 60, 61, 62, 63, 95, 96, 97, 11, 98, 29, 68, 69, 70, 71, 72, 73, 372, 373, 374, 375, 376, 377, 378, 379, 380] (by decide +kernel) (by decide +kernel)) (goodIn_sub (fun _ h => List.mem_append_left _ (List.mem_append_left _ (List.mem_append_right _ h))) (by decide +kernel))
set_option maxRecDepth 20000 in
theorem gL_law_L_depends : GoodIn wsL_law (va_wsS RL 70 yL_depends wsL_depends) := goodIn_app (goodIn_of _ (by decide +kernel)) ggL_law_L_depends
set_option maxRecDepth 20000 in
theorem ggL_law_L_need : GoodIn wsL_law wsL_need := goodIn_ca (goodIn_ca (goodIn_r _ [251, 54, 252, 253, 254, 255, 2, 256, 257, 258, 12, 59, 60, 61, 62, 63, 95, 96, 97, 11, 98, 29, 68, 69, 70, 71, 72, 73, 259, 260, 261, 262, 27, 28, 263, 264, 265, 266, 30, 267, 268, 269, 85, 86, 87, 372, 373, 374, 375, 376, 377, 378, 379, 380] (by decide +kernel) (by decide +kernel)) (goodIn_sub (fun _ h => List.mem_append_left _ (List.mem_append_right _ h)) (by decide +kernel))) (goodIn_sub (fun _ h => List.mem_append_left _ (List.mem_append_left _ (List.mem_append_right _ h))) (by decide +kernel))
set_option maxRecDepth 20000 in
theorem gL_law_L_need : GoodIn wsL_law (va_wsS RL 117 yL_need wsL_need) := goodIn_app (goodIn_of _ (by decide +kernel)) ggL_law_L_need
set_option maxRecDepth 20000 in
theorem ggL_law_L_needs : GoodIn wsL_law wsL_needs := goodIn_ca (goodIn_r _ [53, 54, 55, 56, 57, 2, 58, 12, 59, 60, 61, 62, 63, 64, 65, 66, 11, 67, 27, 68, 69, 70, 71, 72, 73, 372, 373, 374, 375, 376, 377, 378, 379, 380] (by decide +kernel) (by decide +kernel)) (goodIn_sub (fun _ h => List.mem_append_left _ (List.mem_append_left _ (List.mem_append_right _ h))) (by decide +kernel))
set_option maxRecDepth 20000 in
theorem gL_law_L_needs : GoodIn wsL_law (va_wsS RL 62 yL_needs wsL_needs) := goodIn_app (goodIn_of _ (by decide +kernel)) ggL_law_L_needs
set_option maxRecDepth 20000 in
theorem ggL_law_L_release : GoodIn wsL_law wsL_release := goodIn_ca (goodIn_r _ [272, 54, 273, 274, 275, 2, 276, 12, 59, 60, 61, 62, 63, 277, 278, 279, 11, 280, 27, 28, 69, 70, 71, 72, 73, 263, 264, 265, 266, 29, 30, 267, 268, 269, 85, 86, 87, 372, 373, 374, 375, 376, 377, 378, 379, 380] (by decide +kernel) (by decide +kernel)) (goodIn_sub (fun _ h => List.mem_append_left _ (List.mem_append_left _ (List.mem_append_right _ h))) (by decide +kernel))
set_option maxRecDepth 20000 in
theorem gL_law_L_release : GoodIn wsL_law (va_wsS RL 119 yL_release wsL_release) := goodIn_app (goodIn_of _ (by decide +kernel)) ggL_law_L_release
set_option maxRecDepth 20000 in
theorem ggL_law_X4_now : GoodIn wsL_law wsX4_now := goodIn_r _ [284, 22, 372, 373, 374, 375, 376] (by decide +kernel) (by decide +kernel)
set_option maxRecDepth 20000 in
theorem gL_law_X4_now : GoodIn wsL_law (wsV RL 121 RX4 yX4_now wsX4_now) := goodIn_app (goodIn_of _ (by decide +kernel)) ggL_law_X4_now
set_option maxRecDepth 20000 in
theorem ggL_law_L_tick : GoodIn wsL_law wsL_tick := goodIn_ca (goodIn_r _ [287, 252, 288, 289, 290, 2, 291, 22, 292, 293, 294, 257, 258, 372, 373, 374, 375, 376] (by decide +kernel) (by decide +kernel)) (goodIn_sub (fun _ h => List.mem_append_left _ (List.mem_append_right _ h)) (by decide +kernel))
set_option maxRecDepth 20000 in
theorem gL_law_L_tick : GoodIn wsL_law (va_wsS RL 124 yL_tick wsL_tick) := goodIn_app (goodIn_of _ (by decide +kernel)) ggL_law_L_tick
set_option maxRecDepth 20000 in
theorem ggL_law_L_ticket : GoodIn wsL_law wsL_ticket := goodIn_ca (goodIn_r _ [104, 54, 105, 106, 107, 2, 108, 20, 59, 60, 61, 62, 63, 109, 110, 111, 19, 112, 44, 372, 373, 374, 375, 376, 387, 388, 389] (by decide +kernel) (by decide +kernel)) (goodIn_sub (fun _ h => List.mem_append_left _ (List.mem_append_left _ (List.mem_append_right _ h))) (by decide +kernel))
set_option maxRecDepth 20000 in
theorem gL_law_L_ticket : GoodIn wsL_law (va_wsS RL 80 yL_ticket wsL_ticket) := goodIn_app (goodIn_of _ (by decide +kernel)) ggL_law_L_ticket
set_option maxRecDepth 20000 in
theorem ggL_law_X4_events : GoodIn wsL_law wsX4_events := goodIn_r _ [298, 16, 299, 300, 301, 15, 302, 39, 372, 373, 374, 375, 376, 381, 382, 383, 384, 385, 386] (by decide +kernel) (by decide +kernel)
set_option maxRecDepth 20000 in
theorem gL_law_X4_events : GoodIn wsL_law (wsV RL 126 RX4 yX4_events wsX4_events) := goodIn_app (goodIn_of _ (by decide +kernel)) ggL_law_X4_events
set_option maxRecDepth 20000 in
theorem ggL_law_L_clear : GoodIn wsL_law wsL_clear := goodIn_ca (goodIn_ca (goodIn_r _ [305, 54, 306, 307, 308, 309, 2, 310, 21, 16, 22, 20, 59, 60, 61, 62, 63, 68, 69, 70, 71, 72, 73, 311, 312, 313, 314, 315, 316, 317, 318, 319, 15, 320, 39, 321, 322, 323, 324, 38, 325, 326, 327, 328, 34, 35, 36, 37, 329, 330, 331, 19, 332, 44, 333, 334, 335, 336, 337, 338, 339, 340, 46, 45, 372, 373, 374, 375, 376, 381, 382, 383, 384, 385, 386, 387, 388, 389] (by decide +kernel) (by decide +kernel)) (goodIn_sub (fun _ h => List.mem_append_left _ (List.mem_append_left _ (List.mem_append_right _ h))) (by decide +kernel))) (goodIn_sub (fun _ h => List.mem_append_right _ h) (by decide +kernel))
set_option maxRecDepth 20000 in
theorem gL_law_L_clear : GoodIn wsL_law (va_wsS RL 129 yL_clear wsL_clear) := goodIn_app (goodIn_of _ (by decide +kernel)) ggL_law_L_clear
set_option maxRecDepth 20000 in
theorem ggL_law_L_raise : GoodIn wsL_law wsL_raise := goodIn_ca (goodIn_ca (goodIn_r _ [343, 54, 306, 344, 345, 346, 2, 347, 21, 16, 22, 12, 20, 59, 60, 61, 62, 63, 68, 69, 70, 71, 72, 73, 311, 312, 313, 314, 315, 316, 317, 318, 319, 15, 320, 39, 348, 349, 350, 351, 38, 325, 326, 327, 328, 34, 35, 36, 37, 95, 96, 97, 11, 98, 29, 352, 353, 354, 355, 30, 356, 357, 358, 19, 359, 46, 44, 360, 361, 362, 363, 364, 365, 366, 367, 368, 369, 370, 371, 45, 337, 338, 339, 340, 372, 373, 374, 375, 376, 381, 382, 383, 384, 385, 386, 377, 378, 379, 380, 387, 388, 389] (by decide +kernel) (by decide +kernel)) (goodIn_sub (fun _ h => List.mem_append_left _ (List.mem_append_left _ (List.mem_append_right _ h))) (by decide +kernel))) (goodIn_sub (fun _ h => List.mem_append_right _ h) (by decide +kernel))
set_option maxRecDepth 20000 in
theorem gL_law_L_raise : GoodIn wsL_law (va_wsS RL 131 yL_raise wsL_raise) := goodIn_app (goodIn_of _ (by decide +kernel)) ggL_law_L_raise
