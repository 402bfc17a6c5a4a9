set_option maxRecDepth 20000 in
theorem ggL_call_L_does : GoodIn wsL_call wsL_does := goodIn_ca (goodIn_ca (goodIn_ca (goodIn_r _ [7, 8, 9, 10, 11, 12, 13, 14, 15, 16, 17, 18, 19, 20, 21, 22, 23, 24, 25, 26, 27, 28, 29, 30, 31, 32, 33, 34, 35, 36, 37, 38, 39, 40, 41, 42, 43, 44, 45, 46, 47, 48, 49, 50, 51, 52, 53, 54, 55, 56, 57, 58, 59, 60, 61, 62, 63, 64, 65, 66, 67, 68, 69, 70, 71, 72, 73, 74, 75, 76, 77, 78, 79, 80, 81, 82, 83, 84, 85, 86, 87, 88, 89, 90, 91, 92, 93, 94, 95, 96, 97, 98, 99, 100, 101, 102, 103, 104, 105, 106, 107, 108, 109, 110, 111, 112, 113, 114, 115, 116, 117, 118, 119, 120, 121, 122, 123, 124, 125, 126, 127, 128, 129, 130, 131, 132, 133, 134, 135, 136, 137, 138, 139, 140, 141, 142, 143, 144, 145, 146, 147, 148, 149, 150, 151, 152, 153, 154, 155, 156, 157, 158, 159, 160, 161, 162, 163, 164, 165, 166, 167, 168, 169, 170, 171, 172, 173, 174, 175, 176, 177, 178, 179, 180, 181, 182, 183, 184, 185, 186, 187, 188, 189, 190, 191, 192, 193, 194, 195, 196, 197, 198, 199, 200, 201, 202, 203, 204, 205, 206, 207, 208, 209, 210, 211, 212, 213] (by decide +kernel) (by decide +kernel)) (goodIn_sub (fun _ h => List.mem_cons_of_mem _ (List.mem_append_left _ (List.mem_append_left _ (List.mem_append_right _ h)))) (by decide +kernel))) (goodIn_sub (fun _ h => List.mem_cons_of_mem _ (List.mem_append_left _ (List.mem_append_right _ h))) (by decide +kernel))) (goodIn_sub (fun _ h => List.mem_cons_of_mem _ (List.mem_append_right _ h)) (by decide +kernel))
set_option maxRecDepth 20000 in
theorem gL_call_L_does : GoodIn wsL_call (va_wsS RL 8 yL_does wsL_does) := goodIn_app (goodIn_of _ (by decide +kernel)) ggL_call_L_does
set_option maxRecDepth 20000 in
theorem ggL_all_X2_workers : GoodIn wsL_all wsX2_workers := goodIn_r _ [10, 11, 64, 65, 66, 67, 68, 69, 70, 71] (by decide +kernel) (by decide +kernel)
set_option maxRecDepth 20000 in
theorem gL_all_X2_workers : GoodIn wsL_all (wsV RL 77 RX2 yX2_workers wsX2_workers) := goodIn_app (goodIn_of _ (by decide +kernel)) ggL_all_X2_workers
set_option maxRecDepth 20000 in
theorem ggL_all_X2_week : GoodIn wsL_all wsX2_week := goodIn_r _ [15, 16, 64, 65, 66, 67, 68, 69, 70, 71] (by decide +kernel) (by decide +kernel)
set_option maxRecDepth 20000 in
theorem gL_all_X2_week : GoodIn wsL_all (wsV RL 83 RX2 yX2_week wsX2_week) := goodIn_app (goodIn_of _ (by decide +kernel)) ggL_all_X2_week
set_option maxRecDepth 20000 in
theorem ggL_all_X2_firmOwes : GoodIn wsL_all wsX2_firmOwes := goodIn_r _ [20, 21, 64, 65, 66, 67, 68, 69, 70, 71] (by decide +kernel) (by decide +kernel)
set_option maxRecDepth 20000 in
theorem gL_all_X2_firmOwes : GoodIn wsL_all (wsV RL 88 RX2 yX2_firmOwes wsX2_firmOwes) := goodIn_app (goodIn_of _ (by decide +kernel)) ggL_all_X2_firmOwes
set_option maxRecDepth 20000 in
theorem ggL_all_X2_cutWeeks : GoodIn wsL_all wsX2_cutWeeks := goodIn_ca (goodIn_r _ [25, 26, 27, 28, 9, 29, 30, 31, 11, 32, 33, 34, 35, 72, 73, 74, 75, 76, 77, 78, 79, 80, 81, 82, 83, 64, 65, 66, 67, 68, 69, 70, 71] (by decide +kernel) (by decide +kernel)) (goodIn_sub (fun _ h => List.mem_cons_of_mem _ (List.mem_append_left _ (List.mem_append_right _ h))) (by decide +kernel))
set_option maxRecDepth 20000 in
theorem gL_all_X2_cutWeeks : GoodIn wsL_all (wsV RL 57 RX2 yX2_cutWeeks wsX2_cutWeeks) := goodIn_app (goodIn_of _ (by decide +kernel)) ggL_all_X2_cutWeeks
set_option maxRecDepth 20000 in
theorem ggL_all_X2_owes : GoodIn wsL_all wsX2_owes := goodIn_ca (goodIn_r _ [39, 26, 27, 28, 9, 29, 30, 31, 11, 32, 33, 34, 35, 72, 73, 74, 75, 76, 77, 78, 79, 80, 81, 82, 83, 64, 65, 66, 67, 68, 69, 70, 71] (by decide +kernel) (by decide +kernel)) (goodIn_sub (fun _ h => List.mem_cons_of_mem _ (List.mem_append_left _ (List.mem_append_right _ h))) (by decide +kernel))
set_option maxRecDepth 20000 in
theorem gL_all_X2_owes : GoodIn wsL_all (wsV RL 71 RX2 yX2_owes wsX2_owes) := goodIn_app (goodIn_of _ (by decide +kernel)) ggL_all_X2_owes
set_option maxRecDepth 20000 in
theorem ggL_all_X2_net : GoodIn wsL_all wsX2_net := goodIn_ca (goodIn_r _ [43, 26, 27, 28, 9, 29, 30, 31, 11, 32, 33, 34, 35, 72, 73, 74, 75, 76, 77, 78, 79, 80, 81, 82, 83, 64, 65, 66, 67, 68, 69, 70, 71] (by decide +kernel) (by decide +kernel)) (goodIn_sub (fun _ h => List.mem_cons_of_mem _ (List.mem_append_left _ (List.mem_append_right _ h))) (by decide +kernel))
set_option maxRecDepth 20000 in
theorem gL_all_X2_net : GoodIn wsL_all (wsV RL 74 RX2 yX2_net wsX2_net) := goodIn_app (goodIn_of _ (by decide +kernel)) ggL_all_X2_net
set_option maxRecDepth 20000 in
theorem ggL_all_X2_cut : GoodIn wsL_all wsX2_cut := goodIn_ca (goodIn_ca (goodIn_r _ [47, 26, 27, 28, 9, 29, 30, 31, 11, 32, 33, 34, 35, 48, 49, 50, 51, 52, 72, 73, 74, 75, 76, 77, 78, 79, 80, 81, 82, 83, 64, 65, 66, 67, 68, 69, 70, 71] (by decide +kernel) (by decide +kernel)) (goodIn_sub (fun _ h => List.mem_cons_of_mem _ (List.mem_append_left _ (List.mem_append_right _ h))) (by decide +kernel))) (goodIn_sub (fun _ h => List.mem_cons_of_mem _ (List.mem_append_right _ h)) (by decide +kernel))
set_option maxRecDepth 20000 in
theorem gL_all_X2_cut : GoodIn wsL_all (wsV RL 41 RX2 yX2_cut wsX2_cut) := goodIn_app (goodIn_of _ (by decide +kernel)) ggL_all_X2_cut
set_option maxRecDepth 20000 in
theorem ggL_all_X2_isFilled : GoodIn wsL_all wsX2_isFilled := goodIn_ca (goodIn_ca (goodIn_r _ [56, 26, 27, 28, 9, 29, 30, 31, 11, 32, 33, 34, 35, 48, 49, 50, 51, 52, 57, 58, 59, 60, 61, 62, 63, 64, 65, 66, 67, 68, 69, 70, 71, 72, 73, 74, 75, 76, 77, 78, 79, 80, 81, 82, 83] (by decide +kernel) (by decide +kernel)) (goodIn_sub (fun _ h => List.mem_cons_of_mem _ (List.mem_append_left _ (List.mem_append_right _ h))) (by decide +kernel))) (goodIn_sub (fun _ h => List.mem_cons_of_mem _ (List.mem_append_right _ h)) (by decide +kernel))
set_option maxRecDepth 20000 in
theorem gL_all_X2_isFilled : GoodIn wsL_all (wsV RL 44 RX2 yX2_isFilled wsX2_isFilled) := goodIn_app (goodIn_of _ (by decide +kernel)) ggL_all_X2_isFilled
