set_option maxRecDepth 20000 in
theorem ggL_checks_X2_workers : GoodIn wsL_checks wsX2_workers := goodIn_r _ [5, 6, 216, 217, 218, 219, 220, 221, 222, 223] (by decide +kernel) (by decide +kernel)
set_option maxRecDepth 20000 in
theorem gL_checks_X2_workers : GoodIn wsL_checks (wsV RL 77 RX2 yX2_workers wsX2_workers) := goodIn_app (goodIn_of _ (by decide +kernel)) ggL_checks_X2_workers
set_option maxRecDepth 20000 in
theorem ggL_checks_X2_week : GoodIn wsL_checks wsX2_week := goodIn_r _ [10, 11, 216, 217, 218, 219, 220, 221, 222, 223] (by decide +kernel) (by decide +kernel)
set_option maxRecDepth 20000 in
theorem gL_checks_X2_week : GoodIn wsL_checks (wsV RL 83 RX2 yX2_week wsX2_week) := goodIn_app (goodIn_of _ (by decide +kernel)) ggL_checks_X2_week
set_option maxRecDepth 20000 in
theorem ggL_checks_L_some : GoodIn wsL_checks wsL_some := goodIn_r _ [15] (by decide +kernel) (by decide +kernel)
set_option maxRecDepth 20000 in
theorem gL_checks_L_some : GoodIn wsL_checks (va_wsS RL 100 yL_some wsL_some) := goodIn_app (goodIn_of _ (by decide +kernel)) ggL_checks_L_some
set_option maxRecDepth 20000 in
theorem ggL_checks_L_all : GoodIn wsL_checks wsL_all := goodIn_ca (goodIn_ca (goodIn_r _ [18, 19, 20, 21, 22, 23, 1, 2, 3, 4, 5, 6, 7, 8, 9, 10, 11, 24, 25, 26, 27, 28, 29, 30, 31, 32, 33, 34, 35, 36, 37, 38, 39, 40, 41, 42, 43, 44, 45, 46, 47, 48, 49, 50, 51, 52, 53, 54, 55, 56, 57, 58, 59, 60, 61, 62, 63, 64, 65, 66, 67, 68, 69, 70, 216, 217, 218, 219, 220, 221, 222, 223, 224, 225, 226, 227, 228, 229, 230, 231, 232, 233, 234, 235] (by decide +kernel) (by decide +kernel)) (goodIn_sub (fun _ h => List.mem_cons_of_mem _ (List.mem_append_left _ (List.mem_append_left _ (List.mem_append_right _ h)))) (by decide +kernel))) (goodIn_sub (fun _ h => List.mem_cons_of_mem _ (List.mem_append_left _ (List.mem_append_right _ h))) (by decide +kernel))
set_option maxRecDepth 20000 in
theorem gL_checks_L_all : GoodIn wsL_checks (va_wsS RL 103 yL_all wsL_all) := goodIn_app (goodIn_of _ (by decide +kernel)) ggL_checks_L_all
set_option maxRecDepth 20000 in
theorem ggL_checks_L_call : GoodIn wsL_checks wsL_call := goodIn_ca (goodIn_ca (goodIn_ca (goodIn_r _ [73, 74, 75, 76, 77, 78, 14, 79, 80, 81, 82, 4, 83, 84, 6, 39, 85, 86, 67, 40, 41, 42, 55, 56, 57, 58, 59, 87, 88, 89, 90, 91, 92, 93, 94, 95, 96, 97, 98, 99, 100, 70, 69, 101, 102, 103, 104, 105, 106, 107, 108, 109, 11, 33, 34, 35, 36, 37, 38, 110, 111, 112, 113, 114, 115, 116, 117, 118, 119, 120, 121, 122, 123, 124, 125, 126, 127, 128, 129, 130, 131, 132, 133, 134, 135, 136, 137, 138, 139, 140, 141, 142, 143, 144, 145, 146, 147, 148, 149, 150, 151, 152, 153, 154, 155, 51, 52, 53, 54, 60, 61, 62, 63, 64, 65, 66, 68, 156, 157, 158, 159, 160, 161, 162, 163, 164, 165, 166, 167, 168, 169, 170, 171, 172, 173, 174, 175, 176, 177, 178, 179, 180, 181, 182, 183, 184, 185, 186, 187, 188, 189, 190, 191, 192, 193, 194, 29, 30, 31, 32, 195, 196, 197, 198, 199, 200, 201, 202, 203, 204, 205, 206, 207, 208, 209, 210, 211, 212, 213, 214, 215, 28, 43, 44, 45, 46, 47, 48, 49, 50, 216, 217, 218, 219, 220, 221, 222, 223, 224, 225, 226, 227, 228, 229, 230, 231, 232, 233, 234, 235, 236, 237, 238, 239] (by decide +kernel) (by decide +kernel)) (goodIn_sub (fun _ h => List.mem_cons_of_mem _ (List.mem_append_left _ (List.mem_append_right _ h))) (by decide +kernel))) (goodIn_sub (fun _ h => List.mem_cons_of_mem _ (List.mem_append_right _ h)) (by decide +kernel))) (goodIn_sub (fun _ h => List.mem_cons_of_mem _ (List.mem_append_left _ (List.mem_append_left _ (List.mem_append_right _ h)))) (by decide +kernel))
set_option maxRecDepth 20000 in
theorem gL_checks_L_call : GoodIn wsL_checks (va_wsS RL 97 yL_call wsL_call) := goodIn_app (goodIn_of _ (by decide +kernel)) ggL_checks_L_call
set_option maxRecDepth 20000 in
theorem ggL_checks_X2_firmOwes : GoodIn wsL_checks wsX2_firmOwes := goodIn_r _ [27, 28, 216, 217, 218, 219, 220, 221, 222, 223] (by decide +kernel) (by decide +kernel)
set_option maxRecDepth 20000 in
theorem gL_checks_X2_firmOwes : GoodIn wsL_checks (wsV RL 88 RX2 yX2_firmOwes wsX2_firmOwes) := goodIn_app (goodIn_of _ (by decide +kernel)) ggL_checks_X2_firmOwes
set_option maxRecDepth 20000 in
theorem ggL_checks_X2_owes : GoodIn wsL_checks wsX2_owes := goodIn_ca (goodIn_r _ [46, 33, 34, 35, 4, 36, 37, 38, 6, 39, 40, 41, 42, 224, 225, 226, 227, 228, 229, 230, 231, 232, 233, 234, 235, 216, 217, 218, 219, 220, 221, 222, 223] (by decide +kernel) (by decide +kernel)) (goodIn_sub (fun _ h => List.mem_cons_of_mem _ (List.mem_append_left _ (List.mem_append_left _ (List.mem_append_right _ h)))) (by decide +kernel))
set_option maxRecDepth 20000 in
theorem gL_checks_X2_owes : GoodIn wsL_checks (wsV RL 71 RX2 yX2_owes wsX2_owes) := goodIn_app (goodIn_of _ (by decide +kernel)) ggL_checks_X2_owes
set_option maxRecDepth 20000 in
theorem ggL_checks_X2_madeUp : GoodIn wsL_checks wsX2_madeUp := goodIn_ca (goodIn_ca (goodIn_r _ [194, 33, 34, 35, 4, 36, 37, 38, 6, 39, 40, 41, 42, 187, 188, 189, 190, 11, 55, 56, 57, 58, 59, 224, 225, 226, 227, 228, 229, 230, 231, 232, 233, 234, 235, 216, 217, 218, 219, 220, 221, 222, 223] (by decide +kernel) (by decide +kernel)) (goodIn_sub (fun _ h => List.mem_cons_of_mem _ (List.mem_append_left _ (List.mem_append_left _ (List.mem_append_right _ h)))) (by decide +kernel))) (goodIn_sub (fun _ h => List.mem_cons_of_mem _ (List.mem_append_left _ (List.mem_append_right _ h))) (by decide +kernel))
set_option maxRecDepth 20000 in
theorem gL_checks_X2_madeUp : GoodIn wsL_checks (wsV RL 54 RX2 yX2_madeUp wsX2_madeUp) := goodIn_app (goodIn_of _ (by decide +kernel)) ggL_checks_X2_madeUp
set_option maxRecDepth 20000 in
theorem ggL_checks_X2_cut : GoodIn wsL_checks wsX2_cut := goodIn_ca (goodIn_ca (goodIn_r _ [54, 33, 34, 35, 4, 36, 37, 38, 6, 39, 40, 41, 42, 55, 56, 57, 58, 59, 224, 225, 226, 227, 228, 229, 230, 231, 232, 233, 234, 235, 216, 217, 218, 219, 220, 221, 222, 223] (by decide +kernel) (by decide +kernel)) (goodIn_sub (fun _ h => List.mem_cons_of_mem _ (List.mem_append_left _ (List.mem_append_left _ (List.mem_append_right _ h)))) (by decide +kernel))) (goodIn_sub (fun _ h => List.mem_cons_of_mem _ (List.mem_append_left _ (List.mem_append_right _ h))) (by decide +kernel))
set_option maxRecDepth 20000 in
theorem gL_checks_X2_cut : GoodIn wsL_checks (wsV RL 41 RX2 yX2_cut wsX2_cut) := goodIn_app (goodIn_of _ (by decide +kernel)) ggL_checks_X2_cut
