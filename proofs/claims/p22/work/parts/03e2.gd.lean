set_option maxRecDepth 20000 in
theorem ggL_does_X2_add : GoodIn wsL_does wsX2_add := goodIn_ca (goodIn_ca (goodIn_r _ [5, 6, 7, 8, 9, 10, 11, 12, 13, 4, 14, 15, 16, 17, 18, 19, 20, 21, 22, 23, 24, 25, 26, 27, 28, 29, 30, 31, 32, 33, 34, 35, 36, 37, 38, 39, 40, 183, 184, 185, 186, 187, 188, 189, 190, 191, 192, 193, 194, 195, 196, 197, 198, 199, 200, 201, 202] (by decide +kernel) (by decide +kernel)) (goodIn_sub (fun _ h => List.mem_cons_of_mem _ (List.mem_append_left _ (List.mem_append_left _ (List.mem_append_right _ h)))) (by decide +kernel))) (goodIn_sub (fun _ h => List.mem_cons_of_mem _ (List.mem_append_left _ (List.mem_append_right _ h))) (by decide +kernel))
set_option maxRecDepth 20000 in
theorem gL_does_X2_add : GoodIn wsL_does (wsV RL 20 RX2 yX2_add wsX2_add) := goodIn_app (goodIn_of _ (by decide +kernel)) ggL_does_X2_add
set_option maxRecDepth 20000 in
theorem ggL_does_X2_notice : GoodIn wsL_does wsX2_notice := goodIn_ca (goodIn_ca (goodIn_ca (goodIn_r _ [44, 45, 46, 47, 48, 4, 49, 50, 51, 7, 8, 12, 13, 14, 52, 53, 54, 15, 16, 17, 18, 19, 20, 21, 22, 23, 24, 55, 56, 57, 11, 58, 34, 59, 183, 184, 185, 186, 187, 188, 189, 190, 191, 192, 193, 194, 195, 196, 197, 198, 199, 200, 201, 202] (by decide +kernel) (by decide +kernel)) (goodIn_sub (fun _ h => List.mem_cons_of_mem _ (List.mem_append_right _ h)) (by decide +kernel))) (goodIn_sub (fun _ h => List.mem_cons_of_mem _ (List.mem_append_left _ (List.mem_append_left _ (List.mem_append_right _ h)))) (by decide +kernel))) (goodIn_sub (fun _ h => List.mem_cons_of_mem _ (List.mem_append_left _ (List.mem_append_right _ h))) (by decide +kernel))
set_option maxRecDepth 20000 in
theorem gL_does_X2_notice : GoodIn wsL_does (wsV RL 26 RX2 yX2_notice wsX2_notice) := goodIn_app (goodIn_of _ (by decide +kernel)) ggL_does_X2_notice
set_option maxRecDepth 20000 in
theorem ggL_does_X2_addCourse : GoodIn wsL_does wsX2_addCourse := goodIn_ca (goodIn_ca (goodIn_r _ [63, 64, 65, 66, 67, 68, 12, 13, 4, 14, 52, 53, 54, 15, 16, 17, 18, 19, 20, 21, 22, 23, 24, 69, 70, 71, 72, 29, 30, 73, 74, 75, 76, 183, 184, 185, 186, 187, 188, 189, 190, 203, 204, 205, 206] (by decide +kernel) (by decide +kernel)) (goodIn_sub (fun _ h => List.mem_cons_of_mem _ (List.mem_append_left _ (List.mem_append_left _ (List.mem_append_right _ h)))) (by decide +kernel))) (goodIn_sub (fun _ h => List.mem_cons_of_mem _ (List.mem_append_left _ (List.mem_append_right _ h))) (by decide +kernel))
set_option maxRecDepth 20000 in
theorem gL_does_X2_addCourse : GoodIn wsL_does (wsV RL 30 RX2 yX2_addCourse wsX2_addCourse) := goodIn_app (goodIn_of _ (by decide +kernel)) ggL_does_X2_addCourse
set_option maxRecDepth 20000 in
theorem ggL_does_X2_enrol : GoodIn wsL_does wsX2_enrol := goodIn_ca (goodIn_ca (goodIn_r _ [80, 45, 46, 47, 48, 4, 49, 50, 51, 7, 8, 12, 13, 14, 81, 82, 83, 84, 64, 65, 85, 86, 87, 11, 88, 35, 20, 21, 22, 23, 24, 89, 90, 91, 92, 203, 204, 205, 206, 183, 184, 185, 186, 187, 188, 189, 190, 191, 192, 193, 194, 195, 196, 197, 198, 199, 200, 201, 202] (by decide +kernel) (by decide +kernel)) (goodIn_sub (fun _ h => List.mem_cons_of_mem _ (List.mem_append_right _ h)) (by decide +kernel))) (goodIn_sub (fun _ h => List.mem_cons_of_mem _ (List.mem_append_left _ (List.mem_append_right _ h))) (by decide +kernel))
set_option maxRecDepth 20000 in
theorem gL_does_X2_enrol : GoodIn wsL_does (wsV RL 33 RX2 yX2_enrol wsX2_enrol) := goodIn_app (goodIn_of _ (by decide +kernel)) ggL_does_X2_enrol
set_option maxRecDepth 20000 in
theorem ggL_does_X2_setFloor : GoodIn wsL_does wsX2_setFloor := goodIn_ca (goodIn_r _ [96, 97, 12, 13, 4, 14, 15, 16, 17, 18, 19, 183, 184, 185, 186, 187, 188, 189, 190] (by decide +kernel) (by decide +kernel)) (goodIn_sub (fun _ h => List.mem_cons_of_mem _ (List.mem_append_left _ (List.mem_append_left _ (List.mem_append_right _ h)))) (by decide +kernel))
set_option maxRecDepth 20000 in
theorem gL_does_X2_setFloor : GoodIn wsL_does (wsV RL 37 RX2 yX2_setFloor wsX2_setFloor) := goodIn_app (goodIn_of _ (by decide +kernel)) ggL_does_X2_setFloor
set_option maxRecDepth 20000 in
theorem ggL_does_X2_cut : GoodIn wsL_does wsX2_cut := goodIn_ca (goodIn_ca (goodIn_r _ [101, 46, 47, 48, 4, 49, 50, 51, 7, 8, 12, 13, 14, 15, 16, 17, 18, 19, 191, 192, 193, 194, 195, 196, 197, 198, 199, 200, 201, 202, 183, 184, 185, 186, 187, 188, 189, 190] (by decide +kernel) (by decide +kernel)) (goodIn_sub (fun _ h => List.mem_cons_of_mem _ (List.mem_append_right _ h)) (by decide +kernel))) (goodIn_sub (fun _ h => List.mem_cons_of_mem _ (List.mem_append_left _ (List.mem_append_left _ (List.mem_append_right _ h)))) (by decide +kernel))
set_option maxRecDepth 20000 in
theorem gL_does_X2_cut : GoodIn wsL_does (wsV RL 41 RX2 yX2_cut wsX2_cut) := goodIn_app (goodIn_of _ (by decide +kernel)) ggL_does_X2_cut
set_option maxRecDepth 20000 in
theorem ggL_does_X2_isFilled : GoodIn wsL_does wsX2_isFilled := goodIn_ca (goodIn_ca (goodIn_r _ [105, 46, 47, 48, 4, 49, 50, 51, 7, 8, 12, 13, 14, 15, 16, 17, 18, 19, 106, 107, 108, 11, 109, 35, 34, 183, 184, 185, 186, 187, 188, 189, 190, 191, 192, 193, 194, 195, 196, 197, 198, 199, 200, 201, 202] (by decide +kernel) (by decide +kernel)) (goodIn_sub (fun _ h => List.mem_cons_of_mem _ (List.mem_append_right _ h)) (by decide +kernel))) (goodIn_sub (fun _ h => List.mem_cons_of_mem _ (List.mem_append_left _ (List.mem_append_left _ (List.mem_append_right _ h)))) (by decide +kernel))
set_option maxRecDepth 20000 in
theorem gL_does_X2_isFilled : GoodIn wsL_does (wsV RL 44 RX2 yX2_isFilled wsX2_isFilled) := goodIn_app (goodIn_of _ (by decide +kernel)) ggL_does_X2_isFilled
set_option maxRecDepth 20000 in
theorem ggL_does_X2_pass : GoodIn wsL_does wsX2_pass := goodIn_ca (goodIn_ca (goodIn_r _ [113, 45, 12, 13, 4, 14, 15, 16, 17, 18, 19, 20, 21, 22, 23, 24, 114, 115, 116, 117, 8, 97, 118, 119, 120, 11, 121, 31, 34, 122, 123, 124, 125, 36, 37, 126, 127, 128, 129, 130, 131, 32, 132, 133, 134, 135, 136, 107, 108, 109, 35, 183, 184, 185, 186, 187, 188, 189, 190, 191, 192, 193, 194, 195, 196, 197, 198, 199, 200, 201, 202] (by decide +kernel) (by decide +kernel)) (goodIn_sub (fun _ h => List.mem_cons_of_mem _ (List.mem_append_left _ (List.mem_append_left _ (List.mem_append_right _ h)))) (by decide +kernel))) (goodIn_sub (fun _ h => List.mem_cons_of_mem _ (List.mem_append_left _ (List.mem_append_right _ h))) (by decide +kernel))
set_option maxRecDepth 20000 in
theorem gL_does_X2_pass : GoodIn wsL_does (wsV RL 48 RX2 yX2_pass wsX2_pass) := goodIn_app (goodIn_of _ (by decide +kernel)) ggL_does_X2_pass
set_option maxRecDepth 20000 in
theorem ggL_does_X2_paid : GoodIn wsL_does wsX2_paid := goodIn_ca (goodIn_ca (goodIn_r _ [140, 46, 47, 48, 4, 49, 50, 51, 7, 8, 12, 13, 14, 141, 142, 143, 144, 45, 15, 16, 17, 18, 19, 191, 192, 193, 194, 195, 196, 197, 198, 199, 200, 201, 202, 183, 184, 185, 186, 187, 188, 189, 190] (by decide +kernel) (by decide +kernel)) (goodIn_sub (fun _ h => List.mem_cons_of_mem _ (List.mem_append_right _ h)) (by decide +kernel))) (goodIn_sub (fun _ h => List.mem_cons_of_mem _ (List.mem_append_left _ (List.mem_append_left _ (List.mem_append_right _ h)))) (by decide +kernel))
set_option maxRecDepth 20000 in
theorem gL_does_X2_paid : GoodIn wsL_does (wsV RL 51 RX2 yX2_paid wsX2_paid) := goodIn_app (goodIn_of _ (by decide +kernel)) ggL_does_X2_paid
set_option maxRecDepth 20000 in
theorem ggL_does_X2_madeUp : GoodIn wsL_does wsX2_madeUp := goodIn_ca (goodIn_ca (goodIn_r _ [148, 46, 47, 48, 4, 49, 50, 51, 7, 8, 12, 13, 14, 141, 142, 143, 144, 45, 15, 16, 17, 18, 19, 191, 192, 193, 194, 195, 196, 197, 198, 199, 200, 201, 202, 183, 184, 185, 186, 187, 188, 189, 190] (by decide +kernel) (by decide +kernel)) (goodIn_sub (fun _ h => List.mem_cons_of_mem _ (List.mem_append_right _ h)) (by decide +kernel))) (goodIn_sub (fun _ h => List.mem_cons_of_mem _ (List.mem_append_left _ (List.mem_append_left _ (List.mem_append_right _ h)))) (by decide +kernel))
set_option maxRecDepth 20000 in
theorem gL_does_X2_madeUp : GoodIn wsL_does (wsV RL 54 RX2 yX2_madeUp wsX2_madeUp) := goodIn_app (goodIn_of _ (by decide +kernel)) ggL_does_X2_madeUp
set_option maxRecDepth 20000 in
theorem ggL_does_X2_cutWeeks : GoodIn wsL_does wsX2_cutWeeks := goodIn_ca (goodIn_r _ [152, 46, 47, 48, 4, 49, 50, 51, 7, 8, 12, 13, 14, 191, 192, 193, 194, 195, 196, 197, 198, 199, 200, 201, 202, 183, 184, 185, 186, 187, 188, 189, 190] (by decide +kernel) (by decide +kernel)) (goodIn_sub (fun _ h => List.mem_cons_of_mem _ (List.mem_append_right _ h)) (by decide +kernel))
set_option maxRecDepth 20000 in
theorem gL_does_X2_cutWeeks : GoodIn wsL_does (wsV RL 57 RX2 yX2_cutWeeks wsX2_cutWeeks) := goodIn_app (goodIn_of _ (by decide +kernel)) ggL_does_X2_cutWeeks
set_option maxRecDepth 20000 in
theorem ggL_does_X2_door : GoodIn wsL_does wsX2_door := goodIn_ca (goodIn_ca (goodIn_ca (goodIn_r _ [156, 157, 46, 47, 48, 4, 49, 50, 51, 7, 8, 12, 13, 14, 141, 142, 143, 144, 45, 15, 16, 17, 18, 19, 20, 21, 22, 23, 24, 183, 184, 185, 186, 187, 188, 189, 190, 191, 192, 193, 194, 195, 196, 197, 198, 199, 200, 201, 202] (by decide +kernel) (by decide +kernel)) (goodIn_sub (fun _ h => List.mem_cons_of_mem _ (List.mem_append_right _ h)) (by decide +kernel))) (goodIn_sub (fun _ h => List.mem_cons_of_mem _ (List.mem_append_left _ (List.mem_append_left _ (List.mem_append_right _ h)))) (by decide +kernel))) (goodIn_sub (fun _ h => List.mem_cons_of_mem _ (List.mem_append_left _ (List.mem_append_right _ h))) (by decide +kernel))
set_option maxRecDepth 20000 in
theorem gL_does_X2_door : GoodIn wsL_does (wsV RL 60 RX2 yX2_door wsX2_door) := goodIn_app (goodIn_of _ (by decide +kernel)) ggL_does_X2_door
set_option maxRecDepth 20000 in
theorem ggL_does_X2_mail : GoodIn wsL_does wsX2_mail := goodIn_ca (goodIn_ca (goodIn_ca (goodIn_r _ [161, 157, 46, 47, 48, 4, 49, 50, 51, 7, 8, 12, 13, 14, 141, 142, 143, 144, 45, 15, 16, 17, 18, 19, 20, 21, 22, 23, 24, 183, 184, 185, 186, 187, 188, 189, 190, 191, 192, 193, 194, 195, 196, 197, 198, 199, 200, 201, 202] (by decide +kernel) (by decide +kernel)) (goodIn_sub (fun _ h => List.mem_cons_of_mem _ (List.mem_append_right _ h)) (by decide +kernel))) (goodIn_sub (fun _ h => List.mem_cons_of_mem _ (List.mem_append_left _ (List.mem_append_left _ (List.mem_append_right _ h)))) (by decide +kernel))) (goodIn_sub (fun _ h => List.mem_cons_of_mem _ (List.mem_append_left _ (List.mem_append_right _ h))) (by decide +kernel))
set_option maxRecDepth 20000 in
theorem gL_does_X2_mail : GoodIn wsL_does (wsV RL 64 RX2 yX2_mail wsX2_mail) := goodIn_app (goodIn_of _ (by decide +kernel)) ggL_does_X2_mail
set_option maxRecDepth 20000 in
theorem ggL_does_X2_check : GoodIn wsL_does wsX2_check := goodIn_ca (goodIn_ca (goodIn_r _ [165, 157, 8, 141, 142, 143, 4, 144, 45, 12, 13, 14, 15, 16, 17, 18, 19, 20, 21, 22, 23, 24, 166, 167, 168, 11, 169, 34, 38, 37, 170, 171, 172, 173, 174, 183, 184, 185, 186, 187, 188, 189, 190, 191, 192, 193, 194, 195, 196, 197, 198, 199, 200, 201, 202] (by decide +kernel) (by decide +kernel)) (goodIn_sub (fun _ h => List.mem_cons_of_mem _ (List.mem_append_left _ (List.mem_append_left _ (List.mem_append_right _ h)))) (by decide +kernel))) (goodIn_sub (fun _ h => List.mem_cons_of_mem _ (List.mem_append_left _ (List.mem_append_right _ h))) (by decide +kernel))
set_option maxRecDepth 20000 in
theorem gL_does_X2_check : GoodIn wsL_does (wsV RL 68 RX2 yX2_check wsX2_check) := goodIn_app (goodIn_of _ (by decide +kernel)) ggL_does_X2_check
set_option maxRecDepth 20000 in
theorem ggL_does_X2_owes : GoodIn wsL_does wsX2_owes := goodIn_ca (goodIn_r _ [178, 46, 47, 48, 4, 49, 50, 51, 7, 8, 12, 13, 14, 191, 192, 193, 194, 195, 196, 197, 198, 199, 200, 201, 202, 183, 184, 185, 186, 187, 188, 189, 190] (by decide +kernel) (by decide +kernel)) (goodIn_sub (fun _ h => List.mem_cons_of_mem _ (List.mem_append_right _ h)) (by decide +kernel))
set_option maxRecDepth 20000 in
theorem gL_does_X2_owes : GoodIn wsL_does (wsV RL 71 RX2 yX2_owes wsX2_owes) := goodIn_app (goodIn_of _ (by decide +kernel)) ggL_does_X2_owes
set_option maxRecDepth 20000 in
theorem ggL_does_X2_net : GoodIn wsL_does wsX2_net := goodIn_ca (goodIn_r _ [182, 46, 47, 48, 4, 49, 50, 51, 7, 8, 12, 13, 14, 191, 192, 193, 194, 195, 196, 197, 198, 199, 200, 201, 202, 183, 184, 185, 186, 187, 188, 189, 190] (by decide +kernel) (by decide +kernel)) (goodIn_sub (fun _ h => List.mem_cons_of_mem _ (List.mem_append_right _ h)) (by decide +kernel))
set_option maxRecDepth 20000 in
theorem gL_does_X2_net : GoodIn wsL_does (wsV RL 74 RX2 yX2_net wsX2_net) := goodIn_app (goodIn_of _ (by decide +kernel)) ggL_does_X2_net
